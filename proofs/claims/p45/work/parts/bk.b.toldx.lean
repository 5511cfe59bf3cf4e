noncomputable def mj_nm (f ff ft : Nat → Int32) : Nat → Nat
  | 0 => 0
  | k + 1 => mj_nm f ff ft k + mj_hN f (ff k).toNatClampNeg ((ft k).toNatClampNeg - (ff k).toNatClampNeg)
theorem mj_nm_yes {f ff ft : Nat → Int32} {k k2 : Nat} (h : mj_hm f (ff k).toNatClampNeg ((ft k).toNatClampNeg - (ff k).toNatClampNeg)) (e : k2 = k + 1) : mj_nm f ff ft k2 = mj_nm f ff ft k + 1 := by
  subst e
  simp only [mj_nm]
  rw [mj_hN_yes h]
theorem mj_nm_no {f ff ft : Nat → Int32} {k k2 : Nat} (h : ¬ mj_hm f (ff k).toNatClampNeg ((ft k).toNatClampNeg - (ff k).toNatClampNeg)) (e : k2 = k + 1) : mj_nm f ff ft k2 = mj_nm f ff ft k := by
  subst e
  simp only [mj_nm]
  rw [mj_hN_no h, Nat.add_zero]
theorem mj_nm_le (f ff ft : Nat → Int32) : ∀ k : Nat, mj_nm f ff ft k ≤ k
  | 0 => Nat.le_refl 0
  | k + 1 => by
    have := mj_nm_le f ff ft k
    by_cases h : mj_hm f (ff k).toNatClampNeg ((ft k).toNatClampNeg - (ff k).toNatClampNeg)
    · rw [mj_nm_yes h rfl]; omega
    · rw [mj_nm_no h rfl]; omega
theorem mj_nm_eq {f ff ft nl nr : Nat → Int32} {nd : Int} (h : ∀ k : Nat, (k : Int) < nd → (ff k).toInt = (nl k).toInt ∧ (ft k).toInt = (nr k).toInt) : ∀ k : Nat, (k : Int) ≤ nd → mj_nm f ff ft k = mj_nm f nl nr k
  | 0, _ => rfl
  | k + 1, hk => by
    have h1 := h k (by omega)
    simp only [mj_nm]
    rw [mj_nm_eq h k (by omega), ki_nateq h1.1, ki_nateq h1.2]
def mj_dp : Nat → Nat → Nat
  | 0, n => if n = 0 then 0 else 1
  | d + 1, n => if n < 2 then n else 1 + mj_dp d (n - n / 2)
theorem mj_dp_small {d n : Nat} (h : n < 2) : mj_dp d n = n := by
  cases d with
  | zero =>
    simp only [mj_dp]
    split <;> omega
  | succ d =>
    simp only [mj_dp]
    rw [if_pos h]
theorem mj_dp_big {d n n2 : Nat} (h : 2 ≤ n) (e : n2 = n - n / 2) : mj_dp (d + 1) n = 1 + mj_dp d n2 := by
  subst e
  simp only [mj_dp]
  rw [if_neg (by omega)]
theorem mj_dp_le : ∀ d n : Nat, mj_dp d n ≤ d + 1
  | 0, n => by
    simp only [mj_dp]
    split <;> omega
  | d + 1, n => by
    have := mj_dp_le d (n - n / 2)
    simp only [mj_dp]
    split <;> omega
theorem mj_dp_mono : ∀ (d a b : Nat), a ≤ b → mj_dp d a ≤ mj_dp d b
  | 0, a, b, h => by
    simp only [mj_dp]
    split <;> split <;> omega
  | d + 1, a, b, h => by
    have := mj_dp_mono d (a - a / 2) (b - b / 2) (by omega)
    simp only [mj_dp]
    split <;> split <;> omega
theorem mj_dp_up : ∀ (d n : Nat), n ≤ 2 ^ d → mj_dp (d + 1) n = mj_dp d n
  | 0, n, h => by
    have h1 : n ≤ 1 := h
    rw [mj_dp_small (by omega), mj_dp_small (by omega)]
  | d + 1, n, h => by
    by_cases h2 : n < 2
    · rw [mj_dp_small h2, mj_dp_small h2]
    · have e : 2 ^ (d + 1) = 2 * 2 ^ d := by rw [Nat.pow_succ, Nat.mul_comm]
      have h3 := mj_dp_up d (n - n / 2) (by omega)
      have h4 : mj_dp (d + 1 + 1) n = 1 + mj_dp (d + 1) (n - n / 2) := mj_dp_big (by omega) rfl
      have h5 : mj_dp (d + 1) n = 1 + mj_dp d (n - n / 2) := mj_dp_big (by omega) rfl
      omega
theorem mj_dp_step {n n2 : Nat} (h : 2 ≤ n) (hn : n ≤ 160) (e : n2 = n - n / 2) : mj_dp 8 n = 1 + mj_dp 8 n2 := by
  have h1 : mj_dp 8 n = 1 + mj_dp 7 n2 := mj_dp_big h e
  have h2 : mj_dp 8 n2 = mj_dp 7 n2 := mj_dp_up 7 n2 (show n2 ≤ 128 by omega)
  omega
theorem mj_dp_node {d n a b : Nat} (h : 2 ≤ n) (ea : a = n / 2) (eb : b = n - n / 2) : mj_dp (d + 1) n = 1 + mj_dp d b ∧ mj_dp d a ≤ mj_dp d b := ⟨mj_dp_big h eb, mj_dp_mono d a b (by omega)⟩
def mj_tld (f ff ft fo : Nat → Int32) (nd n sl : Int32) (what : Int) (r : Int32) : Prop := (what = 0 ∧ r = n) ∨ (what = 1 ∧ r = sl) ∨ (what = 2 ∧ r = nd) ∨ (what = 3 ∧ r.toInt = (mj_nm f ff ft nd.toNatClampNeg : Int)) ∨ (what = 4 ∧ r.toInt = (mj_dp 8 n.toNatClampNeg : Int)) ∨ (what = 5 ∧ n.toInt = 0 ∧ r = 0) ∨ (what = 5 ∧ 0 < n.toInt ∧ r = fo 0) ∨ (what = 6 ∧ r = mj_tot fo 0 nd.toNatClampNeg) ∨ ((what < 0 ∨ 6 < what) ∧ r = -1)
def mj_tl0 (n sl : Int32) (what : Int) (r : Int32) : Prop := (what = 0 ∧ r = n) ∨ (what = 1 ∧ r = sl) ∨ (what = 5 ∧ n.toInt = 0 ∧ r = 0) ∨ ((what < 0 ∨ 6 < what) ∧ r = -1)
theorem mj_tl0_uni {f ff ft fo : Nat → Int32} {nd n sl x y : Int32} {w : Int} (a : mj_tl0 n sl w x) (b : mj_tld f ff ft fo nd n sl w y) : x = y := by
  unfold mj_tl0 at a
  unfold mj_tld at b
  rcases a with ⟨a1, a2⟩ | ⟨a1, a2⟩ | ⟨a1, a3, a2⟩ | ⟨a1, a2⟩ <;> rcases b with ⟨b1, b2⟩ | ⟨b1, b2⟩ | ⟨b1, b2⟩ | ⟨b1, b2⟩ | ⟨b1, b2⟩ | ⟨b1, b3, b2⟩ | ⟨b1, b3, b2⟩ | ⟨b1, b2⟩ | ⟨b1, b2⟩ <;> first | (exfalso; omega) | (rw [a2, b2])
theorem mj_tld_uni {f ff ft fo nl nr fl : Nat → Int32} {nd nd2 n sl x y : Int32} {w : Int} (h : ∀ k : Nat, (k : Int) < nd.toInt → (ff k).toInt = (nl k).toInt ∧ (ft k).toInt = (nr k).toInt ∧ fo k = fl k) (e : nd = nd2) (h0 : 0 ≤ nd.toInt) (hn : 0 < n.toInt → 0 < nd.toInt) (a : mj_tld f ff ft fo nd n sl w x) (b : mj_tld f nl nr fl nd2 n sl w y) : x = y := by
  subst e
  have h3 : mj_nm f ff ft nd.toNatClampNeg = mj_nm f nl nr nd.toNatClampNeg := mj_nm_eq (fun k hk => ⟨(h k hk).1, (h k hk).2.1⟩) _ (Int.le_of_eq (ki_nat nd rfl h0))
  have h5 : 0 < n.toInt → fo 0 = fl 0 := fun q => (h 0 (hn q)).2.2
  have h6 : mj_tot fo 0 nd.toNatClampNeg = mj_tot fl 0 nd.toNatClampNeg := mj_tot_eq _ (fun j hj => by
    rw [Nat.zero_add]
    exact (h j (by have := ki_nat nd rfl h0; omega)).2.2)
  unfold mj_tld at a b
  rcases a with ⟨a1, a2⟩ | ⟨a1, a2⟩ | ⟨a1, a2⟩ | ⟨a1, a2⟩ | ⟨a1, a2⟩ | ⟨a1, a3, a2⟩ | ⟨a1, a3, a2⟩ | ⟨a1, a2⟩ | ⟨a1, a2⟩ <;> rcases b with ⟨b1, b2⟩ | ⟨b1, b2⟩ | ⟨b1, b2⟩ | ⟨b1, b2⟩ | ⟨b1, b2⟩ | ⟨b1, b3, b2⟩ | ⟨b1, b3, b2⟩ | ⟨b1, b2⟩ | ⟨b1, b2⟩ <;> first | (exfalso; omega) | exact a2.trans b2.symm | exact a2.trans ((h5 a3).trans b2.symm) | exact a2.trans (h6.trans b2.symm) | exact Int32.toInt_inj.mp (a2.trans b2.symm) | exact Int32.toInt_inj.mp (by rw [a2, h3]; exact b2.symm)

set_option maxHeartbeats 4000000 in
set_option maxRecDepth 100000 in
theorem c_X2_nodesWithMajority_x (l : Launch) (dC : Nat → ClassId) (dI : Nat → Nat → Nat) (q_t : Nat) (q_row : Nat) (q_joined : Nat) (q_from : Nat) (q_to : Nat) (q_size : Nat) (q_lossOf : Nat) (q_lessBy : Nat) (q_value : Nat) (q_number : Nat) (nodes : Int32) (here : Int32) (q_cell : Nat) (cyI : ClassId) (len : Int32) (f : Nat → Int32) (ff : Nat → Int32) (ft : Nat → Int32) (b0 : 0 ≤ nodes.toInt) (c0 : nodes.toInt ≤ 319) (c1 : len.toInt ≤ 160) (t0 : treeOk ff ft nodes.toInt len.toInt) (s1 : shorts f) : Met l yX2_nodesWithMajority wsX2_nodesWithMajority ({ frames := 2, cells := 0, slots := 0, locals := 90 }) (va_Pc [.ref q_t] (fun U => va_P (dC, dI) vwCl [kx_2 q_t q_row q_joined q_from q_to q_size q_lossOf q_lessBy q_value q_number nodes here, kx_0 q_row q_cell len, kx_a q_cell cyI 160 f, kx_a q_from cyI 319 ff, kx_a q_to cyI 319 ft] U.heap ∧ va_K (dC, dI) vwCl [(cyI, .int)] U ∧ va_Nw (.methodLinkNest RX0 28 yX4_isHeavy RX4) U)) (vp_Si (fun r : Int32 => r.toInt = (mj_nm f ff ft nodes.toNatClampNeg : Int))) 0 0 (fun _ => False) := by
  refine Met.ofW (cc := cX2_nodesWithMajority) (maxL := 3) (ret := (some .int)) (by decide) rfl ?_
  intro p e s m args below meth c s₁ B hml hv
  obtain ⟨rfl, hP, hK, hN0⟩ := hv
  have hx := B.exec
  have hb := B.bytes
  have hr := B.returns
  have hts := atoms_spec (ws := wsX2_nodesWithMajority) B.pre
  have hown : s.vm.findClass RX2 = some m.cls := findClass_of_methodNamed B.named
  have hlocks := B.notSynchronized
  have hP : va_P (dC, dI) vwCl [kx_2 q_t q_row q_joined q_from q_to q_size q_lossOf q_lessBy q_value q_number nodes here, kx_0 q_row q_cell len, kx_a q_cell cyI 160 f, kx_a q_from cyI 319 ff, kx_a q_to cyI 319 ft] s.heap := hP
  have hl := lv_entry ([.ref q_t]) (n := 3) (Nat.le_of_ble_eq_true rfl)
  rw [lg_entry_eq]
  generalize (lg_sl ([.ref q_t]) ++ List.replicate (3 - (lg_sl ([.ref q_t])).length) Slot.unset).toArray = ls at hl ⊢
  have hl : lv_has ls 3 [(0, .ref q_t)] := hl
  have hf_50 := hts (.fieldLink RX2 50 "MajorityIndex$Tree" "nodes" "I") (List.mem_of_getElem? (i := 1) rfl)
  have hi_2 : ∀ w ∈ u_ws RX2 TX2 11, w ∈ wsX2_nodesWithMajority := fun w h => List.mem_cons_of_mem _ (List.mem_append_left _ (List.mem_append_right _ h))
  have hf_40 := hts (.fieldLink RX2 40 "MajorityIndex$Tree" "row" "LMajorityIndex$Row;") (List.mem_of_getElem? (i := 2) rfl)
  have hf_18 := hts (.fieldLink RX2 18 "MajorityIndex$Tree" "from" "[I") (List.mem_of_getElem? (i := 3) rfl)
  have hf_22 := hts (.fieldLink RX2 22 "MajorityIndex$Tree" "to" "[I") (List.mem_of_getElem? (i := 4) rfl)
  have hk_120 := hts (.constant RX2 120 (-40000)) (List.mem_of_getElem? (i := 5) rfl)
  have n_nd := ki_nat nodes rfl (om_10 b0)
  refine lv_iconst (v := 0) hx hb dX2_nodesWithMajority_0 (by decide) ?_
  refine lv_istore_n (lv' := [(1, .int 0), (0, .ref q_t)]) hx hb dX2_nodesWithMajority_1 rfl hl (by decide) rfl (fun ls hl => ?_)
  refine lv_iconst (v := 0) hx hb dX2_nodesWithMajority_2 (by decide) ?_
  refine lv_istore_n (lv' := [(2, .int 0), (1, .int 0), (0, .ref q_t)]) hx hb dX2_nodesWithMajority_3 rfl hl (by decide) rfl (fun ls hl => ?_)
  have LP1 : ∀ (n : Nat) (i : Int32) (many : Int32), (0 ≤ i.toInt) → (many.toInt = (mj_nm f ff ft i.toNatClampNeg : Int)) → (i.toInt ≤ nodes.toInt) → (nodes.toInt - i.toInt).toNat < n → ∀ (ls : Array Slot), lv_has ls 3 [(2, .int i), (1, .int many), (0, .ref q_t)] → W p l e (headSpec wsX2_nodesWithMajority ({ frames := 2, cells := 0, slots := 0, locals := 90 })).room s m ([.ref q_t] : List Value).toArray below meth c s.heap [] 0 0 (MQ below (vp_Si (fun r : Int32 => r.toInt = (mj_nm f ff ft nodes.toNatClampNeg : Int))) ([.ref q_t] : List Value).toArray s 0 0 (fun _ => False)) (F0 m 4 ls []) := by
    intro n
    induction n with
    | zero => intro i many LP1_h0 LP1_h1 LP1_h2 hn; exact absurd hn (Nat.not_lt_zero _)
    | succ n ih1 =>
      intro i many LP1_h0 LP1_h1 LP1_h2 hn1 ls hl
      have n_i := ki_nat i rfl (om_10 LP1_h0)
      have hle := mj_nm_le f ff ft i.toNatClampNeg
      refine lv_iload_n hx hb dX2_nodesWithMajority_4 rfl (lv_at hl 0 rfl) ?_
      refine lv_aload_n hx hb dX2_nodesWithMajority_5 rfl (lv_at hl 2 rfl) ?_
      refine va_get (D := (dC, dI)) (ci := 2) (v := .int nodes) (C := RX2) (T := TX2) (N := 11) hx hb hts hi_2 hown hK hP 0 rfl rfl 9 (by decide) hf_50 (fun _ h9 => h9) rfl dX2_nodesWithMajority_6 ?_
      refine lv_icmp_ge (tgt := 45) hx hb dX2_nodesWithMajority_9 (by decide) (fun c_1 => ?_) (fun c_1 => ?_)
      · have i_1 : nodes.toInt ≤ i.toInt := kc_le c_1
        refine lv_iload_n hx hb dX2_nodesWithMajority_45 rfl (lv_at hl 1 rfl) ?_
        exact W.iret (v := many) hx hb hr (hlocks := hlocks) (fun t ht hW => ⟨many, rfl, (by (try dsimp only); rw [show nodes.toNatClampNeg = i.toNatClampNeg by omega]; exact LP1_h1), ht⟩) (fun q hq => by cases hq) dX2_nodesWithMajority_46
      · have i_1 : i.toInt < nodes.toInt := kc_nle c_1
        refine lv_aload_n hx hb dX2_nodesWithMajority_12 rfl (lv_at hl 2 rfl) ?_
        refine va_get (D := (dC, dI)) (ci := 2) (v := .ref q_row) (C := RX2) (T := TX2) (N := 11) hx hb hts hi_2 hown hK hP 0 rfl rfl 0 (by decide) hf_40 (fun _ h9 => h9) rfl dX2_nodesWithMajority_13 ?_
        refine lv_aload_n hx hb dX2_nodesWithMajority_16 rfl (lv_at hl 2 rfl) ?_
        refine va_get (D := (dC, dI)) (ci := 2) (v := .ref q_from) (C := RX2) (T := TX2) (N := 11) hx hb hts hi_2 hown hK hP 0 rfl rfl 2 (by decide) hf_18 (fun _ h9 => h9) rfl dX2_nodesWithMajority_17 ?_
        refine lv_iload_n hx hb dX2_nodesWithMajority_20 rfl (lv_at hl 0 rfl) ?_
        refine va_iald hx hb hK hP 3 0 rfl rfl (ki_in (om_10 LP1_h0) (om_115 c0 i_1)) dX2_nodesWithMajority_21 ?_
        refine lv_topi (fun y_2 ey_2 => ?_)
        have j_2 : y_2.toInt = (ff i.toNatClampNeg).toInt := congrArg Int32.toInt ey_2
        have n_3 : (i.toNatClampNeg : Int) = i.toInt := ki_nat _ rfl (om_10 LP1_h0)
        have i_4 := t0 i.toNatClampNeg (by omega)
        unfold okAt at i_4
        refine lv_aload_n hx hb dX2_nodesWithMajority_22 rfl (lv_at hl 2 rfl) ?_
        refine va_get (D := (dC, dI)) (ci := 2) (v := .ref q_to) (C := RX2) (T := TX2) (N := 11) hx hb hts hi_2 hown hK hP 0 rfl rfl 3 (by decide) hf_22 (fun _ h9 => h9) rfl dX2_nodesWithMajority_23 ?_
        refine lv_iload_n hx hb dX2_nodesWithMajority_26 rfl (lv_at hl 0 rfl) ?_
        refine va_iald hx hb hK hP 4 0 rfl rfl (ki_in (om_10 LP1_h0) (om_115 c0 i_1)) dX2_nodesWithMajority_27 ?_
        refine lv_topi (fun y_5 ey_5 => ?_)
        have j_5 : y_5.toInt = (ft i.toNatClampNeg).toInt := congrArg Int32.toInt ey_5
        have n_6 : (i.toNatClampNeg : Int) = i.toInt := ki_nat _ rfl (om_10 LP1_h0)
        have i_7 := t0 i.toNatClampNeg (by omega)
        unfold okAt at i_7
        have hPc := hP.sub (ws' := [kx_0 q_row q_cell len, kx_a q_cell cyI 160 f]) [1, 2] rfl
        have hKc := hK
        refine vp_callSi (W.runV (As := [.int y_2, .int y_5]) (rest := []) ⟨hx, hb, hml, hown, hts⟩ (c_X0_leader_x l dC dI q_row q_cell cyI len f y_2 y_5 (by omega) (by omega) (by omega)) (cwV 2 hts gX2_nodesWithMajority_X0_leader rfl rfl rfl (by decide +kernel) ⟨Nat.le_of_ble_eq_true rfl, Nat.le_of_ble_eq_true rfl⟩) ⟨fun a U g mk q => by obtain ⟨q0, qP, qK, qn0⟩ := q; exact ⟨q0, qP, va_K.moved (u := U) (U := U.calling g mk a) (Vm.Alike.refl U.vm) qK, va_Nw.same (u := U) (U := U.calling g mk a) rfl rfl qn0⟩, kx_rc0 hKc hPc (q0 := 0) rfl, fun U hU hW => ⟨rfl, by rw [hU]; exact hPc, va_K.moved hW.alike hKc, va_Nw.warmM hW hN0⟩⟩ rfl rfl hl.1 rfl (lv_room (Nat.le_of_ble_eq_true rfl)) dX2_nodesWithMajority_28 ⟨Nat.le_of_ble_eq_true rfl, Nat.le_of_ble_eq_true rfl⟩) (fun r_8 w_8 => ?_)
        have w_8 : mj_maj f y_2.toNatClampNeg y_5.toNatClampNeg r_8 := w_8
        refine lv_ldc (v := (-40000)) hx hb hown hk_120 dX2_nodesWithMajority_31 ?_
        refine lv_icmp_eq (tgt := 39) hx hb dX2_nodesWithMajority_33 (by decide) (fun c_9 => ?_) (fun c_9 => ?_)
        · have i_9 : r_8.toInt = (-40000) := kc_eq c_9
          obtain ⟨x_10, ex_10⟩ : ∃ y : Int32, y = i + 1 := ⟨_, rfl⟩
          have i_10 : x_10.toInt = i.toInt + 1 := ki_add ex_10 rfl rfl (om_13 LP1_h0) (om_370 c0 LP1_h2)
          refine lv_iinc (v := x_10) (lv' := [(2, .int x_10), (1, .int many), (0, .ref q_t)]) hx hb dX2_nodesWithMajority_39 hl (k := 0) rfl (by rw [ex_10]; rfl) (by decide) rfl (fun ls hl => ?_)
          refine lv_goto (tgt := 4) hx hb dX2_nodesWithMajority_42 (by decide) ?_
          have n_11 := ki_nat x_10 rfl (om_34 LP1_h0 i_10)
          have n_f := ki_nat y_2 rfl (by omega)
          have n_t := ki_nat y_5 rfl (by omega)
          have hmi := mj_maj_hm w_8 s1 (by omega) (by omega)
          rw [ey_2, ey_5] at hmi
          have st := mj_nm_no (f := f) (ff := ff) (ft := ft) (k := i.toNatClampNeg) (k2 := x_10.toNatClampNeg) (fun h => hmi.mpr h c_9) (by omega)
          exact ih1 x_10 many (om_34 LP1_h0 i_10) (by rw [st]; omega) (om_54 i_1 i_10) (om_mu hn1 (om_5 i_10) (om_6 i_1)) ls (lv_sub hl [0, 1, 2] rfl)
        · have i_9 : ¬ r_8.toInt = (-40000) := kc_ne c_9
          obtain ⟨x_12, ex_12⟩ : ∃ y : Int32, y = many + 1 := ⟨_, rfl⟩
          have i_12 : x_12.toInt = many.toInt + 1 := ki_add ex_12 rfl rfl (by omega) (by omega)
          refine lv_iinc (v := x_12) (lv' := [(1, .int x_12), (2, .int i), (0, .ref q_t)]) hx hb dX2_nodesWithMajority_36 hl (k := 1) rfl (by rw [ex_12]; rfl) (by decide) rfl (fun ls hl => ?_)
          obtain ⟨x_13, ex_13⟩ : ∃ y : Int32, y = i + 1 := ⟨_, rfl⟩
          have i_13 : x_13.toInt = i.toInt + 1 := ki_add ex_13 rfl rfl (om_13 LP1_h0) (om_370 c0 LP1_h2)
          refine lv_iinc (v := x_13) (lv' := [(2, .int x_13), (1, .int x_12), (0, .ref q_t)]) hx hb dX2_nodesWithMajority_39 hl (k := 1) rfl (by rw [ex_13]; rfl) (by decide) rfl (fun ls hl => ?_)
          refine lv_goto (tgt := 4) hx hb dX2_nodesWithMajority_42 (by decide) ?_
          have n_14 := ki_nat x_13 rfl (om_34 LP1_h0 i_13)
          have n_f := ki_nat y_2 rfl (by omega)
          have n_t := ki_nat y_5 rfl (by omega)
          have hmi := mj_maj_hm w_8 s1 (by omega) (by omega)
          rw [ey_2, ey_5] at hmi
          have st := mj_nm_yes (f := f) (ff := ff) (ft := ft) (k := i.toNatClampNeg) (k2 := x_13.toNatClampNeg) (hmi.mp c_9) (by omega)
          exact ih1 x_13 x_12 (om_34 LP1_h0 i_13) (by rw [st]; omega) (om_54 i_1 i_13) (om_mu hn1 (om_5 i_13) (om_6 i_1)) ls (lv_sub hl [0, 1, 2] rfl)
  have k_15 : (0 : Int32).toInt = 0 := rfl
  have k_16 : (0 : Int32).toInt = 0 := rfl
  exact LP1 ((nodes.toInt - 0 : Int).toNat + 1) 0 0 om_35 rfl (om_10 b0) (Nat.lt_succ_self _) ls (lv_sub hl [0, 1, 2] rfl)

set_option maxHeartbeats 4000000 in
set_option maxRecDepth 100000 in
theorem c_X2_deepest_x (l : Launch) (dC : Nat → ClassId) (dI : Nat → Nat → Nat) (q_t : Nat) (q_row : Nat) (q_joined : Nat) (q_from : Nat) (q_to : Nat) (q_size : Nat) (q_lossOf : Nat) (q_lessBy : Nat) (q_value : Nat) (q_number : Nat) (nodes : Int32) (here : Int32) (q_cell : Nat) (len : Int32) (a0 : 0 ≤ len.toInt) (a1 : len.toInt ≤ 160) (nd : (len.toInt = 0 ∧ nodes.toInt = 0) ∨ (0 < len.toInt ∧ nodes.toInt = 2 * len.toInt - 1)) : Met l yX2_deepest wsX2_deepest ({ frames := 0, cells := 0, slots := 0, locals := 0 }) (va_Pc [.ref q_t] (fun U => va_P (dC, dI) vwCl [kx_2 q_t q_row q_joined q_from q_to q_size q_lossOf q_lessBy q_value q_number nodes here, kx_0 q_row q_cell len] U.heap ∧ va_K (dC, dI) vwCl [] U)) (vp_Si (fun r : Int32 => r.toInt = (mj_dp 8 len.toNatClampNeg : Int))) 0 0 (fun _ => False) := by
  refine kx_stS (ws := wsX2_deepest) (cc := cX2_deepest) (maxL := 3) (ret := (some .int)) (by decide) rfl (Nat.le_of_ble_eq_true rfl) ?_
  intro p e s m below meth c ls hx hb hr hlocks hts hown hml hP hK hl
  have hown : s.vm.findClass RX2 = some m.cls := hown
  have hl : lv_has ls 3 [(0, .ref q_t)] := hl
  have hf_50 := hts (.fieldLink RX2 50 "MajorityIndex$Tree" "nodes" "I") (List.mem_of_getElem? (i := 1) rfl)
  have hi_2 : ∀ w ∈ u_ws RX2 TX2 11, w ∈ wsX2_deepest := fun w h => List.mem_cons_of_mem _ (List.mem_append_left _ (List.mem_append_right _ h))
  have hf_40 := hts (.fieldLink RX2 40 "MajorityIndex$Tree" "row" "LMajorityIndex$Row;") (List.mem_of_getElem? (i := 2) rfl)
  have hf_44 := hts (.fieldLink RX2 44 "MajorityIndex$Row" "length" "I") (List.mem_of_getElem? (i := 3) rfl)
  have hi_0 : ∀ w ∈ u_ws RX0 TX0 2, w ∈ wsX2_deepest := fun w h => List.mem_cons_of_mem _ (List.mem_append_right _ h)
  have n_len := ki_nat len rfl (om_10 a0)
  refine lv_aload_n hx hb dX2_deepest_0 rfl (lv_at hl 0 rfl) ?_
  refine va_get (D := (dC, dI)) (ci := 2) (v := .int nodes) (C := RX2) (T := TX2) (N := 11) hx hb hts hi_2 hown hK hP 0 rfl rfl 9 (by decide) hf_50 (fun _ h9 => h9) rfl dX2_deepest_1 ?_
  refine lv_if_ne (tgt := 11) hx hb dX2_deepest_4 (by decide) (fun c_1 => ?_) (fun c_1 => ?_)
  · have i_1 : ¬ nodes.toInt = 0 := kc_ne c_1
    refine lv_iconst (v := 1) hx hb dX2_deepest_11 (by decide) ?_
    refine lv_istore_n (lv' := [(1, .int 1), (0, .ref q_t)]) hx hb dX2_deepest_12 rfl hl (by decide) rfl (fun ls hl => ?_)
    refine lv_aload_n hx hb dX2_deepest_13 rfl (lv_at hl 1 rfl) ?_
    refine va_get (D := (dC, dI)) (ci := 2) (v := .ref q_row) (C := RX2) (T := TX2) (N := 11) hx hb hts hi_2 hown hK hP 0 rfl rfl 0 (by decide) hf_40 (fun _ h9 => h9) rfl dX2_deepest_14 ?_
    refine va_get (D := (dC, dI)) (ci := 0) (v := .int len) (C := RX0) (T := TX0) (N := 2) hx hb hts hi_0 hown hK hP 1 rfl rfl 1 (by decide) hf_44 (fun _ h9 => h9) rfl dX2_deepest_17 ?_
    refine lv_istore_n (lv' := [(2, .int len), (1, .int 1), (0, .ref q_t)]) hx hb dX2_deepest_20 rfl hl (by decide) rfl (fun ls hl => ?_)
    have LP1 : ∀ (n : Nat) (deep : Int32) (pl : Int32), (0 ≤ pl.toInt) → (pl.toInt ≤ 160) → ((pl.toInt = 0 ∧ len.toInt = 0 ∧ deep.toInt = 0) ∨ (1 ≤ pl.toInt ∧ deep.toInt + (mj_dp 8 pl.toNatClampNeg : Int) = 1 + (mj_dp 8 len.toNatClampNeg : Int))) → (pl.toInt).toNat < n → ∀ (ls : Array Slot), lv_has ls 3 [(2, .int pl), (1, .int deep), (0, .ref q_t)] → W p l e (headSpec wsX2_deepest ({ frames := 0, cells := 0, slots := 0, locals := 0 })).room s m ([.ref q_t] : List Value).toArray below meth c s.heap [] 0 0 (MQ below (vp_Si (fun r : Int32 => r.toInt = (mj_dp 8 len.toNatClampNeg : Int))) ([.ref q_t] : List Value).toArray s 0 0 (fun _ => False)) (F0 m 21 ls []) := by
      intro n
      induction n with
      | zero => intro deep pl LP1_h0 LP1_h1 LP1_h2 hn; exact absurd hn (Nat.not_lt_zero _)
      | succ n ih1 =>
        intro deep pl LP1_h0 LP1_h1 LP1_h2 hn1 ls hl
        have n_pl := ki_nat pl rfl (om_10 LP1_h0)
        have hle := mj_dp_le 8 len.toNatClampNeg
        have hle2 := mj_dp_le 8 pl.toNatClampNeg
        refine lv_iload_n hx hb dX2_deepest_21 rfl (lv_at hl 0 rfl) ?_
        refine lv_iconst (v := 1) hx hb dX2_deepest_22 (by decide) ?_
        refine lv_icmp_le (tgt := 38) hx hb dX2_deepest_23 (by decide) (fun c_2 => ?_) (fun c_2 => ?_)
        · have i_2 : pl.toInt ≤ 1 := kc_le c_2
          refine lv_iload_n hx hb dX2_deepest_38 rfl (lv_at hl 1 rfl) ?_
          have d_0 : mj_dp 8 0 = 0 := rfl
          have d_1 : mj_dp 8 1 = 1 := rfl
          exact W.iret (v := deep) hx hb hr (hlocks := hlocks) (fun t ht hW => ⟨deep, rfl, (by (try dsimp only); rcases LP1_h2 with h | h; (rw [show len.toNatClampNeg = 0 by omega, d_0]; omega); (rw [show pl.toNatClampNeg = 1 by omega, d_1] at h; omega)), ht⟩) (fun q hq => by cases hq) dX2_deepest_39
        · have i_2 : 1 < pl.toInt := kc_nle c_2
          obtain ⟨x_3, ex_3⟩ : ∃ y : Int32, y = deep + 1 := ⟨_, rfl⟩
          have i_3 : x_3.toInt = deep.toInt + 1 := ki_add ex_3 rfl rfl (by omega) (by omega)
          refine lv_iinc (v := x_3) (lv' := [(1, .int x_3), (2, .int pl), (0, .ref q_t)]) hx hb dX2_deepest_26 hl (k := 1) rfl (by rw [ex_3]; rfl) (by decide) rfl (fun ls hl => ?_)
          refine lv_iload_n hx hb dX2_deepest_29 rfl (lv_at hl 1 rfl) ?_
          refine lv_iload_n hx hb dX2_deepest_30 rfl (lv_at hl 1 rfl) ?_
          refine lv_iconst (v := 2) hx hb dX2_deepest_31 (by decide) ?_
          refine lv_idiv hx hb dX2_deepest_32 (by decide) ?_
          refine lv_topi (fun y_4 ey_4 => ?_)
          have i_4 : y_4.toInt = pl.toInt / 2 := ki_div2 ey_4 rfl (om_130 i_2)
          have d_5 := om_dv i_4
          refine lv_isub hx hb dX2_deepest_33 ?_
          refine lv_topi (fun y_6 ey_6 => ?_)
          have i_6 : y_6.toInt = pl.toInt - y_4.toInt := ki_sub ey_6 rfl rfl (om_131 i_2 d_5.1) (om_132 LP1_h1 d_5.2)
          refine lv_istore_n (lv' := [(2, .int y_6), (1, .int x_3), (0, .ref q_t)]) hx hb dX2_deepest_34 rfl hl (by decide) rfl (fun ls hl => ?_)
          refine lv_goto (tgt := 21) hx hb dX2_deepest_35 (by decide) ?_
          have n_7 := ki_nat y_6 rfl (om_133 i_2 d_5.1 i_6)
          have st := mj_dp_step (n := pl.toNatClampNeg) (n2 := y_6.toNatClampNeg) (by omega) (by omega) (by omega)
          exact ih1 x_3 y_6 (om_133 i_2 d_5.1 i_6) (om_134 LP1_h1 d_5.2 i_6) (by omega) (by omega) ls (lv_sub hl [0, 1, 2] rfl)
    have k_8 : (1 : Int32).toInt = 1 := rfl
    exact LP1 ((len.toInt : Int).toNat + 1) 1 len (om_10 a0) (om_136 a1) (by omega) (Nat.lt_succ_self _) ls (lv_sub hl [0, 1, 2] rfl)
  · have i_1 : nodes.toInt = 0 := kc_eq c_1
    refine lv_iconst (v := 0) hx hb dX2_deepest_7 (by decide) ?_
    refine lv_goto (tgt := 12) hx hb dX2_deepest_8 (by decide) ?_
    refine lv_istore_n (lv' := [(1, .int 0), (0, .ref q_t)]) hx hb dX2_deepest_12 rfl hl (by decide) rfl (fun ls hl => ?_)
    refine lv_aload_n hx hb dX2_deepest_13 rfl (lv_at hl 1 rfl) ?_
    refine va_get (D := (dC, dI)) (ci := 2) (v := .ref q_row) (C := RX2) (T := TX2) (N := 11) hx hb hts hi_2 hown hK hP 0 rfl rfl 0 (by decide) hf_40 (fun _ h9 => h9) rfl dX2_deepest_14 ?_
    refine va_get (D := (dC, dI)) (ci := 0) (v := .int len) (C := RX0) (T := TX0) (N := 2) hx hb hts hi_0 hown hK hP 1 rfl rfl 1 (by decide) hf_44 (fun _ h9 => h9) rfl dX2_deepest_17 ?_
    refine lv_istore_n (lv' := [(2, .int len), (1, .int 0), (0, .ref q_t)]) hx hb dX2_deepest_20 rfl hl (by decide) rfl (fun ls hl => ?_)
    have LP2 : ∀ (n : Nat) (deep : Int32) (pl : Int32), (0 ≤ pl.toInt) → (pl.toInt ≤ 160) → ((pl.toInt = 0 ∧ len.toInt = 0 ∧ deep.toInt = 0) ∨ (1 ≤ pl.toInt ∧ deep.toInt + (mj_dp 8 pl.toNatClampNeg : Int) = 1 + (mj_dp 8 len.toNatClampNeg : Int))) → (pl.toInt).toNat < n → ∀ (ls : Array Slot), lv_has ls 3 [(2, .int pl), (1, .int deep), (0, .ref q_t)] → W p l e (headSpec wsX2_deepest ({ frames := 0, cells := 0, slots := 0, locals := 0 })).room s m ([.ref q_t] : List Value).toArray below meth c s.heap [] 0 0 (MQ below (vp_Si (fun r : Int32 => r.toInt = (mj_dp 8 len.toNatClampNeg : Int))) ([.ref q_t] : List Value).toArray s 0 0 (fun _ => False)) (F0 m 21 ls []) := by
      intro n
      induction n with
      | zero => intro deep pl LP2_h0 LP2_h1 LP2_h2 hn; exact absurd hn (Nat.not_lt_zero _)
      | succ n ih2 =>
        intro deep pl LP2_h0 LP2_h1 LP2_h2 hn2 ls hl
        have n_pl := ki_nat pl rfl (om_10 LP2_h0)
        have hle := mj_dp_le 8 len.toNatClampNeg
        have hle2 := mj_dp_le 8 pl.toNatClampNeg
        refine lv_iload_n hx hb dX2_deepest_21 rfl (lv_at hl 0 rfl) ?_
        refine lv_iconst (v := 1) hx hb dX2_deepest_22 (by decide) ?_
        refine lv_icmp_le (tgt := 38) hx hb dX2_deepest_23 (by decide) (fun c_9 => ?_) (fun c_9 => ?_)
        · have i_9 : pl.toInt ≤ 1 := kc_le c_9
          refine lv_iload_n hx hb dX2_deepest_38 rfl (lv_at hl 1 rfl) ?_
          have d_0 : mj_dp 8 0 = 0 := rfl
          have d_1 : mj_dp 8 1 = 1 := rfl
          exact W.iret (v := deep) hx hb hr (hlocks := hlocks) (fun t ht hW => ⟨deep, rfl, (by (try dsimp only); rcases LP2_h2 with h | h; (rw [show len.toNatClampNeg = 0 by omega, d_0]; omega); (rw [show pl.toNatClampNeg = 1 by omega, d_1] at h; omega)), ht⟩) (fun q hq => by cases hq) dX2_deepest_39
        · have i_9 : 1 < pl.toInt := kc_nle c_9
          obtain ⟨x_10, ex_10⟩ : ∃ y : Int32, y = deep + 1 := ⟨_, rfl⟩
          have i_10 : x_10.toInt = deep.toInt + 1 := ki_add ex_10 rfl rfl (by omega) (by omega)
          refine lv_iinc (v := x_10) (lv' := [(1, .int x_10), (2, .int pl), (0, .ref q_t)]) hx hb dX2_deepest_26 hl (k := 1) rfl (by rw [ex_10]; rfl) (by decide) rfl (fun ls hl => ?_)
          refine lv_iload_n hx hb dX2_deepest_29 rfl (lv_at hl 1 rfl) ?_
          refine lv_iload_n hx hb dX2_deepest_30 rfl (lv_at hl 1 rfl) ?_
          refine lv_iconst (v := 2) hx hb dX2_deepest_31 (by decide) ?_
          refine lv_idiv hx hb dX2_deepest_32 (by decide) ?_
          refine lv_topi (fun y_11 ey_11 => ?_)
          have i_11 : y_11.toInt = pl.toInt / 2 := ki_div2 ey_11 rfl (om_130 i_9)
          have d_12 := om_dv i_11
          refine lv_isub hx hb dX2_deepest_33 ?_
          refine lv_topi (fun y_13 ey_13 => ?_)
          have i_13 : y_13.toInt = pl.toInt - y_11.toInt := ki_sub ey_13 rfl rfl (om_131 i_9 d_12.1) (om_132 LP2_h1 d_12.2)
          refine lv_istore_n (lv' := [(2, .int y_13), (1, .int x_10), (0, .ref q_t)]) hx hb dX2_deepest_34 rfl hl (by decide) rfl (fun ls hl => ?_)
          refine lv_goto (tgt := 21) hx hb dX2_deepest_35 (by decide) ?_
          have n_14 := ki_nat y_13 rfl (om_133 i_9 d_12.1 i_13)
          have st := mj_dp_step (n := pl.toNatClampNeg) (n2 := y_13.toNatClampNeg) (by omega) (by omega) (by omega)
          exact ih2 x_10 y_13 (om_133 i_9 d_12.1 i_13) (om_134 LP2_h1 d_12.2 i_13) (by omega) (by omega) ls (lv_sub hl [0, 1, 2] rfl)
    have k_15 : (0 : Int32).toInt = 0 := rfl
    exact LP2 ((len.toInt : Int).toNat + 1) 0 len (om_10 a0) (om_136 a1) (by omega) (Nat.lt_succ_self _) ls (lv_sub hl [0, 1, 2] rfl)

set_option maxHeartbeats 4000000 in
set_option maxRecDepth 100000 in
theorem c_X2_allLosses_x (l : Launch) (dC : Nat → ClassId) (dI : Nat → Nat → Nat) (q_t : Nat) (q_row : Nat) (q_joined : Nat) (q_from : Nat) (q_to : Nat) (q_size : Nat) (q_lossOf : Nat) (q_lessBy : Nat) (q_value : Nat) (q_number : Nat) (nodes : Int32) (here : Int32) (cyI : ClassId) (fo : Nat → Int32) (b0 : 0 ≤ nodes.toInt) (c0 : nodes.toInt ≤ 319) : Met l yX2_allLosses wsX2_allLosses ({ frames := 0, cells := 0, slots := 0, locals := 0 }) (va_Pc [.ref q_t] (fun U => va_P (dC, dI) vwCl [kx_2 q_t q_row q_joined q_from q_to q_size q_lossOf q_lessBy q_value q_number nodes here, kx_a q_lossOf cyI 319 fo] U.heap ∧ va_K (dC, dI) vwCl [(cyI, .int)] U)) (vp_Si (fun r : Int32 => r = mj_tot fo 0 nodes.toNatClampNeg)) 0 0 (fun _ => False) := by
  refine kx_stS (ws := wsX2_allLosses) (cc := cX2_allLosses) (maxL := 3) (ret := (some .int)) (by decide) rfl (Nat.le_of_ble_eq_true rfl) ?_
  intro p e s m below meth c ls hx hb hr hlocks hts hown hml hP hK hl
  have hown : s.vm.findClass RX2 = some m.cls := hown
  have hl : lv_has ls 3 [(0, .ref q_t)] := hl
  have hf_50 := hts (.fieldLink RX2 50 "MajorityIndex$Tree" "nodes" "I") (List.mem_of_getElem? (i := 1) rfl)
  have hi_2 : ∀ w ∈ u_ws RX2 TX2 11, w ∈ wsX2_allLosses := fun w h => List.mem_cons_of_mem _ (List.mem_append_right _ h)
  have hf_28 := hts (.fieldLink RX2 28 "MajorityIndex$Tree" "lossOf" "[I") (List.mem_of_getElem? (i := 2) rfl)
  have n_nd := ki_nat nodes rfl (om_10 b0)
  refine lv_iconst (v := 0) hx hb dX2_allLosses_0 (by decide) ?_
  refine lv_istore_n (lv' := [(1, .int 0), (0, .ref q_t)]) hx hb dX2_allLosses_1 rfl hl (by decide) rfl (fun ls hl => ?_)
  refine lv_iconst (v := 0) hx hb dX2_allLosses_2 (by decide) ?_
  refine lv_istore_n (lv' := [(2, .int 0), (1, .int 0), (0, .ref q_t)]) hx hb dX2_allLosses_3 rfl hl (by decide) rfl (fun ls hl => ?_)
  have LP1 : ∀ (n : Nat) (i : Int32) (all : Int32), (0 ≤ i.toInt) → (all = mj_tot fo 0 i.toNatClampNeg) → (i.toInt ≤ nodes.toInt) → (nodes.toInt - i.toInt).toNat < n → ∀ (ls : Array Slot), lv_has ls 3 [(2, .int i), (1, .int all), (0, .ref q_t)] → W p l e (headSpec wsX2_allLosses ({ frames := 0, cells := 0, slots := 0, locals := 0 })).room s m ([.ref q_t] : List Value).toArray below meth c s.heap [] 0 0 (MQ below (vp_Si (fun r : Int32 => r = mj_tot fo 0 nodes.toNatClampNeg)) ([.ref q_t] : List Value).toArray s 0 0 (fun _ => False)) (F0 m 4 ls []) := by
    intro n
    induction n with
    | zero => intro i all LP1_h0 LP1_h1 LP1_h2 hn; exact absurd hn (Nat.not_lt_zero _)
    | succ n ih1 =>
      intro i all LP1_h0 LP1_h1 LP1_h2 hn1 ls hl
      have n_i := ki_nat i rfl (om_10 LP1_h0)
      refine lv_iload_n hx hb dX2_allLosses_4 rfl (lv_at hl 0 rfl) ?_
      refine lv_aload_n hx hb dX2_allLosses_5 rfl (lv_at hl 2 rfl) ?_
      refine va_get (D := (dC, dI)) (ci := 2) (v := .int nodes) (C := RX2) (T := TX2) (N := 11) hx hb hts hi_2 hown hK hP 0 rfl rfl 9 (by decide) hf_50 (fun _ h9 => h9) rfl dX2_allLosses_6 ?_
      refine lv_icmp_ge (tgt := 27) hx hb dX2_allLosses_9 (by decide) (fun c_1 => ?_) (fun c_1 => ?_)
      · have i_1 : nodes.toInt ≤ i.toInt := kc_le c_1
        refine lv_iload_n hx hb dX2_allLosses_27 rfl (lv_at hl 1 rfl) ?_
        exact W.iret (v := all) hx hb hr (hlocks := hlocks) (fun t ht hW => ⟨all, rfl, (by (try dsimp only); rw [LP1_h1, show i.toNatClampNeg = nodes.toNatClampNeg by omega]), ht⟩) (fun q hq => by cases hq) dX2_allLosses_28
      · have i_1 : i.toInt < nodes.toInt := kc_nle c_1
        refine lv_iload_n hx hb dX2_allLosses_12 rfl (lv_at hl 1 rfl) ?_
        refine lv_aload_n hx hb dX2_allLosses_13 rfl (lv_at hl 2 rfl) ?_
        refine va_get (D := (dC, dI)) (ci := 2) (v := .ref q_lossOf) (C := RX2) (T := TX2) (N := 11) hx hb hts hi_2 hown hK hP 0 rfl rfl 5 (by decide) hf_28 (fun _ h9 => h9) rfl dX2_allLosses_14 ?_
        refine lv_iload_n hx hb dX2_allLosses_17 rfl (lv_at hl 0 rfl) ?_
        refine va_iald hx hb hK hP 1 0 rfl rfl (ki_in (om_10 LP1_h0) (om_115 c0 i_1)) dX2_allLosses_18 ?_
        refine lv_topi (fun y_2 ey_2 => ?_)
        have j_2 : y_2.toInt = (fo i.toNatClampNeg).toInt := congrArg Int32.toInt ey_2
        refine lv_iadd hx hb dX2_allLosses_19 ?_
        refine lv_topi (fun y_3 ey_3 => ?_)
        refine lv_istore_n (lv' := [(1, .int y_3), (2, .int i), (0, .ref q_t)]) hx hb dX2_allLosses_20 rfl hl (by decide) rfl (fun ls hl => ?_)
        obtain ⟨x_4, ex_4⟩ : ∃ y : Int32, y = i + 1 := ⟨_, rfl⟩
        have i_4 : x_4.toInt = i.toInt + 1 := ki_add ex_4 rfl rfl (om_13 LP1_h0) (om_370 c0 LP1_h2)
        refine lv_iinc (v := x_4) (lv' := [(2, .int x_4), (1, .int y_3), (0, .ref q_t)]) hx hb dX2_allLosses_21 hl (k := 1) rfl (by rw [ex_4]; rfl) (by decide) rfl (fun ls hl => ?_)
        refine lv_goto (tgt := 4) hx hb dX2_allLosses_24 (by decide) ?_
        have n_5 := ki_nat x_4 rfl (om_34 LP1_h0 i_4)
        exact ih1 x_4 y_3 (om_34 LP1_h0 i_4) (by rw [ey_3, show x_4.toNatClampNeg = i.toNatClampNeg + 1 by omega, ey_2]; show all + fo i.toNatClampNeg = mj_tot fo 0 i.toNatClampNeg + fo (0 + i.toNatClampNeg); rw [← LP1_h1, Nat.zero_add]) (om_54 i_1 i_4) (om_mu hn1 (om_5 i_4) (om_6 i_1)) ls (lv_sub hl [0, 1, 2] rfl)
  have k_6 : (0 : Int32).toInt = 0 := rfl
  have k_7 : (0 : Int32).toInt = 0 := rfl
  exact LP1 ((nodes.toInt - 0 : Int).toNat + 1) 0 0 om_35 rfl (om_10 b0) (Nat.lt_succ_self _) ls (lv_sub hl [0, 1, 2] rfl)

set_option maxHeartbeats 4000000 in
set_option maxRecDepth 100000 in
theorem c_X4_told_y (l : Launch) (dC : Nat → ClassId) (dI : Nat → Nat → Nat) (m_ : Nat) (q_row : Nat) (q_t : Nat) (t_ : Nat) (h0 : Nat) (k0 : Nat) (w_ : Nat) (z_ : Nat) (slots : Int32) (old : Int32) (q_joined : Nat) (q_from : Nat) (q_to : Nat) (q_size : Nat) (q_lossOf : Nat) (q_lessBy : Nat) (q_value : Nat) (q_number : Nat) (nodes : Int32) (here : Int32) (q_cell : Nat) (cyI : ClassId) (len : Int32) (f : Nat → Int32) (ff : Nat → Int32) (ft : Nat → Int32) (fs : Nat → Int32) (fo : Nat → Int32) (uv : Nat → Int32) (un : Nat → Int32) (fe : Nat → Int32) (j_v : Nat) (j_n : Nat) (js : Int32) (jl : Int32) (je : Int32) (jv : Nat → Int32) (jn : Nat → Int32) (p0 : Int32) (sz : Nat) (a0 : 0 ≤ len.toInt) (a1 : len.toInt ≤ 160) (s0 : sixes fs) (sl0 : 1 ≤ slots.toInt) (sl1 : slots.toInt ≤ 6) (l0 : laidX old slots here f ff ft fs fo fe uv un nodes len) (s1 : shorts f) : Met l yX4_told wsX4_told ({ frames := 6, cells := 0, slots := 0, locals := 270 }) (va_Pc [.ref m_, .int p0] (fun U => U.heap.size = sz ∧ va_P (dC, dI) vwCl [kx_4 m_ q_row q_t t_ h0 k0 w_ z_ slots old, kx_2 q_t q_row q_joined q_from q_to q_size q_lossOf q_lessBy q_value q_number nodes here, kx_0 q_row q_cell len, kx_a q_cell cyI 160 f, kx_a q_from cyI 319 ff, kx_a q_to cyI 319 ft, kx_a q_size cyI 319 fs, kx_a q_lossOf cyI 319 fo, kx_a q_lessBy cyI 319 fe, kx_a q_value cyI 1914 uv, kx_a q_number cyI 1914 un, kx_3 q_joined j_v j_n js jl je, kx_a j_v cyI 12 jv, kx_a j_n cyI 12 jn] U.heap ∧ va_K (dC, dI) vwCl [(cyI, .int)] U ∧ va_D (fun _ => True) [kx_4 m_ q_row q_t t_ h0 k0 w_ z_ slots old, kx_2 q_t q_row q_joined q_from q_to q_size q_lossOf q_lessBy q_value q_number nodes here, kx_0 q_row q_cell len, kx_a q_cell cyI 160 f, kx_a q_from cyI 319 ff, kx_a q_to cyI 319 ft, kx_a q_size cyI 319 fs, kx_a q_lossOf cyI 319 fo, kx_a q_lessBy cyI 319 fe, kx_a q_value cyI 1914 uv, kx_a q_number cyI 1914 un, kx_3 q_joined j_v j_n js jl je, kx_a j_v cyI 12 jv, kx_a j_n cyI 12 jn] ∧ va_Nw (.methodLinkNest RX0 28 yX4_isHeavy RX4) U)) (va_Qi (fun (r : Int32) (u : Int32 × Int32 × Int32 × (Nat → Int32) × (Nat → Int32) × (Nat → Int32) × (Nat → Int32) × (Nat → Int32) × (Nat → Int32) × (Nat → Int32) × Int32 × Int32 × Int32 × (Nat → Int32) × (Nat → Int32)) => ((u.1.toInt = 0 ∧ mj_tld f u.2.2.2.1 u.2.2.2.2.1 u.2.2.2.2.2.2.1 u.2.1 len slots p0.toInt r) ∨ mj_tl0 len slots p0.toInt r) ∧ laidX u.1 slots u.2.2.1 f u.2.2.2.1 u.2.2.2.2.1 u.2.2.2.2.2.1 u.2.2.2.2.2.2.1 u.2.2.2.2.2.2.2.1 u.2.2.2.2.2.2.2.2.1 u.2.2.2.2.2.2.2.2.2.1 u.2.1 len ∧ sixes u.2.2.2.2.2.1) (fun (u : Int32 × Int32 × Int32 × (Nat → Int32) × (Nat → Int32) × (Nat → Int32) × (Nat → Int32) × (Nat → Int32) × (Nat → Int32) × (Nat → Int32) × Int32 × Int32 × Int32 × (Nat → Int32) × (Nat → Int32)) (t : State) => va_P (dC, dI) vwCl [kx_4 m_ q_row q_t t_ h0 k0 w_ z_ slots u.1, kx_2 q_t q_row q_joined q_from q_to q_size q_lossOf q_lessBy q_value q_number u.2.1 u.2.2.1, kx_0 q_row q_cell len, kx_a q_cell cyI 160 f, kx_a q_from cyI 319 u.2.2.2.1, kx_a q_to cyI 319 u.2.2.2.2.1, kx_a q_size cyI 319 u.2.2.2.2.2.1, kx_a q_lossOf cyI 319 u.2.2.2.2.2.2.1, kx_a q_lessBy cyI 319 u.2.2.2.2.2.2.2.1, kx_a q_value cyI 1914 u.2.2.2.2.2.2.2.2.1, kx_a q_number cyI 1914 u.2.2.2.2.2.2.2.2.2.1, kx_3 q_joined j_v j_n u.2.2.2.2.2.2.2.2.2.2.1 u.2.2.2.2.2.2.2.2.2.2.2.1 u.2.2.2.2.2.2.2.2.2.2.2.2.1, kx_a j_v cyI 12 u.2.2.2.2.2.2.2.2.2.2.2.2.2.1, kx_a j_n cyI 12 u.2.2.2.2.2.2.2.2.2.2.2.2.2.2] t.heap ∧ va_K (dC, dI) vwCl [(cyI, .int)] t ∧ va_D (va_A [kx_4 m_ q_row q_t t_ h0 k0 w_ z_ slots old, kx_2 q_t q_row q_joined q_from q_to q_size q_lossOf q_lessBy q_value q_number nodes here, kx_0 q_row q_cell len, kx_a q_cell cyI 160 f, kx_a q_from cyI 319 ff, kx_a q_to cyI 319 ft, kx_a q_size cyI 319 fs, kx_a q_lossOf cyI 319 fo, kx_a q_lessBy cyI 319 fe, kx_a q_value cyI 1914 uv, kx_a q_number cyI 1914 un, kx_3 q_joined j_v j_n js jl je, kx_a j_v cyI 12 jv, kx_a j_n cyI 12 jn] sz) [kx_4 m_ q_row q_t t_ h0 k0 w_ z_ slots u.1, kx_2 q_t q_row q_joined q_from q_to q_size q_lossOf q_lessBy q_value q_number u.2.1 u.2.2.1, kx_0 q_row q_cell len, kx_a q_cell cyI 160 f, kx_a q_from cyI 319 u.2.2.2.1, kx_a q_to cyI 319 u.2.2.2.2.1, kx_a q_size cyI 319 u.2.2.2.2.2.1, kx_a q_lossOf cyI 319 u.2.2.2.2.2.2.1, kx_a q_lessBy cyI 319 u.2.2.2.2.2.2.2.1, kx_a q_value cyI 1914 u.2.2.2.2.2.2.2.2.1, kx_a q_number cyI 1914 u.2.2.2.2.2.2.2.2.2.1, kx_3 q_joined j_v j_n u.2.2.2.2.2.2.2.2.2.2.1 u.2.2.2.2.2.2.2.2.2.2.2.1 u.2.2.2.2.2.2.2.2.2.2.2.2.1, kx_a j_v cyI 12 u.2.2.2.2.2.2.2.2.2.2.2.2.2.1, kx_a j_n cyI 12 u.2.2.2.2.2.2.2.2.2.2.2.2.2.2]) (va_A [kx_4 m_ q_row q_t t_ h0 k0 w_ z_ slots old, kx_2 q_t q_row q_joined q_from q_to q_size q_lossOf q_lessBy q_value q_number nodes here, kx_0 q_row q_cell len, kx_a q_cell cyI 160 f, kx_a q_from cyI 319 ff, kx_a q_to cyI 319 ft, kx_a q_size cyI 319 fs, kx_a q_lossOf cyI 319 fo, kx_a q_lessBy cyI 319 fe, kx_a q_value cyI 1914 uv, kx_a q_number cyI 1914 un, kx_3 q_joined j_v j_n js jl je, kx_a j_v cyI 12 jv, kx_a j_n cyI 12 jn] sz)) 0 0 (va_A [kx_4 m_ q_row q_t t_ h0 k0 w_ z_ slots old, kx_2 q_t q_row q_joined q_from q_to q_size q_lossOf q_lessBy q_value q_number nodes here, kx_0 q_row q_cell len, kx_a q_cell cyI 160 f, kx_a q_from cyI 319 ff, kx_a q_to cyI 319 ft, kx_a q_size cyI 319 fs, kx_a q_lossOf cyI 319 fo, kx_a q_lessBy cyI 319 fe, kx_a q_value cyI 1914 uv, kx_a q_number cyI 1914 un, kx_3 q_joined j_v j_n js jl je, kx_a j_v cyI 12 jv, kx_a j_n cyI 12 jn] sz) := by
  refine Met.ofW (cc := cX4_told) (maxL := 2) (ret := (some .int)) (by decide) rfl ?_
  intro p e s m args below meth c s₁ B hml hv
  obtain ⟨rfl, hsz, hP, hK, hD0, hN0⟩ := hv
  have hx := B.exec
  have hb := B.bytes
  have hr := B.returns
  have hts := atoms_spec (ws := wsX4_told) B.pre
  have hown : s.vm.findClass RX4 = some m.cls := findClass_of_methodNamed B.named
  have hlocks := B.notSynchronized
  subst hsz
  have hD := hD0.self (sz := s.heap.size)
  generalize hAe : va_A [kx_4 m_ q_row q_t t_ h0 k0 w_ z_ slots old, kx_2 q_t q_row q_joined q_from q_to q_size q_lossOf q_lessBy q_value q_number nodes here, kx_0 q_row q_cell len, kx_a q_cell cyI 160 f, kx_a q_from cyI 319 ff, kx_a q_to cyI 319 ft, kx_a q_size cyI 319 fs, kx_a q_lossOf cyI 319 fo, kx_a q_lessBy cyI 319 fe, kx_a q_value cyI 1914 uv, kx_a q_number cyI 1914 un, kx_3 q_joined j_v j_n js jl je, kx_a j_v cyI 12 jv, kx_a j_n cyI 12 jn] s.heap.size = A at hD ⊢
  have hA : ∀ q : Nat, s.heap.size ≤ q → A q := fun q h => by rw [← hAe]; exact Or.inr h
  have hS : va_S A s.heap s.heap [] := va_S.rf
  have hP : va_P (dC, dI) vwCl [kx_4 m_ q_row q_t t_ h0 k0 w_ z_ slots old, kx_2 q_t q_row q_joined q_from q_to q_size q_lossOf q_lessBy q_value q_number nodes here, kx_0 q_row q_cell len, kx_a q_cell cyI 160 f, kx_a q_from cyI 319 ff, kx_a q_to cyI 319 ft, kx_a q_size cyI 319 fs, kx_a q_lossOf cyI 319 fo, kx_a q_lessBy cyI 319 fe, kx_a q_value cyI 1914 uv, kx_a q_number cyI 1914 un, kx_3 q_joined j_v j_n js jl je, kx_a j_v cyI 12 jv, kx_a j_n cyI 12 jn] s.heap := hP
  have hl := lv_entry ([.ref m_, .int p0]) (n := 2) (Nat.le_of_ble_eq_true rfl)
  rw [lg_entry_eq]
  generalize (lg_sl ([.ref m_, .int p0]) ++ List.replicate (2 - (lg_sl ([.ref m_, .int p0])).length) Slot.unset).toArray = ls at hl ⊢
  have hl : lv_has ls 2 [(0, .ref m_), (1, .int p0)] := hl
  have hf_12 := hts (.fieldLink RX4 12 "MajorityIndex" "row" "LMajorityIndex$Row;") (List.mem_of_getElem? (i := 1) rfl)
  have hi_4 : ∀ w ∈ u_ws RX4 TX4 9, w ∈ wsX4_told := fun w h => List.mem_cons_of_mem _ (List.mem_append_left _ (List.mem_append_left _ (List.mem_append_left _ (List.mem_append_right _ h))))
  have hf_57 := hts (.fieldLink RX4 57 "MajorityIndex$Row" "length" "I") (List.mem_of_getElem? (i := 2) rfl)
  have hi_0 : ∀ w ∈ u_ws RX0 TX0 2, w ∈ wsX4_told := fun w h => List.mem_cons_of_mem _ (List.mem_append_left _ (List.mem_append_left _ (List.mem_append_right _ h)))
  have hf_49 := hts (.fieldLink RX4 49 "MajorityIndex" "slotsNow" "I") (List.mem_of_getElem? (i := 3) rfl)
  have hf_163 := hts (.fieldLink RX4 163 "MajorityIndex$Tree" "nodes" "I") (List.mem_of_getElem? (i := 4) rfl)
  have hi_2 : ∀ w ∈ u_ws RX2 TX2 11, w ∈ wsX4_told := fun w h => List.mem_cons_of_mem _ (List.mem_append_left _ (List.mem_append_right _ h))
  have hf_139 := hts (.fieldLink RX4 139 "MajorityIndex$Tree" "lossOf" "[I") (List.mem_of_getElem? (i := 5) rfl)
  refine lv_iload_n hx hb dX4_told_0 rfl (lv_at hl 1 rfl) ?_
  by_cases s_1 : p0.toInt = 0
  · refine lv_tableIn (tgt := 44) (off := 43) hx hb dX4_told_1 (om_161 s_1) (om_210 s_1) (by rw [s_1]; rfl) (by decide) ?_
    refine lv_aload_n hx hb dX4_told_44 rfl (lv_at hl 0 rfl) ?_
    refine va_get (D := (dC, dI)) (ci := 4) (v := .ref q_row) (C := RX4) (T := TX4) (N := 9) hx hb hts hi_4 hown hK hP 0 rfl rfl 0 (by decide) hf_12 (fun _ h9 => h9) rfl dX4_told_45 ?_
    refine va_get (D := (dC, dI)) (ci := 0) (v := .int len) (C := RX0) (T := TX0) (N := 2) hx hb hts hi_0 hown hK hP 2 rfl rfl 1 (by decide) hf_57 (fun _ h9 => h9) rfl dX4_told_48 ?_
    have hP9 := hP
    have hD9 := hD
    have hK9 := hK
    exact W.iret (v := len) hx hb hr (hlocks := hlocks) (fun t ht hW => ⟨⟨len, (old, nodes, here, ff, ft, fs, fo, fe, uv, un, js, jl, je, jv, jn), rfl, ⟨(Or.inr (Or.inl ⟨s_1, rfl⟩)), l0, s0⟩, by rw [ht]; exact hP9, va_K.moved hW.alike hK9, hD9⟩, hS.F ht⟩) hS.2.2 dX4_told_51
  by_cases s_2 : p0.toInt = 1
  · refine lv_tableIn (tgt := 52) (off := 51) hx hb dX4_told_1 (om_163 s_2) (om_211 s_2) (by rw [s_2]; rfl) (by decide) ?_
    refine lv_aload_n hx hb dX4_told_52 rfl (lv_at hl 0 rfl) ?_
    refine va_get (D := (dC, dI)) (ci := 4) (v := .int slots) (C := RX4) (T := TX4) (N := 9) hx hb hts hi_4 hown hK hP 0 rfl rfl 7 (by decide) hf_49 (fun _ h9 => h9) rfl dX4_told_53 ?_
    have hP9 := hP
    have hD9 := hD
    have hK9 := hK
    exact W.iret (v := slots) hx hb hr (hlocks := hlocks) (fun t ht hW => ⟨⟨slots, (old, nodes, here, ff, ft, fs, fo, fe, uv, un, js, jl, je, jv, jn), rfl, ⟨(Or.inr (Or.inr (Or.inl ⟨s_2, rfl⟩))), l0, s0⟩, by rw [ht]; exact hP9, va_K.moved hW.alike hK9, hD9⟩, hS.F ht⟩) hS.2.2 dX4_told_56
  by_cases s_3 : p0.toInt = 2
  · refine lv_tableIn (tgt := 57) (off := 56) hx hb dX4_told_1 (om_165 s_3) (om_212 s_3) (by rw [s_3]; rfl) (by decide) ?_
    refine lv_aload_n hx hb dX4_told_57 rfl (lv_at hl 0 rfl) ?_
    have hPc := hP
    have hKc := hK
    have hDc := hD
    have hFc := kx_free hD hS hA
    refine va_callr (va_runV (As := []) (rest := []) ⟨hx, hb, hml, hown, hts⟩ (kx_un (c_X4_laidTree_x l dC dI m_ q_row q_t t_ h0 k0 w_ z_ slots old q_joined q_from q_to q_size q_lossOf q_lessBy q_value q_number nodes here q_cell cyI len f ff ft fs fo uv un fe j_v j_n js jl je jv jn s.heap.size a0 a1 s0 sl0 sl1 l0)) (cwV 0 hts gX4_told_X4_laidTree rfl rfl rfl (by decide +kernel) ⟨Nat.le_of_ble_eq_true rfl, Nat.le_of_ble_eq_true rfl⟩) ⟨fun a U g mk q => by obtain ⟨q0, q1, qP, qK, qD⟩ := q; exact ⟨q0, q1, qP, va_K.moved (u := U) (U := U.calling g mk a) (Vm.Alike.refl U.vm) qK, qD⟩, kx_rc4 hKc hPc (q0 := 0) rfl, fun U hU hW => ⟨rfl, by rw [hU], by rw [hU]; exact hPc, va_K.moved hW.alike hKc, hDc.weaken (fun _ _ _ _ => trivial)⟩⟩ rfl rfl hl.1 rfl (lv_room (Nat.le_of_ble_eq_true rfl)) dX4_told_58 ⟨Nat.le_of_ble_eq_true rfl, Nat.le_of_ble_eq_true rfl⟩) hS (fun q _ h => hFc q h) hFc (fun u ra t H1 locs ht hvm w_4 hB hz1 hk1 hS => ?_)
    obtain ⟨o_5, o_6, o_7, o_8, o_9, o_10, o_11, o_12, o_13, o_14, o_15, o_16, o_17, o_18, o_19⟩ := u
    dsimp only at w_4 hB
    obtain ⟨er, hP1, hK1, hD1⟩ := hB
    rw [ht] at hP1
    have hK1 := va_K.moved hvm.symm hK1
    have hD := hD1.weaken (fun _ q _ h => hFc q.1 h)
    have hP := hP1
    clear hP1 hD1 hK1 hk1 hz1 hFc hDc hPc hKc
    generalize H1 = H at hP hS ⊢
    have w_4 : o_5.toInt = 0 ∧ o_7 = slots ∧ sixes o_10 ∧ mj_C slots.toNatClampNeg f o_8 o_9 o_10 o_11 o_12 o_13 o_14 o_6.toInt len.toInt ∧ 0 ≤ o_6.toInt ∧ o_6.toInt ≤ 319 ∧ treeOk o_8 o_9 o_6.toInt len.toInt := w_4
    rw [er]
    refine va_get (D := (dC, dI)) (ci := 2) (v := .int o_6) (C := RX2) (T := TX2) (N := 11) hx hb hts hi_2 hown hK hP 1 rfl rfl 9 (by decide) hf_163 (fun _ h9 => h9) rfl dX4_told_61 ?_
    have hP9 := hP
    have hD9 := hD
    have hK9 := hK
    exact W.iret (v := o_6) hx hb hr (hlocks := hlocks) (fun t ht hW => ⟨⟨o_6, (o_5, o_6, o_7, o_8, o_9, o_10, o_11, o_12, o_13, o_14, o_15, o_16, o_17, o_18, o_19), rfl, ⟨(Or.inl ⟨w_4.1, (Or.inr (Or.inr (Or.inl ⟨s_3, rfl⟩)))⟩), (fun _ => ⟨w_4.2.1, w_4.2.2.2.1⟩), w_4.2.2.1⟩, by rw [ht]; exact hP9, va_K.moved hW.alike hK9, hD9⟩, hS.F ht⟩) hS.2.2 dX4_told_64
  by_cases s_20 : p0.toInt = 3
  · refine lv_tableIn (tgt := 65) (off := 64) hx hb dX4_told_1 (om_213 s_20) (om_214 s_20) (by rw [s_20]; rfl) (by decide) ?_
    refine lv_aload_n hx hb dX4_told_65 rfl (lv_at hl 0 rfl) ?_
    have hPc := hP
    have hKc := hK
    have hDc := hD
    have hFc := kx_free hD hS hA
    refine va_callr (va_runV (As := []) (rest := []) ⟨hx, hb, hml, hown, hts⟩ (kx_un (c_X4_laidTree_x l dC dI m_ q_row q_t t_ h0 k0 w_ z_ slots old q_joined q_from q_to q_size q_lossOf q_lessBy q_value q_number nodes here q_cell cyI len f ff ft fs fo uv un fe j_v j_n js jl je jv jn s.heap.size a0 a1 s0 sl0 sl1 l0)) (cwV 0 hts gX4_told_X4_laidTree rfl rfl rfl (by decide +kernel) ⟨Nat.le_of_ble_eq_true rfl, Nat.le_of_ble_eq_true rfl⟩) ⟨fun a U g mk q => by obtain ⟨q0, q1, qP, qK, qD⟩ := q; exact ⟨q0, q1, qP, va_K.moved (u := U) (U := U.calling g mk a) (Vm.Alike.refl U.vm) qK, qD⟩, kx_rc4 hKc hPc (q0 := 0) rfl, fun U hU hW => ⟨rfl, by rw [hU], by rw [hU]; exact hPc, va_K.moved hW.alike hKc, hDc.weaken (fun _ _ _ _ => trivial)⟩⟩ rfl rfl hl.1 rfl (lv_room (Nat.le_of_ble_eq_true rfl)) dX4_told_66 ⟨Nat.le_of_ble_eq_true rfl, Nat.le_of_ble_eq_true rfl⟩) hS (fun q _ h => hFc q h) hFc (fun u ra t H1 locs ht hvm w_21 hB hz1 hk1 hS => ?_)
    obtain ⟨o_22, o_23, o_24, o_25, o_26, o_27, o_28, o_29, o_30, o_31, o_32, o_33, o_34, o_35, o_36⟩ := u
    dsimp only at w_21 hB
    obtain ⟨er, hP1, hK1, hD1⟩ := hB
    rw [ht] at hP1
    have hK1 := va_K.moved hvm.symm hK1
    have hD := hD1.weaken (fun _ q _ h => hFc q.1 h)
    have hP := hP1
    clear hP1 hD1 hK1 hk1 hz1 hFc hDc hPc hKc
    generalize H1 = H at hP hS ⊢
    have w_21 : o_22.toInt = 0 ∧ o_24 = slots ∧ sixes o_27 ∧ mj_C slots.toNatClampNeg f o_25 o_26 o_27 o_28 o_29 o_30 o_31 o_23.toInt len.toInt ∧ 0 ≤ o_23.toInt ∧ o_23.toInt ≤ 319 ∧ treeOk o_25 o_26 o_23.toInt len.toInt := w_21
    rw [er]
    have hPc := hP.sub (ws' := [kx_2 q_t q_row q_joined q_from q_to q_size q_lossOf q_lessBy q_value q_number o_23 o_24, kx_0 q_row q_cell len, kx_a q_cell cyI 160 f, kx_a q_from cyI 319 o_25, kx_a q_to cyI 319 o_26]) [1, 2, 3, 4, 5] rfl
    have hKc := hK
    refine vp_callSi (W.runV (As := []) (rest := []) ⟨hx, hb, hml, hown, hts⟩ (c_X2_nodesWithMajority_x l dC dI q_t q_row q_joined q_from q_to q_size q_lossOf q_lessBy q_value q_number o_23 o_24 q_cell cyI len f o_25 o_26 w_21.2.2.2.2.1 w_21.2.2.2.2.2.1 a1 w_21.2.2.2.2.2.2 s1) (cwV 0 hts gX4_told_X2_nodesWithMajority rfl rfl rfl (by decide +kernel) ⟨Nat.le_of_ble_eq_true rfl, Nat.le_of_ble_eq_true rfl⟩) ⟨fun a U g mk q => by obtain ⟨q0, qP, qK, qn0⟩ := q; exact ⟨q0, qP, va_K.moved (u := U) (U := U.calling g mk a) (Vm.Alike.refl U.vm) qK, va_Nw.same (u := U) (U := U.calling g mk a) rfl rfl qn0⟩, kx_rc2 hKc hPc (q0 := 0) rfl, fun U hU hW => ⟨rfl, by rw [hU]; exact hPc, va_K.moved hW.alike hKc, va_Nw.warmM hW hN0⟩⟩ rfl rfl hl.1 rfl (lv_room (Nat.le_of_ble_eq_true rfl)) dX4_told_69 ⟨Nat.le_of_ble_eq_true rfl, Nat.le_of_ble_eq_true rfl⟩) (fun r_37 w_37 => ?_)
    have w_37 : r_37.toInt = (mj_nm f o_25 o_26 o_23.toNatClampNeg : Int) := w_37
    have hP9 := hP
    have hD9 := hD
    have hK9 := hK
    exact W.iret (v := r_37) hx hb hr (hlocks := hlocks) (fun t ht hW => ⟨⟨r_37, (o_22, o_23, o_24, o_25, o_26, o_27, o_28, o_29, o_30, o_31, o_32, o_33, o_34, o_35, o_36), rfl, ⟨(Or.inl ⟨w_21.1, (Or.inr (Or.inr (Or.inr (Or.inl ⟨s_20, w_37⟩))))⟩), (fun _ => ⟨w_21.2.1, w_21.2.2.2.1⟩), w_21.2.2.1⟩, by rw [ht]; exact hP9, va_K.moved hW.alike hK9, hD9⟩, hS.F ht⟩) hS.2.2 dX4_told_72
  by_cases s_38 : p0.toInt = 4
  · refine lv_tableIn (tgt := 73) (off := 72) hx hb dX4_told_1 (om_215 s_38) (om_216 s_38) (by rw [s_38]; rfl) (by decide) ?_
    refine lv_aload_n hx hb dX4_told_73 rfl (lv_at hl 0 rfl) ?_
    have hPc := hP
    have hKc := hK
    have hDc := hD
    have hFc := kx_free hD hS hA
    refine va_callr (va_runV (As := []) (rest := []) ⟨hx, hb, hml, hown, hts⟩ (kx_un (c_X4_laidTree_x l dC dI m_ q_row q_t t_ h0 k0 w_ z_ slots old q_joined q_from q_to q_size q_lossOf q_lessBy q_value q_number nodes here q_cell cyI len f ff ft fs fo uv un fe j_v j_n js jl je jv jn s.heap.size a0 a1 s0 sl0 sl1 l0)) (cwV 0 hts gX4_told_X4_laidTree rfl rfl rfl (by decide +kernel) ⟨Nat.le_of_ble_eq_true rfl, Nat.le_of_ble_eq_true rfl⟩) ⟨fun a U g mk q => by obtain ⟨q0, q1, qP, qK, qD⟩ := q; exact ⟨q0, q1, qP, va_K.moved (u := U) (U := U.calling g mk a) (Vm.Alike.refl U.vm) qK, qD⟩, kx_rc4 hKc hPc (q0 := 0) rfl, fun U hU hW => ⟨rfl, by rw [hU], by rw [hU]; exact hPc, va_K.moved hW.alike hKc, hDc.weaken (fun _ _ _ _ => trivial)⟩⟩ rfl rfl hl.1 rfl (lv_room (Nat.le_of_ble_eq_true rfl)) dX4_told_74 ⟨Nat.le_of_ble_eq_true rfl, Nat.le_of_ble_eq_true rfl⟩) hS (fun q _ h => hFc q h) hFc (fun u ra t H1 locs ht hvm w_39 hB hz1 hk1 hS => ?_)
    obtain ⟨o_40, o_41, o_42, o_43, o_44, o_45, o_46, o_47, o_48, o_49, o_50, o_51, o_52, o_53, o_54⟩ := u
    dsimp only at w_39 hB
    obtain ⟨er, hP1, hK1, hD1⟩ := hB
    rw [ht] at hP1
    have hK1 := va_K.moved hvm.symm hK1
    have hD := hD1.weaken (fun _ q _ h => hFc q.1 h)
    have hP := hP1
    clear hP1 hD1 hK1 hk1 hz1 hFc hDc hPc hKc
    generalize H1 = H at hP hS ⊢
    have w_39 : o_40.toInt = 0 ∧ o_42 = slots ∧ sixes o_45 ∧ mj_C slots.toNatClampNeg f o_43 o_44 o_45 o_46 o_47 o_48 o_49 o_41.toInt len.toInt ∧ 0 ≤ o_41.toInt ∧ o_41.toInt ≤ 319 ∧ treeOk o_43 o_44 o_41.toInt len.toInt := w_39
    rw [er]
    have hPc := hP.sub (ws' := [kx_2 q_t q_row q_joined q_from q_to q_size q_lossOf q_lessBy q_value q_number o_41 o_42, kx_0 q_row q_cell len]) [1, 2] rfl
    have hKc := hK.sub (tys' := []) [] rfl
    refine vp_callSi (W.runV (As := []) (rest := []) ⟨hx, hb, hml, hown, hts⟩ (c_X2_deepest_x l dC dI q_t q_row q_joined q_from q_to q_size q_lossOf q_lessBy q_value q_number o_41 o_42 q_cell len a0 a1 w_39.2.2.2.1.2.2.1) (cwV 0 hts gX4_told_X2_deepest rfl rfl rfl (by decide +kernel) ⟨Nat.le_of_ble_eq_true rfl, Nat.le_of_ble_eq_true rfl⟩) ⟨fun a U g mk q => by obtain ⟨q0, qP, qK⟩ := q; exact ⟨q0, qP, va_K.moved (u := U) (U := U.calling g mk a) (Vm.Alike.refl U.vm) qK⟩, kx_rc2 hKc hPc (q0 := 0) rfl, fun U hU hW => ⟨rfl, by rw [hU]; exact hPc, va_K.moved hW.alike hKc⟩⟩ rfl rfl hl.1 rfl (lv_room (Nat.le_of_ble_eq_true rfl)) dX4_told_77 ⟨Nat.le_of_ble_eq_true rfl, Nat.le_of_ble_eq_true rfl⟩) (fun r_55 w_55 => ?_)
    have w_55 : r_55.toInt = (mj_dp 8 len.toNatClampNeg : Int) := w_55
    have hP9 := hP
    have hD9 := hD
    have hK9 := hK
    exact W.iret (v := r_55) hx hb hr (hlocks := hlocks) (fun t ht hW => ⟨⟨r_55, (o_40, o_41, o_42, o_43, o_44, o_45, o_46, o_47, o_48, o_49, o_50, o_51, o_52, o_53, o_54), rfl, ⟨(Or.inl ⟨w_39.1, (Or.inr (Or.inr (Or.inr (Or.inr (Or.inl ⟨s_38, w_55⟩)))))⟩), (fun _ => ⟨w_39.2.1, w_39.2.2.2.1⟩), w_39.2.2.1⟩, by rw [ht]; exact hP9, va_K.moved hW.alike hK9, hD9⟩, hS.F ht⟩) hS.2.2 dX4_told_80
  by_cases s_56 : p0.toInt = 5
  · refine lv_tableIn (tgt := 81) (off := 80) hx hb dX4_told_1 (om_217 s_56) (om_218 s_56) (by rw [s_56]; rfl) (by decide) ?_
    refine lv_aload_n hx hb dX4_told_81 rfl (lv_at hl 0 rfl) ?_
    refine va_get (D := (dC, dI)) (ci := 4) (v := .ref q_row) (C := RX4) (T := TX4) (N := 9) hx hb hts hi_4 hown hK hP 0 rfl rfl 0 (by decide) hf_12 (fun _ h9 => h9) rfl dX4_told_82 ?_
    refine va_get (D := (dC, dI)) (ci := 0) (v := .int len) (C := RX0) (T := TX0) (N := 2) hx hb hts hi_0 hown hK hP 2 rfl rfl 1 (by decide) hf_57 (fun _ h9 => h9) rfl dX4_told_85 ?_
    refine lv_if_ne (tgt := 95) hx hb dX4_told_88 (by decide) (fun c_57 => ?_) (fun c_57 => ?_)
    · have i_57 : ¬ len.toInt = 0 := kc_ne c_57
      refine lv_aload_n hx hb dX4_told_95 rfl (lv_at hl 0 rfl) ?_
      have hPc := hP
      have hKc := hK
      have hDc := hD
      have hFc := kx_free hD hS hA
      refine va_callr (va_runV (As := []) (rest := []) ⟨hx, hb, hml, hown, hts⟩ (kx_un (c_X4_laidTree_x l dC dI m_ q_row q_t t_ h0 k0 w_ z_ slots old q_joined q_from q_to q_size q_lossOf q_lessBy q_value q_number nodes here q_cell cyI len f ff ft fs fo uv un fe j_v j_n js jl je jv jn s.heap.size a0 a1 s0 sl0 sl1 l0)) (cwV 0 hts gX4_told_X4_laidTree rfl rfl rfl (by decide +kernel) ⟨Nat.le_of_ble_eq_true rfl, Nat.le_of_ble_eq_true rfl⟩) ⟨fun a U g mk q => by obtain ⟨q0, q1, qP, qK, qD⟩ := q; exact ⟨q0, q1, qP, va_K.moved (u := U) (U := U.calling g mk a) (Vm.Alike.refl U.vm) qK, qD⟩, kx_rc4 hKc hPc (q0 := 0) rfl, fun U hU hW => ⟨rfl, by rw [hU], by rw [hU]; exact hPc, va_K.moved hW.alike hKc, hDc.weaken (fun _ _ _ _ => trivial)⟩⟩ rfl rfl hl.1 rfl (lv_room (Nat.le_of_ble_eq_true rfl)) dX4_told_96 ⟨Nat.le_of_ble_eq_true rfl, Nat.le_of_ble_eq_true rfl⟩) hS (fun q _ h => hFc q h) hFc (fun u ra t H1 locs ht hvm w_58 hB hz1 hk1 hS => ?_)
      obtain ⟨o_59, o_60, o_61, o_62, o_63, o_64, o_65, o_66, o_67, o_68, o_69, o_70, o_71, o_72, o_73⟩ := u
      dsimp only at w_58 hB
      obtain ⟨er, hP1, hK1, hD1⟩ := hB
      rw [ht] at hP1
      have hK1 := va_K.moved hvm.symm hK1
      have hD := hD1.weaken (fun _ q _ h => hFc q.1 h)
      have hP := hP1
      clear hP1 hD1 hK1 hk1 hz1 hFc hDc hPc hKc
      generalize H1 = H at hP hS ⊢
      have w_58 : o_59.toInt = 0 ∧ o_61 = slots ∧ sixes o_64 ∧ mj_C slots.toNatClampNeg f o_62 o_63 o_64 o_65 o_66 o_67 o_68 o_60.toInt len.toInt ∧ 0 ≤ o_60.toInt ∧ o_60.toInt ≤ 319 ∧ treeOk o_62 o_63 o_60.toInt len.toInt := w_58
      rw [er]
      refine va_get (D := (dC, dI)) (ci := 2) (v := .ref q_lossOf) (C := RX2) (T := TX2) (N := 11) hx hb hts hi_2 hown hK hP 1 rfl rfl 5 (by decide) hf_139 (fun _ h9 => h9) rfl dX4_told_99 ?_
      refine lv_iconst (v := 0) hx hb dX4_told_102 (by decide) ?_
      refine va_iald hx hb hK hP 7 0 rfl rfl (ki_inl (by decide)) dX4_told_103 ?_
      refine lv_topi (fun y_74 ey_74 => ?_)
      have j_74 : y_74.toInt = (o_65 (0 : Int32).toNatClampNeg).toInt := congrArg Int32.toInt ey_74
      have hP9 := hP
      have hD9 := hD
      have hK9 := hK
      exact W.iret (v := y_74) hx hb hr (hlocks := hlocks) (fun t ht hW => ⟨⟨y_74, (o_59, o_60, o_61, o_62, o_63, o_64, o_65, o_66, o_67, o_68, o_69, o_70, o_71, o_72, o_73), rfl, ⟨(Or.inl ⟨w_58.1, (Or.inr (Or.inr (Or.inr (Or.inr (Or.inr (Or.inr (Or.inl ⟨s_56, (by (try dsimp only); omega), ey_74⟩)))))))⟩), (fun _ => ⟨w_58.2.1, w_58.2.2.2.1⟩), w_58.2.2.1⟩, by rw [ht]; exact hP9, va_K.moved hW.alike hK9, hD9⟩, hS.F ht⟩) hS.2.2 dX4_told_104
    · have i_57 : len.toInt = 0 := kc_eq c_57
      refine lv_iconst (v := 0) hx hb dX4_told_91 (by decide) ?_
      refine lv_goto (tgt := 104) hx hb dX4_told_92 (by decide) ?_
      have hP9 := hP
      have hD9 := hD
      have hK9 := hK
      exact W.iret (v := 0) hx hb hr (hlocks := hlocks) (fun t ht hW => ⟨⟨0, (old, nodes, here, ff, ft, fs, fo, fe, uv, un, js, jl, je, jv, jn), rfl, ⟨(Or.inr (Or.inr (Or.inr (Or.inl ⟨s_56, (by (try dsimp only); omega), rfl⟩)))), l0, s0⟩, by rw [ht]; exact hP9, va_K.moved hW.alike hK9, hD9⟩, hS.F ht⟩) hS.2.2 dX4_told_104
  by_cases s_75 : p0.toInt = 6
  · refine lv_tableIn (tgt := 105) (off := 104) hx hb dX4_told_1 (om_219 s_75) (om_220 s_75) (by rw [s_75]; rfl) (by decide) ?_
    refine lv_aload_n hx hb dX4_told_105 rfl (lv_at hl 0 rfl) ?_
    have hPc := hP
    have hKc := hK
    have hDc := hD
    have hFc := kx_free hD hS hA
    refine va_callr (va_runV (As := []) (rest := []) ⟨hx, hb, hml, hown, hts⟩ (kx_un (c_X4_laidTree_x l dC dI m_ q_row q_t t_ h0 k0 w_ z_ slots old q_joined q_from q_to q_size q_lossOf q_lessBy q_value q_number nodes here q_cell cyI len f ff ft fs fo uv un fe j_v j_n js jl je jv jn s.heap.size a0 a1 s0 sl0 sl1 l0)) (cwV 0 hts gX4_told_X4_laidTree rfl rfl rfl (by decide +kernel) ⟨Nat.le_of_ble_eq_true rfl, Nat.le_of_ble_eq_true rfl⟩) ⟨fun a U g mk q => by obtain ⟨q0, q1, qP, qK, qD⟩ := q; exact ⟨q0, q1, qP, va_K.moved (u := U) (U := U.calling g mk a) (Vm.Alike.refl U.vm) qK, qD⟩, kx_rc4 hKc hPc (q0 := 0) rfl, fun U hU hW => ⟨rfl, by rw [hU], by rw [hU]; exact hPc, va_K.moved hW.alike hKc, hDc.weaken (fun _ _ _ _ => trivial)⟩⟩ rfl rfl hl.1 rfl (lv_room (Nat.le_of_ble_eq_true rfl)) dX4_told_106 ⟨Nat.le_of_ble_eq_true rfl, Nat.le_of_ble_eq_true rfl⟩) hS (fun q _ h => hFc q h) hFc (fun u ra t H1 locs ht hvm w_76 hB hz1 hk1 hS => ?_)
    obtain ⟨o_77, o_78, o_79, o_80, o_81, o_82, o_83, o_84, o_85, o_86, o_87, o_88, o_89, o_90, o_91⟩ := u
    dsimp only at w_76 hB
    obtain ⟨er, hP1, hK1, hD1⟩ := hB
    rw [ht] at hP1
    have hK1 := va_K.moved hvm.symm hK1
    have hD := hD1.weaken (fun _ q _ h => hFc q.1 h)
    have hP := hP1
    clear hP1 hD1 hK1 hk1 hz1 hFc hDc hPc hKc
    generalize H1 = H at hP hS ⊢
    have w_76 : o_77.toInt = 0 ∧ o_79 = slots ∧ sixes o_82 ∧ mj_C slots.toNatClampNeg f o_80 o_81 o_82 o_83 o_84 o_85 o_86 o_78.toInt len.toInt ∧ 0 ≤ o_78.toInt ∧ o_78.toInt ≤ 319 ∧ treeOk o_80 o_81 o_78.toInt len.toInt := w_76
    rw [er]
    have hPc := hP.sub (ws' := [kx_2 q_t q_row q_joined q_from q_to q_size q_lossOf q_lessBy q_value q_number o_78 o_79, kx_a q_lossOf cyI 319 o_83]) [1, 7] rfl
    have hKc := hK
    refine vp_callSi (W.runV (As := []) (rest := []) ⟨hx, hb, hml, hown, hts⟩ (c_X2_allLosses_x l dC dI q_t q_row q_joined q_from q_to q_size q_lossOf q_lessBy q_value q_number o_78 o_79 cyI o_83 w_76.2.2.2.2.1 w_76.2.2.2.2.2.1) (cwV 0 hts gX4_told_X2_allLosses rfl rfl rfl (by decide +kernel) ⟨Nat.le_of_ble_eq_true rfl, Nat.le_of_ble_eq_true rfl⟩) ⟨fun a U g mk q => by obtain ⟨q0, qP, qK⟩ := q; exact ⟨q0, qP, va_K.moved (u := U) (U := U.calling g mk a) (Vm.Alike.refl U.vm) qK⟩, kx_rc2 hKc hPc (q0 := 0) rfl, fun U hU hW => ⟨rfl, by rw [hU]; exact hPc, va_K.moved hW.alike hKc⟩⟩ rfl rfl hl.1 rfl (lv_room (Nat.le_of_ble_eq_true rfl)) dX4_told_109 ⟨Nat.le_of_ble_eq_true rfl, Nat.le_of_ble_eq_true rfl⟩) (fun r_92 w_92 => ?_)
    subst w_92
    have hP9 := hP
    have hD9 := hD
    have hK9 := hK
    exact W.iret (v := (mj_tot o_83 0 o_78.toNatClampNeg)) hx hb hr (hlocks := hlocks) (fun t ht hW => ⟨⟨(mj_tot o_83 0 o_78.toNatClampNeg), (o_77, o_78, o_79, o_80, o_81, o_82, o_83, o_84, o_85, o_86, o_87, o_88, o_89, o_90, o_91), rfl, ⟨(Or.inl ⟨w_76.1, (Or.inr (Or.inr (Or.inr (Or.inr (Or.inr (Or.inr (Or.inr (Or.inl ⟨s_75, rfl⟩))))))))⟩), (fun _ => ⟨w_76.2.1, w_76.2.2.2.1⟩), w_76.2.2.1⟩, by rw [ht]; exact hP9, va_K.moved hW.alike hK9, hD9⟩, hS.F ht⟩) hS.2.2 dX4_told_112
  refine lv_tableOut (tgt := 113) hx hb dX4_told_1 (by omega) (by decide) ?_
  refine lv_iconst (v := (-1)) hx hb dX4_told_113 (by decide) ?_
  have hP9 := hP
  have hD9 := hD
  have hK9 := hK
  exact W.iret (v := (-1)) hx hb hr (hlocks := hlocks) (fun t ht hW => ⟨⟨(-1), (old, nodes, here, ff, ft, fs, fo, fe, uv, un, js, jl, je, jv, jn), rfl, ⟨(Or.inr (Or.inr (Or.inr (Or.inr ⟨(by (try dsimp only); omega), rfl⟩)))), l0, s0⟩, by rw [ht]; exact hP9, va_K.moved hW.alike hK9, hD9⟩, hS.F ht⟩) hS.2.2 dX4_told_114

set_option maxHeartbeats 4000000 in
set_option maxRecDepth 100000 in
theorem c_X5_nodesWithMajority_x (l : Launch) (dC : Nat → ClassId) (dI : Nat → Nat → Nat) (h0 : Nat) (g_row : Nat) (g_many : Nat) (g_loss : Nat) (g_less : Nat) (g_voteValue : Nat) (g_voteNumber : Nat) (g_allValue : Nat) (g_allNumber : Nat) (g_nodeL : Nat) (g_nodeR : Nat) (g_part : Nat) (g_wasMany : Nat) (g_wasLoss : Nat) (g_wasValue : Nat) (g_wasNumber : Nat) (g_path : Nat) (g_heavyValue : Nat) (g_heavyTimes : Nat) (g_fewest : Nat) (g_which : Nat) (g_met : Nat) (m_n : Int32) (m_slots : Int32) (m_thrown : Int32) (m_allMany : Int32) (m_nodes : Int32) (m_partMany : Int32) (m_pathMany : Int32) (m_heavyMany : Int32) (m_mostMet : Int32) (cyI : ClassId) (f : Nat → Int32) (nl : Nat → Int32) (nr : Nat → Int32) (b0 : 0 ≤ m_nodes.toInt) (b1 : m_nodes.toInt ≤ 319) (ok : nodesOk nl nr m_nodes.toInt) (s1 : shorts f) : Met l yX5_nodesWithMajority wsX5_nodesWithMajority ({ frames := 2, cells := 0, slots := 0, locals := 90 }) (va_Pc [.ref h0] (fun U => va_P (dC, dI) vwCl [kx_5 h0 g_row m_n m_slots m_thrown g_many g_loss g_less g_voteValue g_voteNumber g_allValue g_allNumber m_allMany g_nodeL g_nodeR m_nodes g_part m_partMany g_wasMany g_wasLoss g_wasValue g_wasNumber g_path m_pathMany g_heavyValue g_heavyTimes m_heavyMany g_fewest g_which g_met m_mostMet, kx_a g_row cyI 160 f, kx_a g_nodeL cyI 320 nl, kx_a g_nodeR cyI 320 nr] U.heap ∧ va_K (dC, dI) vwCl [(cyI, .int)] U)) (vp_Si (fun r : Int32 => r.toInt = (mj_nm f nl nr m_nodes.toNatClampNeg : Int))) 0 0 (fun _ => False) := by
  refine kx_stS (ws := wsX5_nodesWithMajority) (cc := cX5_nodesWithMajority) (maxL := 3) (ret := (some .int)) (by decide) rfl (Nat.le_of_ble_eq_true rfl) ?_
  intro p e s m below meth c ls hx hb hr hlocks hts hown hml hP hK hl
  have hown : s.vm.findClass RX5 = some m.cls := hown
  have hl : lv_has ls 3 [(0, .ref h0)] := hl
  have hf_101 := hts (.fieldLink RX5 101 "MajorityIndexModel" "nodes" "I") (List.mem_of_getElem? (i := 1) rfl)
  have hi_5 : ∀ w ∈ u_ws RX5 TX5 30, w ∈ wsX5_nodesWithMajority := fun w h => List.mem_cons_of_mem _ (List.mem_append_right _ h)
  have hf_38 := hts (.fieldLink RX5 38 "MajorityIndexModel" "nodeL" "[I") (List.mem_of_getElem? (i := 2) rfl)
  have hf_41 := hts (.fieldLink RX5 41 "MajorityIndexModel" "nodeR" "[I") (List.mem_of_getElem? (i := 3) rfl)
  have hk_148 := hts (.constant RX5 148 (-40000)) (List.mem_of_getElem? (i := 4) rfl)
  have n_nd := ki_nat m_nodes rfl (om_10 b0)
  refine lv_iconst (v := 0) hx hb dX5_nodesWithMajority_0 (by decide) ?_
  refine lv_istore_n (lv' := [(1, .int 0), (0, .ref h0)]) hx hb dX5_nodesWithMajority_1 rfl hl (by decide) rfl (fun ls hl => ?_)
  refine lv_iconst (v := 0) hx hb dX5_nodesWithMajority_2 (by decide) ?_
  refine lv_istore_n (lv' := [(2, .int 0), (1, .int 0), (0, .ref h0)]) hx hb dX5_nodesWithMajority_3 rfl hl (by decide) rfl (fun ls hl => ?_)
  have LP1 : ∀ (n : Nat) (i : Int32) (sm : Int32), (0 ≤ i.toInt) → (sm.toInt = (mj_nm f nl nr i.toNatClampNeg : Int)) → (i.toInt ≤ m_nodes.toInt) → (m_nodes.toInt - i.toInt).toNat < n → ∀ (ls : Array Slot), lv_has ls 3 [(2, .int i), (1, .int sm), (0, .ref h0)] → W p l e (headSpec wsX5_nodesWithMajority ({ frames := 2, cells := 0, slots := 0, locals := 90 })).room s m ([.ref h0] : List Value).toArray below meth c s.heap [] 0 0 (MQ below (vp_Si (fun r : Int32 => r.toInt = (mj_nm f nl nr m_nodes.toNatClampNeg : Int))) ([.ref h0] : List Value).toArray s 0 0 (fun _ => False)) (F0 m 4 ls []) := by
    intro n
    induction n with
    | zero => intro i sm LP1_h0 LP1_h1 LP1_h2 hn; exact absurd hn (Nat.not_lt_zero _)
    | succ n ih1 =>
      intro i sm LP1_h0 LP1_h1 LP1_h2 hn1 ls hl
      have n_i := ki_nat i rfl (om_10 LP1_h0)
      have hle := mj_nm_le f nl nr i.toNatClampNeg
      refine lv_iload_n hx hb dX5_nodesWithMajority_4 rfl (lv_at hl 0 rfl) ?_
      refine lv_aload_n hx hb dX5_nodesWithMajority_5 rfl (lv_at hl 2 rfl) ?_
      refine va_get (D := (dC, dI)) (ci := 5) (v := .int m_nodes) (C := RX5) (T := TX5) (N := 30) hx hb hts hi_5 hown hK hP 0 rfl rfl 14 (by decide) hf_101 (fun _ h9 => h9) rfl dX5_nodesWithMajority_6 ?_
      refine lv_icmp_ge (tgt := 42) hx hb dX5_nodesWithMajority_9 (by decide) (fun c_1 => ?_) (fun c_1 => ?_)
      · have i_1 : m_nodes.toInt ≤ i.toInt := kc_le c_1
        refine lv_iload_n hx hb dX5_nodesWithMajority_42 rfl (lv_at hl 1 rfl) ?_
        exact W.iret (v := sm) hx hb hr (hlocks := hlocks) (fun t ht hW => ⟨sm, rfl, (by (try dsimp only); rw [show m_nodes.toNatClampNeg = i.toNatClampNeg by omega]; exact LP1_h1), ht⟩) (fun q hq => by cases hq) dX5_nodesWithMajority_43
      · have i_1 : i.toInt < m_nodes.toInt := kc_nle c_1
        refine lv_aload_n hx hb dX5_nodesWithMajority_12 rfl (lv_at hl 2 rfl) ?_
        refine lv_aload_n hx hb dX5_nodesWithMajority_13 rfl (lv_at hl 2 rfl) ?_
        refine va_get (D := (dC, dI)) (ci := 5) (v := .ref g_nodeL) (C := RX5) (T := TX5) (N := 30) hx hb hts hi_5 hown hK hP 0 rfl rfl 12 (by decide) hf_38 (fun _ h9 => h9) rfl dX5_nodesWithMajority_14 ?_
        refine lv_iload_n hx hb dX5_nodesWithMajority_17 rfl (lv_at hl 0 rfl) ?_
        refine va_iald hx hb hK hP 2 0 rfl rfl (ki_in (om_10 LP1_h0) (om_369 b1 LP1_h2)) dX5_nodesWithMajority_18 ?_
        refine lv_topi (fun y_2 ey_2 => ?_)
        have j_2 : y_2.toInt = (nl i.toNatClampNeg).toInt := congrArg Int32.toInt ey_2
        have n_3 : (i.toNatClampNeg : Int) = i.toInt := ki_nat _ rfl (om_10 LP1_h0)
        have i_4 := ok i.toNatClampNeg (by omega)
        refine lv_aload_n hx hb dX5_nodesWithMajority_19 rfl (lv_at hl 2 rfl) ?_
        refine va_get (D := (dC, dI)) (ci := 5) (v := .ref g_nodeR) (C := RX5) (T := TX5) (N := 30) hx hb hts hi_5 hown hK hP 0 rfl rfl 13 (by decide) hf_41 (fun _ h9 => h9) rfl dX5_nodesWithMajority_20 ?_
        refine lv_iload_n hx hb dX5_nodesWithMajority_23 rfl (lv_at hl 0 rfl) ?_
        refine va_iald hx hb hK hP 3 0 rfl rfl (ki_in (om_10 LP1_h0) (om_369 b1 LP1_h2)) dX5_nodesWithMajority_24 ?_
        refine lv_topi (fun y_5 ey_5 => ?_)
        have j_5 : y_5.toInt = (nr i.toNatClampNeg).toInt := congrArg Int32.toInt ey_5
        have n_6 : (i.toNatClampNeg : Int) = i.toInt := ki_nat _ rfl (om_10 LP1_h0)
        have i_7 := ok i.toNatClampNeg (by omega)
        have hPc := hP.sub (ws' := [kx_5 h0 g_row m_n m_slots m_thrown g_many g_loss g_less g_voteValue g_voteNumber g_allValue g_allNumber m_allMany g_nodeL g_nodeR m_nodes g_part m_partMany g_wasMany g_wasLoss g_wasValue g_wasNumber g_path m_pathMany g_heavyValue g_heavyTimes m_heavyMany g_fewest g_which g_met m_mostMet, kx_a g_row cyI 160 f]) [0, 1] rfl
        have hKc := hK
        refine vp_callSi (W.runV (As := [.int y_2, .int y_5]) (rest := []) ⟨hx, hb, hml, hown, hts⟩ (c_X5_majorityOf_x l dC dI h0 g_row g_many g_loss g_less g_voteValue g_voteNumber g_allValue g_allNumber g_nodeL g_nodeR g_part g_wasMany g_wasLoss g_wasValue g_wasNumber g_path g_heavyValue g_heavyTimes g_fewest g_which g_met m_n m_slots m_thrown m_allMany m_nodes m_partMany m_pathMany m_heavyMany m_mostMet cyI f y_2 y_5 (by omega) (by omega) (by omega)) (cwV 2 hts gX5_nodesWithMajority_X5_majorityOf rfl rfl rfl (by decide +kernel) ⟨Nat.le_of_ble_eq_true rfl, Nat.le_of_ble_eq_true rfl⟩) ⟨fun a U g mk q => by obtain ⟨q0, qP, qK⟩ := q; exact ⟨q0, qP, va_K.moved (u := U) (U := U.calling g mk a) (Vm.Alike.refl U.vm) qK⟩, kx_rc5 hKc hPc (q0 := 0) rfl, fun U hU hW => ⟨rfl, by rw [hU]; exact hPc, va_K.moved hW.alike hKc⟩⟩ rfl rfl hl.1 rfl (lv_room (Nat.le_of_ble_eq_true rfl)) dX5_nodesWithMajority_25 ⟨Nat.le_of_ble_eq_true rfl, Nat.le_of_ble_eq_true rfl⟩) (fun r_8 w_8 => ?_)
        have w_8 : mj_maj f y_2.toNatClampNeg y_5.toNatClampNeg r_8 := w_8
        refine lv_ldc (v := (-40000)) hx hb hown hk_148 dX5_nodesWithMajority_28 ?_
        refine lv_icmp_eq (tgt := 36) hx hb dX5_nodesWithMajority_30 (by decide) (fun c_9 => ?_) (fun c_9 => ?_)
        · have i_9 : r_8.toInt = (-40000) := kc_eq c_9
          obtain ⟨x_10, ex_10⟩ : ∃ y : Int32, y = i + 1 := ⟨_, rfl⟩
          have i_10 : x_10.toInt = i.toInt + 1 := ki_add ex_10 rfl rfl (om_13 LP1_h0) (om_370 b1 LP1_h2)
          refine lv_iinc (v := x_10) (lv' := [(2, .int x_10), (1, .int sm), (0, .ref h0)]) hx hb dX5_nodesWithMajority_36 hl (k := 0) rfl (by rw [ex_10]; rfl) (by decide) rfl (fun ls hl => ?_)
          refine lv_goto (tgt := 4) hx hb dX5_nodesWithMajority_39 (by decide) ?_
          have n_11 := ki_nat x_10 rfl (om_34 LP1_h0 i_10)
          have n_f := ki_nat y_2 rfl (by omega)
          have n_t := ki_nat y_5 rfl (by omega)
          have hmi := mj_maj_hm w_8 s1 (by omega) (by omega)
          rw [ey_2, ey_5] at hmi
          have st := mj_nm_no (f := f) (ff := nl) (ft := nr) (k := i.toNatClampNeg) (k2 := x_10.toNatClampNeg) (fun h => hmi.mpr h c_9) (by omega)
          exact ih1 x_10 sm (om_34 LP1_h0 i_10) (by rw [st]; omega) (om_54 i_1 i_10) (om_mu hn1 (om_5 i_10) (om_6 i_1)) ls (lv_sub hl [0, 1, 2] rfl)
        · have i_9 : ¬ r_8.toInt = (-40000) := kc_ne c_9
          obtain ⟨x_12, ex_12⟩ : ∃ y : Int32, y = sm + 1 := ⟨_, rfl⟩
          have i_12 : x_12.toInt = sm.toInt + 1 := ki_add ex_12 rfl rfl (by omega) (by omega)
          refine lv_iinc (v := x_12) (lv' := [(1, .int x_12), (2, .int i), (0, .ref h0)]) hx hb dX5_nodesWithMajority_33 hl (k := 1) rfl (by rw [ex_12]; rfl) (by decide) rfl (fun ls hl => ?_)
          obtain ⟨x_13, ex_13⟩ : ∃ y : Int32, y = i + 1 := ⟨_, rfl⟩
          have i_13 : x_13.toInt = i.toInt + 1 := ki_add ex_13 rfl rfl (om_13 LP1_h0) (om_370 b1 LP1_h2)
          refine lv_iinc (v := x_13) (lv' := [(2, .int x_13), (1, .int x_12), (0, .ref h0)]) hx hb dX5_nodesWithMajority_36 hl (k := 1) rfl (by rw [ex_13]; rfl) (by decide) rfl (fun ls hl => ?_)
          refine lv_goto (tgt := 4) hx hb dX5_nodesWithMajority_39 (by decide) ?_
          have n_14 := ki_nat x_13 rfl (om_34 LP1_h0 i_13)
          have n_f := ki_nat y_2 rfl (by omega)
          have n_t := ki_nat y_5 rfl (by omega)
          have hmi := mj_maj_hm w_8 s1 (by omega) (by omega)
          rw [ey_2, ey_5] at hmi
          have st := mj_nm_yes (f := f) (ff := nl) (ft := nr) (k := i.toNatClampNeg) (k2 := x_13.toNatClampNeg) (hmi.mp c_9) (by omega)
          exact ih1 x_13 x_12 (om_34 LP1_h0 i_13) (by rw [st]; omega) (om_54 i_1 i_13) (om_mu hn1 (om_5 i_13) (om_6 i_1)) ls (lv_sub hl [0, 1, 2] rfl)
  have k_15 : (0 : Int32).toInt = 0 := rfl
  have k_16 : (0 : Int32).toInt = 0 := rfl
  exact LP1 ((m_nodes.toInt - 0 : Int).toNat + 1) 0 0 om_35 rfl (om_10 b0) (Nat.lt_succ_self _) ls (lv_sub hl [0, 1, 2] rfl)

set_option maxHeartbeats 4000000 in
set_option maxRecDepth 100000 in
theorem c_X5_deep_x0 (l : Launch) (dC : Nat → ClassId) (dI : Nat → Nat → Nat) (h0 : Nat) (g_row : Nat) (g_many : Nat) (g_loss : Nat) (g_less : Nat) (g_voteValue : Nat) (g_voteNumber : Nat) (g_allValue : Nat) (g_allNumber : Nat) (g_nodeL : Nat) (g_nodeR : Nat) (g_part : Nat) (g_wasMany : Nat) (g_wasLoss : Nat) (g_wasValue : Nat) (g_wasNumber : Nat) (g_path : Nat) (g_heavyValue : Nat) (g_heavyTimes : Nat) (g_fewest : Nat) (g_which : Nat) (g_met : Nat) (m_n : Int32) (m_slots : Int32) (m_thrown : Int32) (m_allMany : Int32) (m_nodes : Int32) (m_partMany : Int32) (m_pathMany : Int32) (m_heavyMany : Int32) (m_mostMet : Int32) (p0 : Int32) (p1 : Int32) (b0 : 0 ≤ p0.toInt) (b1 : p0.toInt ≤ p1.toInt) (b2 : p1.toInt ≤ 160) (b3 : p1.toInt - p0.toInt ≤ 1) : Met l yX5_deep wsX5_deep ({ frames := 0, cells := 0, slots := 0, locals := 0 }) (va_Pc [.ref h0, .int p0, .int p1] (fun U => va_P (dC, dI) vwCl [kx_5 h0 g_row m_n m_slots m_thrown g_many g_loss g_less g_voteValue g_voteNumber g_allValue g_allNumber m_allMany g_nodeL g_nodeR m_nodes g_part m_partMany g_wasMany g_wasLoss g_wasValue g_wasNumber g_path m_pathMany g_heavyValue g_heavyTimes m_heavyMany g_fewest g_which g_met m_mostMet] U.heap ∧ va_K (dC, dI) vwCl [] U)) (vp_Si (fun r : Int32 => r.toInt = (mj_dp 0 (p1.toInt - p0.toInt).toNat : Int) ∧ 0 ≤ r.toInt ∧ r.toInt ≤ 1)) 0 0 (fun _ => False) := by
  refine kx_stS (ws := wsX5_deep) (cc := cX5_deep) (maxL := 6) (ret := (some .int)) (by decide) rfl (Nat.le_of_ble_eq_true rfl) ?_
  intro p e s m below meth c ls hx hb hr hlocks hts hown hml hP hK hl
  have hown : s.vm.findClass RX5 = some m.cls := hown
  have hl : lv_has ls 6 [(0, .ref h0), (1, .int p0), (2, .int p1)] := hl
  refine lv_iload_n hx hb dX5_deep_0 rfl (lv_at hl 2 rfl) ?_
  refine lv_iload_n hx hb dX5_deep_1 rfl (lv_at hl 1 rfl) ?_
  refine lv_isub hx hb dX5_deep_2 ?_
  refine lv_topi (fun y_1 ey_1 => ?_)
  have i_1 : y_1.toInt = p1.toInt - p0.toInt := ki_sub ey_1 rfl rfl (om_184 b1) (om_326 b3)
  refine lv_iconst (v := 2) hx hb dX5_deep_3 (by decide) ?_
  refine lv_icmp_ge (tgt := 11) hx hb dX5_deep_4 (by decide) (fun c_2 => ?_) (fun c_2 => ?_)
  · have i_2 : 2 ≤ y_1.toInt := kc_le c_2
    exfalso; omega
  · have i_2 : y_1.toInt < 2 := kc_nle c_2
    refine lv_iload_n hx hb dX5_deep_7 rfl (lv_at hl 2 rfl) ?_
    refine lv_iload_n hx hb dX5_deep_8 rfl (lv_at hl 1 rfl) ?_
    refine lv_isub hx hb dX5_deep_9 ?_
    refine lv_topi (fun y_3 ey_3 => ?_)
    have i_3 : y_3.toInt = p1.toInt - p0.toInt := ki_sub ey_3 rfl rfl (om_184 b1) (om_326 b3)
    exact W.iret (v := y_3) hx hb hr (hlocks := hlocks) (fun t ht hW => ⟨y_3, rfl, ⟨(by (try dsimp only); rw [mj_dp_small (by omega)]; omega), (by (try dsimp only); omega), (by (try dsimp only); omega)⟩, ht⟩) (fun q hq => by cases hq) dX5_deep_10

set_option maxHeartbeats 4000000 in
set_option maxRecDepth 100000 in
theorem c_X5_deep_x1 (l : Launch) (dC : Nat → ClassId) (dI : Nat → Nat → Nat) (h0 : Nat) (g_row : Nat) (g_many : Nat) (g_loss : Nat) (g_less : Nat) (g_voteValue : Nat) (g_voteNumber : Nat) (g_allValue : Nat) (g_allNumber : Nat) (g_nodeL : Nat) (g_nodeR : Nat) (g_part : Nat) (g_wasMany : Nat) (g_wasLoss : Nat) (g_wasValue : Nat) (g_wasNumber : Nat) (g_path : Nat) (g_heavyValue : Nat) (g_heavyTimes : Nat) (g_fewest : Nat) (g_which : Nat) (g_met : Nat) (m_n : Int32) (m_slots : Int32) (m_thrown : Int32) (m_allMany : Int32) (m_nodes : Int32) (m_partMany : Int32) (m_pathMany : Int32) (m_heavyMany : Int32) (m_mostMet : Int32) (p0 : Int32) (p1 : Int32) (b0 : 0 ≤ p0.toInt) (b1 : p0.toInt ≤ p1.toInt) (b2 : p1.toInt ≤ 160) (b3 : p1.toInt - p0.toInt ≤ 2) : Met l yX5_deep wsX5_deep ({ frames := 1, cells := 0, slots := 0, locals := 45 }) (va_Pc [.ref h0, .int p0, .int p1] (fun U => va_P (dC, dI) vwCl [kx_5 h0 g_row m_n m_slots m_thrown g_many g_loss g_less g_voteValue g_voteNumber g_allValue g_allNumber m_allMany g_nodeL g_nodeR m_nodes g_part m_partMany g_wasMany g_wasLoss g_wasValue g_wasNumber g_path m_pathMany g_heavyValue g_heavyTimes m_heavyMany g_fewest g_which g_met m_mostMet] U.heap ∧ va_K (dC, dI) vwCl [] U)) (vp_Si (fun r : Int32 => r.toInt = (mj_dp 1 (p1.toInt - p0.toInt).toNat : Int) ∧ 0 ≤ r.toInt ∧ r.toInt ≤ 2)) 0 0 (fun _ => False) := by
  refine kx_stS (ws := wsX5_deep) (cc := cX5_deep) (maxL := 6) (ret := (some .int)) (by decide) rfl (Nat.le_of_ble_eq_true rfl) ?_
  intro p e s m below meth c ls hx hb hr hlocks hts hown hml hP hK hl
  have hown : s.vm.findClass RX5 = some m.cls := hown
  have hl : lv_has ls 6 [(0, .ref h0), (1, .int p0), (2, .int p1)] := hl
  refine lv_iload_n hx hb dX5_deep_0 rfl (lv_at hl 2 rfl) ?_
  refine lv_iload_n hx hb dX5_deep_1 rfl (lv_at hl 1 rfl) ?_
  refine lv_isub hx hb dX5_deep_2 ?_
  refine lv_topi (fun y_1 ey_1 => ?_)
  have i_1 : y_1.toInt = p1.toInt - p0.toInt := ki_sub ey_1 rfl rfl (om_184 b1) (om_329 b3)
  refine lv_iconst (v := 2) hx hb dX5_deep_3 (by decide) ?_
  refine lv_icmp_ge (tgt := 11) hx hb dX5_deep_4 (by decide) (fun c_2 => ?_) (fun c_2 => ?_)
  · have i_2 : 2 ≤ y_1.toInt := kc_le c_2
    refine lv_iload_n hx hb dX5_deep_11 rfl (lv_at hl 1 rfl) ?_
    refine lv_iload_n hx hb dX5_deep_12 rfl (lv_at hl 2 rfl) ?_
    refine lv_iadd hx hb dX5_deep_13 ?_
    refine lv_topi (fun y_3 ey_3 => ?_)
    have i_3 : y_3.toInt = p0.toInt + p1.toInt := ki_add ey_3 rfl rfl (om_447 b0 b1) (om_448 b1 b2)
    refine lv_iconst (v := 2) hx hb dX5_deep_14 (by decide) ?_
    refine lv_idiv hx hb dX5_deep_15 (by decide) ?_
    refine lv_topi (fun y_4 ey_4 => ?_)
    have i_4 : y_4.toInt = y_3.toInt / 2 := ki_div2 ey_4 rfl (om_449 b0 b1 i_3)
    have d_5 := om_dv i_4
    refine lv_istore_n (lv' := [(3, .int y_4), (0, .ref h0), (1, .int p0), (2, .int p1)]) hx hb dX5_deep_16 rfl hl (by decide) rfl (fun ls hl => ?_)
    refine lv_aload_n hx hb dX5_deep_17 rfl (lv_at hl 1 rfl) ?_
    refine lv_iload_n hx hb dX5_deep_18 rfl (lv_at hl 2 rfl) ?_
    refine lv_iload_n hx hb dX5_deep_19 rfl (lv_at hl 0 rfl) ?_
    have hPc := hP
    have hKc := hK
    refine vp_callSi (W.runV (As := [.int p0, .int y_4]) (rest := []) ⟨hx, hb, hml, hown, hts⟩ (c_X5_deep_x0 l dC dI h0 g_row g_many g_loss g_less g_voteValue g_voteNumber g_allValue g_allNumber g_nodeL g_nodeR g_part g_wasMany g_wasLoss g_wasValue g_wasNumber g_path g_heavyValue g_heavyTimes g_fewest g_which g_met m_n m_slots m_thrown m_allMany m_nodes m_partMany m_pathMany m_heavyMany m_mostMet p0 y_4 b0 (om_450 b1 i_1 i_2 i_3 d_5.2) (om_451 b1 b2 i_3 d_5.1) (om_335 b3 i_3 d_5.1)) (cwV 2 hts gX5_deep_X5_deep rfl rfl rfl (by decide +kernel) ⟨Nat.le_of_ble_eq_true rfl, Nat.le_of_ble_eq_true rfl⟩) ⟨fun a U g mk q => by obtain ⟨q0, qP, qK⟩ := q; exact ⟨q0, qP, va_K.moved (u := U) (U := U.calling g mk a) (Vm.Alike.refl U.vm) qK⟩, kx_rc5 hKc hPc (q0 := 0) rfl, fun U hU hW => ⟨rfl, by rw [hU]; exact hPc, va_K.moved hW.alike hKc⟩⟩ rfl rfl hl.1 rfl (lv_room (Nat.le_of_ble_eq_true rfl)) dX5_deep_20 ⟨Nat.le_of_ble_eq_true rfl, Nat.le_of_ble_eq_true rfl⟩) (fun r_6 w_6 => ?_)
    have w_6 : r_6.toInt = (mj_dp 0 (y_4.toInt - p0.toInt).toNat : Int) ∧ 0 ≤ r_6.toInt ∧ r_6.toInt ≤ 1 := w_6
    refine lv_istore (lv' := [(4, .int r_6), (3, .int y_4), (0, .ref h0), (1, .int p0), (2, .int p1)]) hx hb dX5_deep_23 hl (by decide) rfl (fun ls hl => ?_)
    refine lv_aload_n hx hb dX5_deep_25 rfl (lv_at hl 2 rfl) ?_
    refine lv_iload_n hx hb dX5_deep_26 rfl (lv_at hl 1 rfl) ?_
    refine lv_iload_n hx hb dX5_deep_27 rfl (lv_at hl 4 rfl) ?_
    have hPc := hP
    have hKc := hK
    refine vp_callSi (W.runV (As := [.int y_4, .int p1]) (rest := []) ⟨hx, hb, hml, hown, hts⟩ (c_X5_deep_x0 l dC dI h0 g_row g_many g_loss g_less g_voteValue g_voteNumber g_allValue g_allNumber g_nodeL g_nodeR g_part g_wasMany g_wasLoss g_wasValue g_wasNumber g_path g_heavyValue g_heavyTimes g_fewest g_which g_met m_n m_slots m_thrown m_allMany m_nodes m_partMany m_pathMany m_heavyMany m_mostMet y_4 p1 (om_452 b0 b1 i_1 i_2 i_3 d_5.2) (om_453 b1 i_3 d_5.1) b2 (by omega)) (cwV 2 hts gX5_deep_X5_deep rfl rfl rfl (by decide +kernel) ⟨Nat.le_of_ble_eq_true rfl, Nat.le_of_ble_eq_true rfl⟩) ⟨fun a U g mk q => by obtain ⟨q0, qP, qK⟩ := q; exact ⟨q0, qP, va_K.moved (u := U) (U := U.calling g mk a) (Vm.Alike.refl U.vm) qK⟩, kx_rc5 hKc hPc (q0 := 0) rfl, fun U hU hW => ⟨rfl, by rw [hU]; exact hPc, va_K.moved hW.alike hKc⟩⟩ rfl rfl hl.1 rfl (lv_room (Nat.le_of_ble_eq_true rfl)) dX5_deep_28 ⟨Nat.le_of_ble_eq_true rfl, Nat.le_of_ble_eq_true rfl⟩) (fun r_7 w_7 => ?_)
    have w_7 : r_7.toInt = (mj_dp 0 (p1.toInt - y_4.toInt).toNat : Int) ∧ 0 ≤ r_7.toInt ∧ r_7.toInt ≤ 1 := w_7
    refine lv_istore (lv' := [(5, .int r_7), (4, .int r_6), (3, .int y_4), (0, .ref h0), (1, .int p0), (2, .int p1)]) hx hb dX5_deep_31 hl (by decide) rfl (fun ls hl => ?_)
    refine lv_iconst (v := 1) hx hb dX5_deep_33 (by decide) ?_
    refine lv_iload hx hb dX5_deep_34 (lv_at hl 1 rfl) ?_
    refine lv_iload hx hb dX5_deep_36 (lv_at hl 0 rfl) ?_
    refine lv_icmp_le (tgt := 46) hx hb dX5_deep_38 (by decide) (fun c_8 => ?_) (fun c_8 => ?_)
    · have i_8 : r_6.toInt ≤ r_7.toInt := kc_le c_8
      refine lv_iload hx hb dX5_deep_46 (lv_at hl 0 rfl) ?_
      refine lv_iadd hx hb dX5_deep_48 ?_
      refine lv_topi (fun y_9 ey_9 => ?_)
      have i_9 : y_9.toInt = 1 + r_7.toInt := ki_add ey_9 rfl rfl (om_454 w_7.2.1) (om_455 w_7.2.2)
      have d_1 : mj_dp 1 (p1.toInt - p0.toInt).toNat = 1 + mj_dp 0 (p1.toInt - y_4.toInt).toNat ∧ mj_dp 0 (y_4.toInt - p0.toInt).toNat ≤ mj_dp 0 (p1.toInt - y_4.toInt).toNat := mj_dp_node (by omega) (by omega) (by omega)
      exact W.iret (v := y_9) hx hb hr (hlocks := hlocks) (fun t ht hW => ⟨y_9, rfl, ⟨(by (try dsimp only); omega), (by (try dsimp only); omega), (by (try dsimp only); omega)⟩, ht⟩) (fun q hq => by cases hq) dX5_deep_49
    · have i_8 : r_7.toInt < r_6.toInt := kc_nle c_8
      refine lv_iload hx hb dX5_deep_41 (lv_at hl 1 rfl) ?_
      refine lv_goto (tgt := 48) hx hb dX5_deep_43 (by decide) ?_
      refine lv_iadd hx hb dX5_deep_48 ?_
      refine lv_topi (fun y_10 ey_10 => ?_)
      have i_10 : y_10.toInt = 1 + r_6.toInt := ki_add ey_10 rfl rfl (om_454 w_6.2.1) (om_455 w_6.2.2)
      have d_1 : mj_dp 1 (p1.toInt - p0.toInt).toNat = 1 + mj_dp 0 (p1.toInt - y_4.toInt).toNat ∧ mj_dp 0 (y_4.toInt - p0.toInt).toNat ≤ mj_dp 0 (p1.toInt - y_4.toInt).toNat := mj_dp_node (by omega) (by omega) (by omega)
      exact W.iret (v := y_10) hx hb hr (hlocks := hlocks) (fun t ht hW => ⟨y_10, rfl, ⟨(by (try dsimp only); omega), (by (try dsimp only); omega), (by (try dsimp only); omega)⟩, ht⟩) (fun q hq => by cases hq) dX5_deep_49
  · have i_2 : y_1.toInt < 2 := kc_nle c_2
    refine lv_iload_n hx hb dX5_deep_7 rfl (lv_at hl 2 rfl) ?_
    refine lv_iload_n hx hb dX5_deep_8 rfl (lv_at hl 1 rfl) ?_
    refine lv_isub hx hb dX5_deep_9 ?_
    refine lv_topi (fun y_11 ey_11 => ?_)
    have i_11 : y_11.toInt = p1.toInt - p0.toInt := ki_sub ey_11 rfl rfl (om_184 b1) (om_329 b3)
    exact W.iret (v := y_11) hx hb hr (hlocks := hlocks) (fun t ht hW => ⟨y_11, rfl, ⟨(by (try dsimp only); rw [mj_dp_small (by omega)]; omega), (by (try dsimp only); omega), (by (try dsimp only); omega)⟩, ht⟩) (fun q hq => by cases hq) dX5_deep_10

set_option maxHeartbeats 4000000 in
set_option maxRecDepth 100000 in
theorem c_X5_deep_x2 (l : Launch) (dC : Nat → ClassId) (dI : Nat → Nat → Nat) (h0 : Nat) (g_row : Nat) (g_many : Nat) (g_loss : Nat) (g_less : Nat) (g_voteValue : Nat) (g_voteNumber : Nat) (g_allValue : Nat) (g_allNumber : Nat) (g_nodeL : Nat) (g_nodeR : Nat) (g_part : Nat) (g_wasMany : Nat) (g_wasLoss : Nat) (g_wasValue : Nat) (g_wasNumber : Nat) (g_path : Nat) (g_heavyValue : Nat) (g_heavyTimes : Nat) (g_fewest : Nat) (g_which : Nat) (g_met : Nat) (m_n : Int32) (m_slots : Int32) (m_thrown : Int32) (m_allMany : Int32) (m_nodes : Int32) (m_partMany : Int32) (m_pathMany : Int32) (m_heavyMany : Int32) (m_mostMet : Int32) (p0 : Int32) (p1 : Int32) (b0 : 0 ≤ p0.toInt) (b1 : p0.toInt ≤ p1.toInt) (b2 : p1.toInt ≤ 160) (b3 : p1.toInt - p0.toInt ≤ 4) : Met l yX5_deep wsX5_deep ({ frames := 2, cells := 0, slots := 0, locals := 90 }) (va_Pc [.ref h0, .int p0, .int p1] (fun U => va_P (dC, dI) vwCl [kx_5 h0 g_row m_n m_slots m_thrown g_many g_loss g_less g_voteValue g_voteNumber g_allValue g_allNumber m_allMany g_nodeL g_nodeR m_nodes g_part m_partMany g_wasMany g_wasLoss g_wasValue g_wasNumber g_path m_pathMany g_heavyValue g_heavyTimes m_heavyMany g_fewest g_which g_met m_mostMet] U.heap ∧ va_K (dC, dI) vwCl [] U)) (vp_Si (fun r : Int32 => r.toInt = (mj_dp 2 (p1.toInt - p0.toInt).toNat : Int) ∧ 0 ≤ r.toInt ∧ r.toInt ≤ 3)) 0 0 (fun _ => False) := by
  refine kx_stS (ws := wsX5_deep) (cc := cX5_deep) (maxL := 6) (ret := (some .int)) (by decide) rfl (Nat.le_of_ble_eq_true rfl) ?_
  intro p e s m below meth c ls hx hb hr hlocks hts hown hml hP hK hl
  have hown : s.vm.findClass RX5 = some m.cls := hown
  have hl : lv_has ls 6 [(0, .ref h0), (1, .int p0), (2, .int p1)] := hl
  refine lv_iload_n hx hb dX5_deep_0 rfl (lv_at hl 2 rfl) ?_
  refine lv_iload_n hx hb dX5_deep_1 rfl (lv_at hl 1 rfl) ?_
  refine lv_isub hx hb dX5_deep_2 ?_
  refine lv_topi (fun y_1 ey_1 => ?_)
  have i_1 : y_1.toInt = p1.toInt - p0.toInt := ki_sub ey_1 rfl rfl (om_184 b1) (om_348 b3)
  refine lv_iconst (v := 2) hx hb dX5_deep_3 (by decide) ?_
  refine lv_icmp_ge (tgt := 11) hx hb dX5_deep_4 (by decide) (fun c_2 => ?_) (fun c_2 => ?_)
  · have i_2 : 2 ≤ y_1.toInt := kc_le c_2
    refine lv_iload_n hx hb dX5_deep_11 rfl (lv_at hl 1 rfl) ?_
    refine lv_iload_n hx hb dX5_deep_12 rfl (lv_at hl 2 rfl) ?_
    refine lv_iadd hx hb dX5_deep_13 ?_
    refine lv_topi (fun y_3 ey_3 => ?_)
    have i_3 : y_3.toInt = p0.toInt + p1.toInt := ki_add ey_3 rfl rfl (om_447 b0 b1) (om_448 b1 b2)
    refine lv_iconst (v := 2) hx hb dX5_deep_14 (by decide) ?_
    refine lv_idiv hx hb dX5_deep_15 (by decide) ?_
    refine lv_topi (fun y_4 ey_4 => ?_)
    have i_4 : y_4.toInt = y_3.toInt / 2 := ki_div2 ey_4 rfl (om_449 b0 b1 i_3)
    have d_5 := om_dv i_4
    refine lv_istore_n (lv' := [(3, .int y_4), (0, .ref h0), (1, .int p0), (2, .int p1)]) hx hb dX5_deep_16 rfl hl (by decide) rfl (fun ls hl => ?_)
    refine lv_aload_n hx hb dX5_deep_17 rfl (lv_at hl 1 rfl) ?_
    refine lv_iload_n hx hb dX5_deep_18 rfl (lv_at hl 2 rfl) ?_
    refine lv_iload_n hx hb dX5_deep_19 rfl (lv_at hl 0 rfl) ?_
    have hPc := hP
    have hKc := hK
    refine vp_callSi (W.runV (As := [.int p0, .int y_4]) (rest := []) ⟨hx, hb, hml, hown, hts⟩ (c_X5_deep_x1 l dC dI h0 g_row g_many g_loss g_less g_voteValue g_voteNumber g_allValue g_allNumber g_nodeL g_nodeR g_part g_wasMany g_wasLoss g_wasValue g_wasNumber g_path g_heavyValue g_heavyTimes g_fewest g_which g_met m_n m_slots m_thrown m_allMany m_nodes m_partMany m_pathMany m_heavyMany m_mostMet p0 y_4 b0 (om_450 b1 i_1 i_2 i_3 d_5.2) (om_451 b1 b2 i_3 d_5.1) (om_349 b3 i_3 d_5.1)) (cwV 2 hts gX5_deep_X5_deep rfl rfl rfl (by decide +kernel) ⟨Nat.le_of_ble_eq_true rfl, Nat.le_of_ble_eq_true rfl⟩) ⟨fun a U g mk q => by obtain ⟨q0, qP, qK⟩ := q; exact ⟨q0, qP, va_K.moved (u := U) (U := U.calling g mk a) (Vm.Alike.refl U.vm) qK⟩, kx_rc5 hKc hPc (q0 := 0) rfl, fun U hU hW => ⟨rfl, by rw [hU]; exact hPc, va_K.moved hW.alike hKc⟩⟩ rfl rfl hl.1 rfl (lv_room (Nat.le_of_ble_eq_true rfl)) dX5_deep_20 ⟨Nat.le_of_ble_eq_true rfl, Nat.le_of_ble_eq_true rfl⟩) (fun r_6 w_6 => ?_)
    have w_6 : r_6.toInt = (mj_dp 1 (y_4.toInt - p0.toInt).toNat : Int) ∧ 0 ≤ r_6.toInt ∧ r_6.toInt ≤ 2 := w_6
    refine lv_istore (lv' := [(4, .int r_6), (3, .int y_4), (0, .ref h0), (1, .int p0), (2, .int p1)]) hx hb dX5_deep_23 hl (by decide) rfl (fun ls hl => ?_)
    refine lv_aload_n hx hb dX5_deep_25 rfl (lv_at hl 2 rfl) ?_
    refine lv_iload_n hx hb dX5_deep_26 rfl (lv_at hl 1 rfl) ?_
    refine lv_iload_n hx hb dX5_deep_27 rfl (lv_at hl 4 rfl) ?_
    have hPc := hP
    have hKc := hK
    refine vp_callSi (W.runV (As := [.int y_4, .int p1]) (rest := []) ⟨hx, hb, hml, hown, hts⟩ (c_X5_deep_x1 l dC dI h0 g_row g_many g_loss g_less g_voteValue g_voteNumber g_allValue g_allNumber g_nodeL g_nodeR g_part g_wasMany g_wasLoss g_wasValue g_wasNumber g_path g_heavyValue g_heavyTimes g_fewest g_which g_met m_n m_slots m_thrown m_allMany m_nodes m_partMany m_pathMany m_heavyMany m_mostMet y_4 p1 (om_452 b0 b1 i_1 i_2 i_3 d_5.2) (om_453 b1 i_3 d_5.1) b2 (by omega)) (cwV 2 hts gX5_deep_X5_deep rfl rfl rfl (by decide +kernel) ⟨Nat.le_of_ble_eq_true rfl, Nat.le_of_ble_eq_true rfl⟩) ⟨fun a U g mk q => by obtain ⟨q0, qP, qK⟩ := q; exact ⟨q0, qP, va_K.moved (u := U) (U := U.calling g mk a) (Vm.Alike.refl U.vm) qK⟩, kx_rc5 hKc hPc (q0 := 0) rfl, fun U hU hW => ⟨rfl, by rw [hU]; exact hPc, va_K.moved hW.alike hKc⟩⟩ rfl rfl hl.1 rfl (lv_room (Nat.le_of_ble_eq_true rfl)) dX5_deep_28 ⟨Nat.le_of_ble_eq_true rfl, Nat.le_of_ble_eq_true rfl⟩) (fun r_7 w_7 => ?_)
    have w_7 : r_7.toInt = (mj_dp 1 (p1.toInt - y_4.toInt).toNat : Int) ∧ 0 ≤ r_7.toInt ∧ r_7.toInt ≤ 2 := w_7
    refine lv_istore (lv' := [(5, .int r_7), (4, .int r_6), (3, .int y_4), (0, .ref h0), (1, .int p0), (2, .int p1)]) hx hb dX5_deep_31 hl (by decide) rfl (fun ls hl => ?_)
    refine lv_iconst (v := 1) hx hb dX5_deep_33 (by decide) ?_
    refine lv_iload hx hb dX5_deep_34 (lv_at hl 1 rfl) ?_
    refine lv_iload hx hb dX5_deep_36 (lv_at hl 0 rfl) ?_
    refine lv_icmp_le (tgt := 46) hx hb dX5_deep_38 (by decide) (fun c_8 => ?_) (fun c_8 => ?_)
    · have i_8 : r_6.toInt ≤ r_7.toInt := kc_le c_8
      refine lv_iload hx hb dX5_deep_46 (lv_at hl 0 rfl) ?_
      refine lv_iadd hx hb dX5_deep_48 ?_
      refine lv_topi (fun y_9 ey_9 => ?_)
      have i_9 : y_9.toInt = 1 + r_7.toInt := ki_add ey_9 rfl rfl (om_454 w_7.2.1) (om_456 w_7.2.2)
      have d_1 : mj_dp 2 (p1.toInt - p0.toInt).toNat = 1 + mj_dp 1 (p1.toInt - y_4.toInt).toNat ∧ mj_dp 1 (y_4.toInt - p0.toInt).toNat ≤ mj_dp 1 (p1.toInt - y_4.toInt).toNat := mj_dp_node (by omega) (by omega) (by omega)
      exact W.iret (v := y_9) hx hb hr (hlocks := hlocks) (fun t ht hW => ⟨y_9, rfl, ⟨(by (try dsimp only); omega), (by (try dsimp only); omega), (by (try dsimp only); omega)⟩, ht⟩) (fun q hq => by cases hq) dX5_deep_49
    · have i_8 : r_7.toInt < r_6.toInt := kc_nle c_8
      refine lv_iload hx hb dX5_deep_41 (lv_at hl 1 rfl) ?_
      refine lv_goto (tgt := 48) hx hb dX5_deep_43 (by decide) ?_
      refine lv_iadd hx hb dX5_deep_48 ?_
      refine lv_topi (fun y_10 ey_10 => ?_)
      have i_10 : y_10.toInt = 1 + r_6.toInt := ki_add ey_10 rfl rfl (om_454 w_6.2.1) (om_456 w_6.2.2)
      have d_1 : mj_dp 2 (p1.toInt - p0.toInt).toNat = 1 + mj_dp 1 (p1.toInt - y_4.toInt).toNat ∧ mj_dp 1 (y_4.toInt - p0.toInt).toNat ≤ mj_dp 1 (p1.toInt - y_4.toInt).toNat := mj_dp_node (by omega) (by omega) (by omega)
      exact W.iret (v := y_10) hx hb hr (hlocks := hlocks) (fun t ht hW => ⟨y_10, rfl, ⟨(by (try dsimp only); omega), (by (try dsimp only); omega), (by (try dsimp only); omega)⟩, ht⟩) (fun q hq => by cases hq) dX5_deep_49
  · have i_2 : y_1.toInt < 2 := kc_nle c_2
    refine lv_iload_n hx hb dX5_deep_7 rfl (lv_at hl 2 rfl) ?_
    refine lv_iload_n hx hb dX5_deep_8 rfl (lv_at hl 1 rfl) ?_
    refine lv_isub hx hb dX5_deep_9 ?_
    refine lv_topi (fun y_11 ey_11 => ?_)
    have i_11 : y_11.toInt = p1.toInt - p0.toInt := ki_sub ey_11 rfl rfl (om_184 b1) (om_348 b3)
    exact W.iret (v := y_11) hx hb hr (hlocks := hlocks) (fun t ht hW => ⟨y_11, rfl, ⟨(by (try dsimp only); rw [mj_dp_small (by omega)]; omega), (by (try dsimp only); omega), (by (try dsimp only); omega)⟩, ht⟩) (fun q hq => by cases hq) dX5_deep_10

set_option maxHeartbeats 4000000 in
set_option maxRecDepth 100000 in
theorem c_X5_deep_x3 (l : Launch) (dC : Nat → ClassId) (dI : Nat → Nat → Nat) (h0 : Nat) (g_row : Nat) (g_many : Nat) (g_loss : Nat) (g_less : Nat) (g_voteValue : Nat) (g_voteNumber : Nat) (g_allValue : Nat) (g_allNumber : Nat) (g_nodeL : Nat) (g_nodeR : Nat) (g_part : Nat) (g_wasMany : Nat) (g_wasLoss : Nat) (g_wasValue : Nat) (g_wasNumber : Nat) (g_path : Nat) (g_heavyValue : Nat) (g_heavyTimes : Nat) (g_fewest : Nat) (g_which : Nat) (g_met : Nat) (m_n : Int32) (m_slots : Int32) (m_thrown : Int32) (m_allMany : Int32) (m_nodes : Int32) (m_partMany : Int32) (m_pathMany : Int32) (m_heavyMany : Int32) (m_mostMet : Int32) (p0 : Int32) (p1 : Int32) (b0 : 0 ≤ p0.toInt) (b1 : p0.toInt ≤ p1.toInt) (b2 : p1.toInt ≤ 160) (b3 : p1.toInt - p0.toInt ≤ 8) : Met l yX5_deep wsX5_deep ({ frames := 3, cells := 0, slots := 0, locals := 135 }) (va_Pc [.ref h0, .int p0, .int p1] (fun U => va_P (dC, dI) vwCl [kx_5 h0 g_row m_n m_slots m_thrown g_many g_loss g_less g_voteValue g_voteNumber g_allValue g_allNumber m_allMany g_nodeL g_nodeR m_nodes g_part m_partMany g_wasMany g_wasLoss g_wasValue g_wasNumber g_path m_pathMany g_heavyValue g_heavyTimes m_heavyMany g_fewest g_which g_met m_mostMet] U.heap ∧ va_K (dC, dI) vwCl [] U)) (vp_Si (fun r : Int32 => r.toInt = (mj_dp 3 (p1.toInt - p0.toInt).toNat : Int) ∧ 0 ≤ r.toInt ∧ r.toInt ≤ 4)) 0 0 (fun _ => False) := by
  refine kx_stS (ws := wsX5_deep) (cc := cX5_deep) (maxL := 6) (ret := (some .int)) (by decide) rfl (Nat.le_of_ble_eq_true rfl) ?_
  intro p e s m below meth c ls hx hb hr hlocks hts hown hml hP hK hl
  have hown : s.vm.findClass RX5 = some m.cls := hown
  have hl : lv_has ls 6 [(0, .ref h0), (1, .int p0), (2, .int p1)] := hl
  refine lv_iload_n hx hb dX5_deep_0 rfl (lv_at hl 2 rfl) ?_
  refine lv_iload_n hx hb dX5_deep_1 rfl (lv_at hl 1 rfl) ?_
  refine lv_isub hx hb dX5_deep_2 ?_
  refine lv_topi (fun y_1 ey_1 => ?_)
  have i_1 : y_1.toInt = p1.toInt - p0.toInt := ki_sub ey_1 rfl rfl (om_184 b1) (om_350 b3)
  refine lv_iconst (v := 2) hx hb dX5_deep_3 (by decide) ?_
  refine lv_icmp_ge (tgt := 11) hx hb dX5_deep_4 (by decide) (fun c_2 => ?_) (fun c_2 => ?_)
  · have i_2 : 2 ≤ y_1.toInt := kc_le c_2
    refine lv_iload_n hx hb dX5_deep_11 rfl (lv_at hl 1 rfl) ?_
    refine lv_iload_n hx hb dX5_deep_12 rfl (lv_at hl 2 rfl) ?_
    refine lv_iadd hx hb dX5_deep_13 ?_
    refine lv_topi (fun y_3 ey_3 => ?_)
    have i_3 : y_3.toInt = p0.toInt + p1.toInt := ki_add ey_3 rfl rfl (om_447 b0 b1) (om_448 b1 b2)
    refine lv_iconst (v := 2) hx hb dX5_deep_14 (by decide) ?_
    refine lv_idiv hx hb dX5_deep_15 (by decide) ?_
    refine lv_topi (fun y_4 ey_4 => ?_)
    have i_4 : y_4.toInt = y_3.toInt / 2 := ki_div2 ey_4 rfl (om_449 b0 b1 i_3)
    have d_5 := om_dv i_4
    refine lv_istore_n (lv' := [(3, .int y_4), (0, .ref h0), (1, .int p0), (2, .int p1)]) hx hb dX5_deep_16 rfl hl (by decide) rfl (fun ls hl => ?_)
    refine lv_aload_n hx hb dX5_deep_17 rfl (lv_at hl 1 rfl) ?_
    refine lv_iload_n hx hb dX5_deep_18 rfl (lv_at hl 2 rfl) ?_
    refine lv_iload_n hx hb dX5_deep_19 rfl (lv_at hl 0 rfl) ?_
    have hPc := hP
    have hKc := hK
    refine vp_callSi (W.runV (As := [.int p0, .int y_4]) (rest := []) ⟨hx, hb, hml, hown, hts⟩ (c_X5_deep_x2 l dC dI h0 g_row g_many g_loss g_less g_voteValue g_voteNumber g_allValue g_allNumber g_nodeL g_nodeR g_part g_wasMany g_wasLoss g_wasValue g_wasNumber g_path g_heavyValue g_heavyTimes g_fewest g_which g_met m_n m_slots m_thrown m_allMany m_nodes m_partMany m_pathMany m_heavyMany m_mostMet p0 y_4 b0 (om_450 b1 i_1 i_2 i_3 d_5.2) (om_451 b1 b2 i_3 d_5.1) (om_351 b3 i_3 d_5.1)) (cwV 2 hts gX5_deep_X5_deep rfl rfl rfl (by decide +kernel) ⟨Nat.le_of_ble_eq_true rfl, Nat.le_of_ble_eq_true rfl⟩) ⟨fun a U g mk q => by obtain ⟨q0, qP, qK⟩ := q; exact ⟨q0, qP, va_K.moved (u := U) (U := U.calling g mk a) (Vm.Alike.refl U.vm) qK⟩, kx_rc5 hKc hPc (q0 := 0) rfl, fun U hU hW => ⟨rfl, by rw [hU]; exact hPc, va_K.moved hW.alike hKc⟩⟩ rfl rfl hl.1 rfl (lv_room (Nat.le_of_ble_eq_true rfl)) dX5_deep_20 ⟨Nat.le_of_ble_eq_true rfl, Nat.le_of_ble_eq_true rfl⟩) (fun r_6 w_6 => ?_)
    have w_6 : r_6.toInt = (mj_dp 2 (y_4.toInt - p0.toInt).toNat : Int) ∧ 0 ≤ r_6.toInt ∧ r_6.toInt ≤ 3 := w_6
    refine lv_istore (lv' := [(4, .int r_6), (3, .int y_4), (0, .ref h0), (1, .int p0), (2, .int p1)]) hx hb dX5_deep_23 hl (by decide) rfl (fun ls hl => ?_)
    refine lv_aload_n hx hb dX5_deep_25 rfl (lv_at hl 2 rfl) ?_
    refine lv_iload_n hx hb dX5_deep_26 rfl (lv_at hl 1 rfl) ?_
    refine lv_iload_n hx hb dX5_deep_27 rfl (lv_at hl 4 rfl) ?_
    have hPc := hP
    have hKc := hK
    refine vp_callSi (W.runV (As := [.int y_4, .int p1]) (rest := []) ⟨hx, hb, hml, hown, hts⟩ (c_X5_deep_x2 l dC dI h0 g_row g_many g_loss g_less g_voteValue g_voteNumber g_allValue g_allNumber g_nodeL g_nodeR g_part g_wasMany g_wasLoss g_wasValue g_wasNumber g_path g_heavyValue g_heavyTimes g_fewest g_which g_met m_n m_slots m_thrown m_allMany m_nodes m_partMany m_pathMany m_heavyMany m_mostMet y_4 p1 (om_452 b0 b1 i_1 i_2 i_3 d_5.2) (om_453 b1 i_3 d_5.1) b2 (by omega)) (cwV 2 hts gX5_deep_X5_deep rfl rfl rfl (by decide +kernel) ⟨Nat.le_of_ble_eq_true rfl, Nat.le_of_ble_eq_true rfl⟩) ⟨fun a U g mk q => by obtain ⟨q0, qP, qK⟩ := q; exact ⟨q0, qP, va_K.moved (u := U) (U := U.calling g mk a) (Vm.Alike.refl U.vm) qK⟩, kx_rc5 hKc hPc (q0 := 0) rfl, fun U hU hW => ⟨rfl, by rw [hU]; exact hPc, va_K.moved hW.alike hKc⟩⟩ rfl rfl hl.1 rfl (lv_room (Nat.le_of_ble_eq_true rfl)) dX5_deep_28 ⟨Nat.le_of_ble_eq_true rfl, Nat.le_of_ble_eq_true rfl⟩) (fun r_7 w_7 => ?_)
    have w_7 : r_7.toInt = (mj_dp 2 (p1.toInt - y_4.toInt).toNat : Int) ∧ 0 ≤ r_7.toInt ∧ r_7.toInt ≤ 3 := w_7
    refine lv_istore (lv' := [(5, .int r_7), (4, .int r_6), (3, .int y_4), (0, .ref h0), (1, .int p0), (2, .int p1)]) hx hb dX5_deep_31 hl (by decide) rfl (fun ls hl => ?_)
    refine lv_iconst (v := 1) hx hb dX5_deep_33 (by decide) ?_
    refine lv_iload hx hb dX5_deep_34 (lv_at hl 1 rfl) ?_
    refine lv_iload hx hb dX5_deep_36 (lv_at hl 0 rfl) ?_
    refine lv_icmp_le (tgt := 46) hx hb dX5_deep_38 (by decide) (fun c_8 => ?_) (fun c_8 => ?_)
    · have i_8 : r_6.toInt ≤ r_7.toInt := kc_le c_8
      refine lv_iload hx hb dX5_deep_46 (lv_at hl 0 rfl) ?_
      refine lv_iadd hx hb dX5_deep_48 ?_
      refine lv_topi (fun y_9 ey_9 => ?_)
      have i_9 : y_9.toInt = 1 + r_7.toInt := ki_add ey_9 rfl rfl (om_454 w_7.2.1) (om_457 w_7.2.2)
      have d_1 : mj_dp 3 (p1.toInt - p0.toInt).toNat = 1 + mj_dp 2 (p1.toInt - y_4.toInt).toNat ∧ mj_dp 2 (y_4.toInt - p0.toInt).toNat ≤ mj_dp 2 (p1.toInt - y_4.toInt).toNat := mj_dp_node (by omega) (by omega) (by omega)
      exact W.iret (v := y_9) hx hb hr (hlocks := hlocks) (fun t ht hW => ⟨y_9, rfl, ⟨(by (try dsimp only); omega), (by (try dsimp only); omega), (by (try dsimp only); omega)⟩, ht⟩) (fun q hq => by cases hq) dX5_deep_49
    · have i_8 : r_7.toInt < r_6.toInt := kc_nle c_8
      refine lv_iload hx hb dX5_deep_41 (lv_at hl 1 rfl) ?_
      refine lv_goto (tgt := 48) hx hb dX5_deep_43 (by decide) ?_
      refine lv_iadd hx hb dX5_deep_48 ?_
      refine lv_topi (fun y_10 ey_10 => ?_)
      have i_10 : y_10.toInt = 1 + r_6.toInt := ki_add ey_10 rfl rfl (om_454 w_6.2.1) (om_457 w_6.2.2)
      have d_1 : mj_dp 3 (p1.toInt - p0.toInt).toNat = 1 + mj_dp 2 (p1.toInt - y_4.toInt).toNat ∧ mj_dp 2 (y_4.toInt - p0.toInt).toNat ≤ mj_dp 2 (p1.toInt - y_4.toInt).toNat := mj_dp_node (by omega) (by omega) (by omega)
      exact W.iret (v := y_10) hx hb hr (hlocks := hlocks) (fun t ht hW => ⟨y_10, rfl, ⟨(by (try dsimp only); omega), (by (try dsimp only); omega), (by (try dsimp only); omega)⟩, ht⟩) (fun q hq => by cases hq) dX5_deep_49
  · have i_2 : y_1.toInt < 2 := kc_nle c_2
    refine lv_iload_n hx hb dX5_deep_7 rfl (lv_at hl 2 rfl) ?_
    refine lv_iload_n hx hb dX5_deep_8 rfl (lv_at hl 1 rfl) ?_
    refine lv_isub hx hb dX5_deep_9 ?_
    refine lv_topi (fun y_11 ey_11 => ?_)
    have i_11 : y_11.toInt = p1.toInt - p0.toInt := ki_sub ey_11 rfl rfl (om_184 b1) (om_350 b3)
    exact W.iret (v := y_11) hx hb hr (hlocks := hlocks) (fun t ht hW => ⟨y_11, rfl, ⟨(by (try dsimp only); rw [mj_dp_small (by omega)]; omega), (by (try dsimp only); omega), (by (try dsimp only); omega)⟩, ht⟩) (fun q hq => by cases hq) dX5_deep_10

set_option maxHeartbeats 4000000 in
set_option maxRecDepth 100000 in
theorem c_X5_deep_x4 (l : Launch) (dC : Nat → ClassId) (dI : Nat → Nat → Nat) (h0 : Nat) (g_row : Nat) (g_many : Nat) (g_loss : Nat) (g_less : Nat) (g_voteValue : Nat) (g_voteNumber : Nat) (g_allValue : Nat) (g_allNumber : Nat) (g_nodeL : Nat) (g_nodeR : Nat) (g_part : Nat) (g_wasMany : Nat) (g_wasLoss : Nat) (g_wasValue : Nat) (g_wasNumber : Nat) (g_path : Nat) (g_heavyValue : Nat) (g_heavyTimes : Nat) (g_fewest : Nat) (g_which : Nat) (g_met : Nat) (m_n : Int32) (m_slots : Int32) (m_thrown : Int32) (m_allMany : Int32) (m_nodes : Int32) (m_partMany : Int32) (m_pathMany : Int32) (m_heavyMany : Int32) (m_mostMet : Int32) (p0 : Int32) (p1 : Int32) (b0 : 0 ≤ p0.toInt) (b1 : p0.toInt ≤ p1.toInt) (b2 : p1.toInt ≤ 160) (b3 : p1.toInt - p0.toInt ≤ 16) : Met l yX5_deep wsX5_deep ({ frames := 4, cells := 0, slots := 0, locals := 180 }) (va_Pc [.ref h0, .int p0, .int p1] (fun U => va_P (dC, dI) vwCl [kx_5 h0 g_row m_n m_slots m_thrown g_many g_loss g_less g_voteValue g_voteNumber g_allValue g_allNumber m_allMany g_nodeL g_nodeR m_nodes g_part m_partMany g_wasMany g_wasLoss g_wasValue g_wasNumber g_path m_pathMany g_heavyValue g_heavyTimes m_heavyMany g_fewest g_which g_met m_mostMet] U.heap ∧ va_K (dC, dI) vwCl [] U)) (vp_Si (fun r : Int32 => r.toInt = (mj_dp 4 (p1.toInt - p0.toInt).toNat : Int) ∧ 0 ≤ r.toInt ∧ r.toInt ≤ 5)) 0 0 (fun _ => False) := by
  refine kx_stS (ws := wsX5_deep) (cc := cX5_deep) (maxL := 6) (ret := (some .int)) (by decide) rfl (Nat.le_of_ble_eq_true rfl) ?_
  intro p e s m below meth c ls hx hb hr hlocks hts hown hml hP hK hl
  have hown : s.vm.findClass RX5 = some m.cls := hown
  have hl : lv_has ls 6 [(0, .ref h0), (1, .int p0), (2, .int p1)] := hl
  refine lv_iload_n hx hb dX5_deep_0 rfl (lv_at hl 2 rfl) ?_
  refine lv_iload_n hx hb dX5_deep_1 rfl (lv_at hl 1 rfl) ?_
  refine lv_isub hx hb dX5_deep_2 ?_
  refine lv_topi (fun y_1 ey_1 => ?_)
  have i_1 : y_1.toInt = p1.toInt - p0.toInt := ki_sub ey_1 rfl rfl (om_184 b1) (om_352 b3)
  refine lv_iconst (v := 2) hx hb dX5_deep_3 (by decide) ?_
  refine lv_icmp_ge (tgt := 11) hx hb dX5_deep_4 (by decide) (fun c_2 => ?_) (fun c_2 => ?_)
  · have i_2 : 2 ≤ y_1.toInt := kc_le c_2
    refine lv_iload_n hx hb dX5_deep_11 rfl (lv_at hl 1 rfl) ?_
    refine lv_iload_n hx hb dX5_deep_12 rfl (lv_at hl 2 rfl) ?_
    refine lv_iadd hx hb dX5_deep_13 ?_
    refine lv_topi (fun y_3 ey_3 => ?_)
    have i_3 : y_3.toInt = p0.toInt + p1.toInt := ki_add ey_3 rfl rfl (om_447 b0 b1) (om_448 b1 b2)
    refine lv_iconst (v := 2) hx hb dX5_deep_14 (by decide) ?_
    refine lv_idiv hx hb dX5_deep_15 (by decide) ?_
    refine lv_topi (fun y_4 ey_4 => ?_)
    have i_4 : y_4.toInt = y_3.toInt / 2 := ki_div2 ey_4 rfl (om_449 b0 b1 i_3)
    have d_5 := om_dv i_4
    refine lv_istore_n (lv' := [(3, .int y_4), (0, .ref h0), (1, .int p0), (2, .int p1)]) hx hb dX5_deep_16 rfl hl (by decide) rfl (fun ls hl => ?_)
    refine lv_aload_n hx hb dX5_deep_17 rfl (lv_at hl 1 rfl) ?_
    refine lv_iload_n hx hb dX5_deep_18 rfl (lv_at hl 2 rfl) ?_
    refine lv_iload_n hx hb dX5_deep_19 rfl (lv_at hl 0 rfl) ?_
    have hPc := hP
    have hKc := hK
    refine vp_callSi (W.runV (As := [.int p0, .int y_4]) (rest := []) ⟨hx, hb, hml, hown, hts⟩ (c_X5_deep_x3 l dC dI h0 g_row g_many g_loss g_less g_voteValue g_voteNumber g_allValue g_allNumber g_nodeL g_nodeR g_part g_wasMany g_wasLoss g_wasValue g_wasNumber g_path g_heavyValue g_heavyTimes g_fewest g_which g_met m_n m_slots m_thrown m_allMany m_nodes m_partMany m_pathMany m_heavyMany m_mostMet p0 y_4 b0 (om_450 b1 i_1 i_2 i_3 d_5.2) (om_451 b1 b2 i_3 d_5.1) (om_353 b3 i_3 d_5.1)) (cwV 2 hts gX5_deep_X5_deep rfl rfl rfl (by decide +kernel) ⟨Nat.le_of_ble_eq_true rfl, Nat.le_of_ble_eq_true rfl⟩) ⟨fun a U g mk q => by obtain ⟨q0, qP, qK⟩ := q; exact ⟨q0, qP, va_K.moved (u := U) (U := U.calling g mk a) (Vm.Alike.refl U.vm) qK⟩, kx_rc5 hKc hPc (q0 := 0) rfl, fun U hU hW => ⟨rfl, by rw [hU]; exact hPc, va_K.moved hW.alike hKc⟩⟩ rfl rfl hl.1 rfl (lv_room (Nat.le_of_ble_eq_true rfl)) dX5_deep_20 ⟨Nat.le_of_ble_eq_true rfl, Nat.le_of_ble_eq_true rfl⟩) (fun r_6 w_6 => ?_)
    have w_6 : r_6.toInt = (mj_dp 3 (y_4.toInt - p0.toInt).toNat : Int) ∧ 0 ≤ r_6.toInt ∧ r_6.toInt ≤ 4 := w_6
    refine lv_istore (lv' := [(4, .int r_6), (3, .int y_4), (0, .ref h0), (1, .int p0), (2, .int p1)]) hx hb dX5_deep_23 hl (by decide) rfl (fun ls hl => ?_)
    refine lv_aload_n hx hb dX5_deep_25 rfl (lv_at hl 2 rfl) ?_
    refine lv_iload_n hx hb dX5_deep_26 rfl (lv_at hl 1 rfl) ?_
    refine lv_iload_n hx hb dX5_deep_27 rfl (lv_at hl 4 rfl) ?_
    have hPc := hP
    have hKc := hK
    refine vp_callSi (W.runV (As := [.int y_4, .int p1]) (rest := []) ⟨hx, hb, hml, hown, hts⟩ (c_X5_deep_x3 l dC dI h0 g_row g_many g_loss g_less g_voteValue g_voteNumber g_allValue g_allNumber g_nodeL g_nodeR g_part g_wasMany g_wasLoss g_wasValue g_wasNumber g_path g_heavyValue g_heavyTimes g_fewest g_which g_met m_n m_slots m_thrown m_allMany m_nodes m_partMany m_pathMany m_heavyMany m_mostMet y_4 p1 (om_452 b0 b1 i_1 i_2 i_3 d_5.2) (om_453 b1 i_3 d_5.1) b2 (by omega)) (cwV 2 hts gX5_deep_X5_deep rfl rfl rfl (by decide +kernel) ⟨Nat.le_of_ble_eq_true rfl, Nat.le_of_ble_eq_true rfl⟩) ⟨fun a U g mk q => by obtain ⟨q0, qP, qK⟩ := q; exact ⟨q0, qP, va_K.moved (u := U) (U := U.calling g mk a) (Vm.Alike.refl U.vm) qK⟩, kx_rc5 hKc hPc (q0 := 0) rfl, fun U hU hW => ⟨rfl, by rw [hU]; exact hPc, va_K.moved hW.alike hKc⟩⟩ rfl rfl hl.1 rfl (lv_room (Nat.le_of_ble_eq_true rfl)) dX5_deep_28 ⟨Nat.le_of_ble_eq_true rfl, Nat.le_of_ble_eq_true rfl⟩) (fun r_7 w_7 => ?_)
    have w_7 : r_7.toInt = (mj_dp 3 (p1.toInt - y_4.toInt).toNat : Int) ∧ 0 ≤ r_7.toInt ∧ r_7.toInt ≤ 4 := w_7
    refine lv_istore (lv' := [(5, .int r_7), (4, .int r_6), (3, .int y_4), (0, .ref h0), (1, .int p0), (2, .int p1)]) hx hb dX5_deep_31 hl (by decide) rfl (fun ls hl => ?_)
    refine lv_iconst (v := 1) hx hb dX5_deep_33 (by decide) ?_
    refine lv_iload hx hb dX5_deep_34 (lv_at hl 1 rfl) ?_
    refine lv_iload hx hb dX5_deep_36 (lv_at hl 0 rfl) ?_
    refine lv_icmp_le (tgt := 46) hx hb dX5_deep_38 (by decide) (fun c_8 => ?_) (fun c_8 => ?_)
    · have i_8 : r_6.toInt ≤ r_7.toInt := kc_le c_8
      refine lv_iload hx hb dX5_deep_46 (lv_at hl 0 rfl) ?_
      refine lv_iadd hx hb dX5_deep_48 ?_
      refine lv_topi (fun y_9 ey_9 => ?_)
      have i_9 : y_9.toInt = 1 + r_7.toInt := ki_add ey_9 rfl rfl (om_454 w_7.2.1) (om_458 w_7.2.2)
      have d_1 : mj_dp 4 (p1.toInt - p0.toInt).toNat = 1 + mj_dp 3 (p1.toInt - y_4.toInt).toNat ∧ mj_dp 3 (y_4.toInt - p0.toInt).toNat ≤ mj_dp 3 (p1.toInt - y_4.toInt).toNat := mj_dp_node (by omega) (by omega) (by omega)
      exact W.iret (v := y_9) hx hb hr (hlocks := hlocks) (fun t ht hW => ⟨y_9, rfl, ⟨(by (try dsimp only); omega), (by (try dsimp only); omega), (by (try dsimp only); omega)⟩, ht⟩) (fun q hq => by cases hq) dX5_deep_49
    · have i_8 : r_7.toInt < r_6.toInt := kc_nle c_8
      refine lv_iload hx hb dX5_deep_41 (lv_at hl 1 rfl) ?_
      refine lv_goto (tgt := 48) hx hb dX5_deep_43 (by decide) ?_
      refine lv_iadd hx hb dX5_deep_48 ?_
      refine lv_topi (fun y_10 ey_10 => ?_)
      have i_10 : y_10.toInt = 1 + r_6.toInt := ki_add ey_10 rfl rfl (om_454 w_6.2.1) (om_458 w_6.2.2)
      have d_1 : mj_dp 4 (p1.toInt - p0.toInt).toNat = 1 + mj_dp 3 (p1.toInt - y_4.toInt).toNat ∧ mj_dp 3 (y_4.toInt - p0.toInt).toNat ≤ mj_dp 3 (p1.toInt - y_4.toInt).toNat := mj_dp_node (by omega) (by omega) (by omega)
      exact W.iret (v := y_10) hx hb hr (hlocks := hlocks) (fun t ht hW => ⟨y_10, rfl, ⟨(by (try dsimp only); omega), (by (try dsimp only); omega), (by (try dsimp only); omega)⟩, ht⟩) (fun q hq => by cases hq) dX5_deep_49
  · have i_2 : y_1.toInt < 2 := kc_nle c_2
    refine lv_iload_n hx hb dX5_deep_7 rfl (lv_at hl 2 rfl) ?_
    refine lv_iload_n hx hb dX5_deep_8 rfl (lv_at hl 1 rfl) ?_
    refine lv_isub hx hb dX5_deep_9 ?_
    refine lv_topi (fun y_11 ey_11 => ?_)
    have i_11 : y_11.toInt = p1.toInt - p0.toInt := ki_sub ey_11 rfl rfl (om_184 b1) (om_352 b3)
    exact W.iret (v := y_11) hx hb hr (hlocks := hlocks) (fun t ht hW => ⟨y_11, rfl, ⟨(by (try dsimp only); rw [mj_dp_small (by omega)]; omega), (by (try dsimp only); omega), (by (try dsimp only); omega)⟩, ht⟩) (fun q hq => by cases hq) dX5_deep_10

set_option maxHeartbeats 4000000 in
set_option maxRecDepth 100000 in
theorem c_X5_deep_x5 (l : Launch) (dC : Nat → ClassId) (dI : Nat → Nat → Nat) (h0 : Nat) (g_row : Nat) (g_many : Nat) (g_loss : Nat) (g_less : Nat) (g_voteValue : Nat) (g_voteNumber : Nat) (g_allValue : Nat) (g_allNumber : Nat) (g_nodeL : Nat) (g_nodeR : Nat) (g_part : Nat) (g_wasMany : Nat) (g_wasLoss : Nat) (g_wasValue : Nat) (g_wasNumber : Nat) (g_path : Nat) (g_heavyValue : Nat) (g_heavyTimes : Nat) (g_fewest : Nat) (g_which : Nat) (g_met : Nat) (m_n : Int32) (m_slots : Int32) (m_thrown : Int32) (m_allMany : Int32) (m_nodes : Int32) (m_partMany : Int32) (m_pathMany : Int32) (m_heavyMany : Int32) (m_mostMet : Int32) (p0 : Int32) (p1 : Int32) (b0 : 0 ≤ p0.toInt) (b1 : p0.toInt ≤ p1.toInt) (b2 : p1.toInt ≤ 160) (b3 : p1.toInt - p0.toInt ≤ 32) : Met l yX5_deep wsX5_deep ({ frames := 5, cells := 0, slots := 0, locals := 225 }) (va_Pc [.ref h0, .int p0, .int p1] (fun U => va_P (dC, dI) vwCl [kx_5 h0 g_row m_n m_slots m_thrown g_many g_loss g_less g_voteValue g_voteNumber g_allValue g_allNumber m_allMany g_nodeL g_nodeR m_nodes g_part m_partMany g_wasMany g_wasLoss g_wasValue g_wasNumber g_path m_pathMany g_heavyValue g_heavyTimes m_heavyMany g_fewest g_which g_met m_mostMet] U.heap ∧ va_K (dC, dI) vwCl [] U)) (vp_Si (fun r : Int32 => r.toInt = (mj_dp 5 (p1.toInt - p0.toInt).toNat : Int) ∧ 0 ≤ r.toInt ∧ r.toInt ≤ 6)) 0 0 (fun _ => False) := by
  refine kx_stS (ws := wsX5_deep) (cc := cX5_deep) (maxL := 6) (ret := (some .int)) (by decide) rfl (Nat.le_of_ble_eq_true rfl) ?_
  intro p e s m below meth c ls hx hb hr hlocks hts hown hml hP hK hl
  have hown : s.vm.findClass RX5 = some m.cls := hown
  have hl : lv_has ls 6 [(0, .ref h0), (1, .int p0), (2, .int p1)] := hl
  refine lv_iload_n hx hb dX5_deep_0 rfl (lv_at hl 2 rfl) ?_
  refine lv_iload_n hx hb dX5_deep_1 rfl (lv_at hl 1 rfl) ?_
  refine lv_isub hx hb dX5_deep_2 ?_
  refine lv_topi (fun y_1 ey_1 => ?_)
  have i_1 : y_1.toInt = p1.toInt - p0.toInt := ki_sub ey_1 rfl rfl (om_184 b1) (om_354 b3)
  refine lv_iconst (v := 2) hx hb dX5_deep_3 (by decide) ?_
  refine lv_icmp_ge (tgt := 11) hx hb dX5_deep_4 (by decide) (fun c_2 => ?_) (fun c_2 => ?_)
  · have i_2 : 2 ≤ y_1.toInt := kc_le c_2
    refine lv_iload_n hx hb dX5_deep_11 rfl (lv_at hl 1 rfl) ?_
    refine lv_iload_n hx hb dX5_deep_12 rfl (lv_at hl 2 rfl) ?_
    refine lv_iadd hx hb dX5_deep_13 ?_
    refine lv_topi (fun y_3 ey_3 => ?_)
    have i_3 : y_3.toInt = p0.toInt + p1.toInt := ki_add ey_3 rfl rfl (om_447 b0 b1) (om_448 b1 b2)
    refine lv_iconst (v := 2) hx hb dX5_deep_14 (by decide) ?_
    refine lv_idiv hx hb dX5_deep_15 (by decide) ?_
    refine lv_topi (fun y_4 ey_4 => ?_)
    have i_4 : y_4.toInt = y_3.toInt / 2 := ki_div2 ey_4 rfl (om_449 b0 b1 i_3)
    have d_5 := om_dv i_4
    refine lv_istore_n (lv' := [(3, .int y_4), (0, .ref h0), (1, .int p0), (2, .int p1)]) hx hb dX5_deep_16 rfl hl (by decide) rfl (fun ls hl => ?_)
    refine lv_aload_n hx hb dX5_deep_17 rfl (lv_at hl 1 rfl) ?_
    refine lv_iload_n hx hb dX5_deep_18 rfl (lv_at hl 2 rfl) ?_
    refine lv_iload_n hx hb dX5_deep_19 rfl (lv_at hl 0 rfl) ?_
    have hPc := hP
    have hKc := hK
    refine vp_callSi (W.runV (As := [.int p0, .int y_4]) (rest := []) ⟨hx, hb, hml, hown, hts⟩ (c_X5_deep_x4 l dC dI h0 g_row g_many g_loss g_less g_voteValue g_voteNumber g_allValue g_allNumber g_nodeL g_nodeR g_part g_wasMany g_wasLoss g_wasValue g_wasNumber g_path g_heavyValue g_heavyTimes g_fewest g_which g_met m_n m_slots m_thrown m_allMany m_nodes m_partMany m_pathMany m_heavyMany m_mostMet p0 y_4 b0 (om_450 b1 i_1 i_2 i_3 d_5.2) (om_451 b1 b2 i_3 d_5.1) (om_355 b3 i_3 d_5.1)) (cwV 2 hts gX5_deep_X5_deep rfl rfl rfl (by decide +kernel) ⟨Nat.le_of_ble_eq_true rfl, Nat.le_of_ble_eq_true rfl⟩) ⟨fun a U g mk q => by obtain ⟨q0, qP, qK⟩ := q; exact ⟨q0, qP, va_K.moved (u := U) (U := U.calling g mk a) (Vm.Alike.refl U.vm) qK⟩, kx_rc5 hKc hPc (q0 := 0) rfl, fun U hU hW => ⟨rfl, by rw [hU]; exact hPc, va_K.moved hW.alike hKc⟩⟩ rfl rfl hl.1 rfl (lv_room (Nat.le_of_ble_eq_true rfl)) dX5_deep_20 ⟨Nat.le_of_ble_eq_true rfl, Nat.le_of_ble_eq_true rfl⟩) (fun r_6 w_6 => ?_)
    have w_6 : r_6.toInt = (mj_dp 4 (y_4.toInt - p0.toInt).toNat : Int) ∧ 0 ≤ r_6.toInt ∧ r_6.toInt ≤ 5 := w_6
    refine lv_istore (lv' := [(4, .int r_6), (3, .int y_4), (0, .ref h0), (1, .int p0), (2, .int p1)]) hx hb dX5_deep_23 hl (by decide) rfl (fun ls hl => ?_)
    refine lv_aload_n hx hb dX5_deep_25 rfl (lv_at hl 2 rfl) ?_
    refine lv_iload_n hx hb dX5_deep_26 rfl (lv_at hl 1 rfl) ?_
    refine lv_iload_n hx hb dX5_deep_27 rfl (lv_at hl 4 rfl) ?_
    have hPc := hP
    have hKc := hK
    refine vp_callSi (W.runV (As := [.int y_4, .int p1]) (rest := []) ⟨hx, hb, hml, hown, hts⟩ (c_X5_deep_x4 l dC dI h0 g_row g_many g_loss g_less g_voteValue g_voteNumber g_allValue g_allNumber g_nodeL g_nodeR g_part g_wasMany g_wasLoss g_wasValue g_wasNumber g_path g_heavyValue g_heavyTimes g_fewest g_which g_met m_n m_slots m_thrown m_allMany m_nodes m_partMany m_pathMany m_heavyMany m_mostMet y_4 p1 (om_452 b0 b1 i_1 i_2 i_3 d_5.2) (om_453 b1 i_3 d_5.1) b2 (by omega)) (cwV 2 hts gX5_deep_X5_deep rfl rfl rfl (by decide +kernel) ⟨Nat.le_of_ble_eq_true rfl, Nat.le_of_ble_eq_true rfl⟩) ⟨fun a U g mk q => by obtain ⟨q0, qP, qK⟩ := q; exact ⟨q0, qP, va_K.moved (u := U) (U := U.calling g mk a) (Vm.Alike.refl U.vm) qK⟩, kx_rc5 hKc hPc (q0 := 0) rfl, fun U hU hW => ⟨rfl, by rw [hU]; exact hPc, va_K.moved hW.alike hKc⟩⟩ rfl rfl hl.1 rfl (lv_room (Nat.le_of_ble_eq_true rfl)) dX5_deep_28 ⟨Nat.le_of_ble_eq_true rfl, Nat.le_of_ble_eq_true rfl⟩) (fun r_7 w_7 => ?_)
    have w_7 : r_7.toInt = (mj_dp 4 (p1.toInt - y_4.toInt).toNat : Int) ∧ 0 ≤ r_7.toInt ∧ r_7.toInt ≤ 5 := w_7
    refine lv_istore (lv' := [(5, .int r_7), (4, .int r_6), (3, .int y_4), (0, .ref h0), (1, .int p0), (2, .int p1)]) hx hb dX5_deep_31 hl (by decide) rfl (fun ls hl => ?_)
    refine lv_iconst (v := 1) hx hb dX5_deep_33 (by decide) ?_
    refine lv_iload hx hb dX5_deep_34 (lv_at hl 1 rfl) ?_
    refine lv_iload hx hb dX5_deep_36 (lv_at hl 0 rfl) ?_
    refine lv_icmp_le (tgt := 46) hx hb dX5_deep_38 (by decide) (fun c_8 => ?_) (fun c_8 => ?_)
    · have i_8 : r_6.toInt ≤ r_7.toInt := kc_le c_8
      refine lv_iload hx hb dX5_deep_46 (lv_at hl 0 rfl) ?_
      refine lv_iadd hx hb dX5_deep_48 ?_
      refine lv_topi (fun y_9 ey_9 => ?_)
      have i_9 : y_9.toInt = 1 + r_7.toInt := ki_add ey_9 rfl rfl (om_454 w_7.2.1) (om_459 w_7.2.2)
      have d_1 : mj_dp 5 (p1.toInt - p0.toInt).toNat = 1 + mj_dp 4 (p1.toInt - y_4.toInt).toNat ∧ mj_dp 4 (y_4.toInt - p0.toInt).toNat ≤ mj_dp 4 (p1.toInt - y_4.toInt).toNat := mj_dp_node (by omega) (by omega) (by omega)
      exact W.iret (v := y_9) hx hb hr (hlocks := hlocks) (fun t ht hW => ⟨y_9, rfl, ⟨(by (try dsimp only); omega), (by (try dsimp only); omega), (by (try dsimp only); omega)⟩, ht⟩) (fun q hq => by cases hq) dX5_deep_49
    · have i_8 : r_7.toInt < r_6.toInt := kc_nle c_8
      refine lv_iload hx hb dX5_deep_41 (lv_at hl 1 rfl) ?_
      refine lv_goto (tgt := 48) hx hb dX5_deep_43 (by decide) ?_
      refine lv_iadd hx hb dX5_deep_48 ?_
      refine lv_topi (fun y_10 ey_10 => ?_)
      have i_10 : y_10.toInt = 1 + r_6.toInt := ki_add ey_10 rfl rfl (om_454 w_6.2.1) (om_459 w_6.2.2)
      have d_1 : mj_dp 5 (p1.toInt - p0.toInt).toNat = 1 + mj_dp 4 (p1.toInt - y_4.toInt).toNat ∧ mj_dp 4 (y_4.toInt - p0.toInt).toNat ≤ mj_dp 4 (p1.toInt - y_4.toInt).toNat := mj_dp_node (by omega) (by omega) (by omega)
      exact W.iret (v := y_10) hx hb hr (hlocks := hlocks) (fun t ht hW => ⟨y_10, rfl, ⟨(by (try dsimp only); omega), (by (try dsimp only); omega), (by (try dsimp only); omega)⟩, ht⟩) (fun q hq => by cases hq) dX5_deep_49
  · have i_2 : y_1.toInt < 2 := kc_nle c_2
    refine lv_iload_n hx hb dX5_deep_7 rfl (lv_at hl 2 rfl) ?_
    refine lv_iload_n hx hb dX5_deep_8 rfl (lv_at hl 1 rfl) ?_
    refine lv_isub hx hb dX5_deep_9 ?_
    refine lv_topi (fun y_11 ey_11 => ?_)
    have i_11 : y_11.toInt = p1.toInt - p0.toInt := ki_sub ey_11 rfl rfl (om_184 b1) (om_354 b3)
    exact W.iret (v := y_11) hx hb hr (hlocks := hlocks) (fun t ht hW => ⟨y_11, rfl, ⟨(by (try dsimp only); rw [mj_dp_small (by omega)]; omega), (by (try dsimp only); omega), (by (try dsimp only); omega)⟩, ht⟩) (fun q hq => by cases hq) dX5_deep_10

set_option maxHeartbeats 4000000 in
set_option maxRecDepth 100000 in
theorem c_X5_deep_x6 (l : Launch) (dC : Nat → ClassId) (dI : Nat → Nat → Nat) (h0 : Nat) (g_row : Nat) (g_many : Nat) (g_loss : Nat) (g_less : Nat) (g_voteValue : Nat) (g_voteNumber : Nat) (g_allValue : Nat) (g_allNumber : Nat) (g_nodeL : Nat) (g_nodeR : Nat) (g_part : Nat) (g_wasMany : Nat) (g_wasLoss : Nat) (g_wasValue : Nat) (g_wasNumber : Nat) (g_path : Nat) (g_heavyValue : Nat) (g_heavyTimes : Nat) (g_fewest : Nat) (g_which : Nat) (g_met : Nat) (m_n : Int32) (m_slots : Int32) (m_thrown : Int32) (m_allMany : Int32) (m_nodes : Int32) (m_partMany : Int32) (m_pathMany : Int32) (m_heavyMany : Int32) (m_mostMet : Int32) (p0 : Int32) (p1 : Int32) (b0 : 0 ≤ p0.toInt) (b1 : p0.toInt ≤ p1.toInt) (b2 : p1.toInt ≤ 160) (b3 : p1.toInt - p0.toInt ≤ 64) : Met l yX5_deep wsX5_deep ({ frames := 6, cells := 0, slots := 0, locals := 270 }) (va_Pc [.ref h0, .int p0, .int p1] (fun U => va_P (dC, dI) vwCl [kx_5 h0 g_row m_n m_slots m_thrown g_many g_loss g_less g_voteValue g_voteNumber g_allValue g_allNumber m_allMany g_nodeL g_nodeR m_nodes g_part m_partMany g_wasMany g_wasLoss g_wasValue g_wasNumber g_path m_pathMany g_heavyValue g_heavyTimes m_heavyMany g_fewest g_which g_met m_mostMet] U.heap ∧ va_K (dC, dI) vwCl [] U)) (vp_Si (fun r : Int32 => r.toInt = (mj_dp 6 (p1.toInt - p0.toInt).toNat : Int) ∧ 0 ≤ r.toInt ∧ r.toInt ≤ 7)) 0 0 (fun _ => False) := by
  refine kx_stS (ws := wsX5_deep) (cc := cX5_deep) (maxL := 6) (ret := (some .int)) (by decide) rfl (Nat.le_of_ble_eq_true rfl) ?_
  intro p e s m below meth c ls hx hb hr hlocks hts hown hml hP hK hl
  have hown : s.vm.findClass RX5 = some m.cls := hown
  have hl : lv_has ls 6 [(0, .ref h0), (1, .int p0), (2, .int p1)] := hl
  refine lv_iload_n hx hb dX5_deep_0 rfl (lv_at hl 2 rfl) ?_
  refine lv_iload_n hx hb dX5_deep_1 rfl (lv_at hl 1 rfl) ?_
  refine lv_isub hx hb dX5_deep_2 ?_
  refine lv_topi (fun y_1 ey_1 => ?_)
  have i_1 : y_1.toInt = p1.toInt - p0.toInt := ki_sub ey_1 rfl rfl (om_184 b1) (om_356 b3)
  refine lv_iconst (v := 2) hx hb dX5_deep_3 (by decide) ?_
  refine lv_icmp_ge (tgt := 11) hx hb dX5_deep_4 (by decide) (fun c_2 => ?_) (fun c_2 => ?_)
  · have i_2 : 2 ≤ y_1.toInt := kc_le c_2
    refine lv_iload_n hx hb dX5_deep_11 rfl (lv_at hl 1 rfl) ?_
    refine lv_iload_n hx hb dX5_deep_12 rfl (lv_at hl 2 rfl) ?_
    refine lv_iadd hx hb dX5_deep_13 ?_
    refine lv_topi (fun y_3 ey_3 => ?_)
    have i_3 : y_3.toInt = p0.toInt + p1.toInt := ki_add ey_3 rfl rfl (om_447 b0 b1) (om_448 b1 b2)
    refine lv_iconst (v := 2) hx hb dX5_deep_14 (by decide) ?_
    refine lv_idiv hx hb dX5_deep_15 (by decide) ?_
    refine lv_topi (fun y_4 ey_4 => ?_)
    have i_4 : y_4.toInt = y_3.toInt / 2 := ki_div2 ey_4 rfl (om_449 b0 b1 i_3)
    have d_5 := om_dv i_4
    refine lv_istore_n (lv' := [(3, .int y_4), (0, .ref h0), (1, .int p0), (2, .int p1)]) hx hb dX5_deep_16 rfl hl (by decide) rfl (fun ls hl => ?_)
    refine lv_aload_n hx hb dX5_deep_17 rfl (lv_at hl 1 rfl) ?_
    refine lv_iload_n hx hb dX5_deep_18 rfl (lv_at hl 2 rfl) ?_
    refine lv_iload_n hx hb dX5_deep_19 rfl (lv_at hl 0 rfl) ?_
    have hPc := hP
    have hKc := hK
    refine vp_callSi (W.runV (As := [.int p0, .int y_4]) (rest := []) ⟨hx, hb, hml, hown, hts⟩ (c_X5_deep_x5 l dC dI h0 g_row g_many g_loss g_less g_voteValue g_voteNumber g_allValue g_allNumber g_nodeL g_nodeR g_part g_wasMany g_wasLoss g_wasValue g_wasNumber g_path g_heavyValue g_heavyTimes g_fewest g_which g_met m_n m_slots m_thrown m_allMany m_nodes m_partMany m_pathMany m_heavyMany m_mostMet p0 y_4 b0 (om_450 b1 i_1 i_2 i_3 d_5.2) (om_451 b1 b2 i_3 d_5.1) (om_357 b3 i_3 d_5.1)) (cwV 2 hts gX5_deep_X5_deep rfl rfl rfl (by decide +kernel) ⟨Nat.le_of_ble_eq_true rfl, Nat.le_of_ble_eq_true rfl⟩) ⟨fun a U g mk q => by obtain ⟨q0, qP, qK⟩ := q; exact ⟨q0, qP, va_K.moved (u := U) (U := U.calling g mk a) (Vm.Alike.refl U.vm) qK⟩, kx_rc5 hKc hPc (q0 := 0) rfl, fun U hU hW => ⟨rfl, by rw [hU]; exact hPc, va_K.moved hW.alike hKc⟩⟩ rfl rfl hl.1 rfl (lv_room (Nat.le_of_ble_eq_true rfl)) dX5_deep_20 ⟨Nat.le_of_ble_eq_true rfl, Nat.le_of_ble_eq_true rfl⟩) (fun r_6 w_6 => ?_)
    have w_6 : r_6.toInt = (mj_dp 5 (y_4.toInt - p0.toInt).toNat : Int) ∧ 0 ≤ r_6.toInt ∧ r_6.toInt ≤ 6 := w_6
    refine lv_istore (lv' := [(4, .int r_6), (3, .int y_4), (0, .ref h0), (1, .int p0), (2, .int p1)]) hx hb dX5_deep_23 hl (by decide) rfl (fun ls hl => ?_)
    refine lv_aload_n hx hb dX5_deep_25 rfl (lv_at hl 2 rfl) ?_
    refine lv_iload_n hx hb dX5_deep_26 rfl (lv_at hl 1 rfl) ?_
    refine lv_iload_n hx hb dX5_deep_27 rfl (lv_at hl 4 rfl) ?_
    have hPc := hP
    have hKc := hK
    refine vp_callSi (W.runV (As := [.int y_4, .int p1]) (rest := []) ⟨hx, hb, hml, hown, hts⟩ (c_X5_deep_x5 l dC dI h0 g_row g_many g_loss g_less g_voteValue g_voteNumber g_allValue g_allNumber g_nodeL g_nodeR g_part g_wasMany g_wasLoss g_wasValue g_wasNumber g_path g_heavyValue g_heavyTimes g_fewest g_which g_met m_n m_slots m_thrown m_allMany m_nodes m_partMany m_pathMany m_heavyMany m_mostMet y_4 p1 (om_452 b0 b1 i_1 i_2 i_3 d_5.2) (om_453 b1 i_3 d_5.1) b2 (by omega)) (cwV 2 hts gX5_deep_X5_deep rfl rfl rfl (by decide +kernel) ⟨Nat.le_of_ble_eq_true rfl, Nat.le_of_ble_eq_true rfl⟩) ⟨fun a U g mk q => by obtain ⟨q0, qP, qK⟩ := q; exact ⟨q0, qP, va_K.moved (u := U) (U := U.calling g mk a) (Vm.Alike.refl U.vm) qK⟩, kx_rc5 hKc hPc (q0 := 0) rfl, fun U hU hW => ⟨rfl, by rw [hU]; exact hPc, va_K.moved hW.alike hKc⟩⟩ rfl rfl hl.1 rfl (lv_room (Nat.le_of_ble_eq_true rfl)) dX5_deep_28 ⟨Nat.le_of_ble_eq_true rfl, Nat.le_of_ble_eq_true rfl⟩) (fun r_7 w_7 => ?_)
    have w_7 : r_7.toInt = (mj_dp 5 (p1.toInt - y_4.toInt).toNat : Int) ∧ 0 ≤ r_7.toInt ∧ r_7.toInt ≤ 6 := w_7
    refine lv_istore (lv' := [(5, .int r_7), (4, .int r_6), (3, .int y_4), (0, .ref h0), (1, .int p0), (2, .int p1)]) hx hb dX5_deep_31 hl (by decide) rfl (fun ls hl => ?_)
    refine lv_iconst (v := 1) hx hb dX5_deep_33 (by decide) ?_
    refine lv_iload hx hb dX5_deep_34 (lv_at hl 1 rfl) ?_
    refine lv_iload hx hb dX5_deep_36 (lv_at hl 0 rfl) ?_
    refine lv_icmp_le (tgt := 46) hx hb dX5_deep_38 (by decide) (fun c_8 => ?_) (fun c_8 => ?_)
    · have i_8 : r_6.toInt ≤ r_7.toInt := kc_le c_8
      refine lv_iload hx hb dX5_deep_46 (lv_at hl 0 rfl) ?_
      refine lv_iadd hx hb dX5_deep_48 ?_
      refine lv_topi (fun y_9 ey_9 => ?_)
      have i_9 : y_9.toInt = 1 + r_7.toInt := ki_add ey_9 rfl rfl (om_454 w_7.2.1) (om_460 w_7.2.2)
      have d_1 : mj_dp 6 (p1.toInt - p0.toInt).toNat = 1 + mj_dp 5 (p1.toInt - y_4.toInt).toNat ∧ mj_dp 5 (y_4.toInt - p0.toInt).toNat ≤ mj_dp 5 (p1.toInt - y_4.toInt).toNat := mj_dp_node (by omega) (by omega) (by omega)
      exact W.iret (v := y_9) hx hb hr (hlocks := hlocks) (fun t ht hW => ⟨y_9, rfl, ⟨(by (try dsimp only); omega), (by (try dsimp only); omega), (by (try dsimp only); omega)⟩, ht⟩) (fun q hq => by cases hq) dX5_deep_49
    · have i_8 : r_7.toInt < r_6.toInt := kc_nle c_8
      refine lv_iload hx hb dX5_deep_41 (lv_at hl 1 rfl) ?_
      refine lv_goto (tgt := 48) hx hb dX5_deep_43 (by decide) ?_
      refine lv_iadd hx hb dX5_deep_48 ?_
      refine lv_topi (fun y_10 ey_10 => ?_)
      have i_10 : y_10.toInt = 1 + r_6.toInt := ki_add ey_10 rfl rfl (om_454 w_6.2.1) (om_460 w_6.2.2)
      have d_1 : mj_dp 6 (p1.toInt - p0.toInt).toNat = 1 + mj_dp 5 (p1.toInt - y_4.toInt).toNat ∧ mj_dp 5 (y_4.toInt - p0.toInt).toNat ≤ mj_dp 5 (p1.toInt - y_4.toInt).toNat := mj_dp_node (by omega) (by omega) (by omega)
      exact W.iret (v := y_10) hx hb hr (hlocks := hlocks) (fun t ht hW => ⟨y_10, rfl, ⟨(by (try dsimp only); omega), (by (try dsimp only); omega), (by (try dsimp only); omega)⟩, ht⟩) (fun q hq => by cases hq) dX5_deep_49
  · have i_2 : y_1.toInt < 2 := kc_nle c_2
    refine lv_iload_n hx hb dX5_deep_7 rfl (lv_at hl 2 rfl) ?_
    refine lv_iload_n hx hb dX5_deep_8 rfl (lv_at hl 1 rfl) ?_
    refine lv_isub hx hb dX5_deep_9 ?_
    refine lv_topi (fun y_11 ey_11 => ?_)
    have i_11 : y_11.toInt = p1.toInt - p0.toInt := ki_sub ey_11 rfl rfl (om_184 b1) (om_356 b3)
    exact W.iret (v := y_11) hx hb hr (hlocks := hlocks) (fun t ht hW => ⟨y_11, rfl, ⟨(by (try dsimp only); rw [mj_dp_small (by omega)]; omega), (by (try dsimp only); omega), (by (try dsimp only); omega)⟩, ht⟩) (fun q hq => by cases hq) dX5_deep_10

set_option maxHeartbeats 4000000 in
set_option maxRecDepth 100000 in
theorem c_X5_deep_x7 (l : Launch) (dC : Nat → ClassId) (dI : Nat → Nat → Nat) (h0 : Nat) (g_row : Nat) (g_many : Nat) (g_loss : Nat) (g_less : Nat) (g_voteValue : Nat) (g_voteNumber : Nat) (g_allValue : Nat) (g_allNumber : Nat) (g_nodeL : Nat) (g_nodeR : Nat) (g_part : Nat) (g_wasMany : Nat) (g_wasLoss : Nat) (g_wasValue : Nat) (g_wasNumber : Nat) (g_path : Nat) (g_heavyValue : Nat) (g_heavyTimes : Nat) (g_fewest : Nat) (g_which : Nat) (g_met : Nat) (m_n : Int32) (m_slots : Int32) (m_thrown : Int32) (m_allMany : Int32) (m_nodes : Int32) (m_partMany : Int32) (m_pathMany : Int32) (m_heavyMany : Int32) (m_mostMet : Int32) (p0 : Int32) (p1 : Int32) (b0 : 0 ≤ p0.toInt) (b1 : p0.toInt ≤ p1.toInt) (b2 : p1.toInt ≤ 160) (b3 : p1.toInt - p0.toInt ≤ 128) : Met l yX5_deep wsX5_deep ({ frames := 7, cells := 0, slots := 0, locals := 315 }) (va_Pc [.ref h0, .int p0, .int p1] (fun U => va_P (dC, dI) vwCl [kx_5 h0 g_row m_n m_slots m_thrown g_many g_loss g_less g_voteValue g_voteNumber g_allValue g_allNumber m_allMany g_nodeL g_nodeR m_nodes g_part m_partMany g_wasMany g_wasLoss g_wasValue g_wasNumber g_path m_pathMany g_heavyValue g_heavyTimes m_heavyMany g_fewest g_which g_met m_mostMet] U.heap ∧ va_K (dC, dI) vwCl [] U)) (vp_Si (fun r : Int32 => r.toInt = (mj_dp 7 (p1.toInt - p0.toInt).toNat : Int) ∧ 0 ≤ r.toInt ∧ r.toInt ≤ 8)) 0 0 (fun _ => False) := by
  refine kx_stS (ws := wsX5_deep) (cc := cX5_deep) (maxL := 6) (ret := (some .int)) (by decide) rfl (Nat.le_of_ble_eq_true rfl) ?_
  intro p e s m below meth c ls hx hb hr hlocks hts hown hml hP hK hl
  have hown : s.vm.findClass RX5 = some m.cls := hown
  have hl : lv_has ls 6 [(0, .ref h0), (1, .int p0), (2, .int p1)] := hl
  refine lv_iload_n hx hb dX5_deep_0 rfl (lv_at hl 2 rfl) ?_
  refine lv_iload_n hx hb dX5_deep_1 rfl (lv_at hl 1 rfl) ?_
  refine lv_isub hx hb dX5_deep_2 ?_
  refine lv_topi (fun y_1 ey_1 => ?_)
  have i_1 : y_1.toInt = p1.toInt - p0.toInt := ki_sub ey_1 rfl rfl (om_184 b1) (om_358 b3)
  refine lv_iconst (v := 2) hx hb dX5_deep_3 (by decide) ?_
  refine lv_icmp_ge (tgt := 11) hx hb dX5_deep_4 (by decide) (fun c_2 => ?_) (fun c_2 => ?_)
  · have i_2 : 2 ≤ y_1.toInt := kc_le c_2
    refine lv_iload_n hx hb dX5_deep_11 rfl (lv_at hl 1 rfl) ?_
    refine lv_iload_n hx hb dX5_deep_12 rfl (lv_at hl 2 rfl) ?_
    refine lv_iadd hx hb dX5_deep_13 ?_
    refine lv_topi (fun y_3 ey_3 => ?_)
    have i_3 : y_3.toInt = p0.toInt + p1.toInt := ki_add ey_3 rfl rfl (om_447 b0 b1) (om_448 b1 b2)
    refine lv_iconst (v := 2) hx hb dX5_deep_14 (by decide) ?_
    refine lv_idiv hx hb dX5_deep_15 (by decide) ?_
    refine lv_topi (fun y_4 ey_4 => ?_)
    have i_4 : y_4.toInt = y_3.toInt / 2 := ki_div2 ey_4 rfl (om_449 b0 b1 i_3)
    have d_5 := om_dv i_4
    refine lv_istore_n (lv' := [(3, .int y_4), (0, .ref h0), (1, .int p0), (2, .int p1)]) hx hb dX5_deep_16 rfl hl (by decide) rfl (fun ls hl => ?_)
    refine lv_aload_n hx hb dX5_deep_17 rfl (lv_at hl 1 rfl) ?_
    refine lv_iload_n hx hb dX5_deep_18 rfl (lv_at hl 2 rfl) ?_
    refine lv_iload_n hx hb dX5_deep_19 rfl (lv_at hl 0 rfl) ?_
    have hPc := hP
    have hKc := hK
    refine vp_callSi (W.runV (As := [.int p0, .int y_4]) (rest := []) ⟨hx, hb, hml, hown, hts⟩ (c_X5_deep_x6 l dC dI h0 g_row g_many g_loss g_less g_voteValue g_voteNumber g_allValue g_allNumber g_nodeL g_nodeR g_part g_wasMany g_wasLoss g_wasValue g_wasNumber g_path g_heavyValue g_heavyTimes g_fewest g_which g_met m_n m_slots m_thrown m_allMany m_nodes m_partMany m_pathMany m_heavyMany m_mostMet p0 y_4 b0 (om_450 b1 i_1 i_2 i_3 d_5.2) (om_451 b1 b2 i_3 d_5.1) (om_359 b3 i_3 d_5.1)) (cwV 2 hts gX5_deep_X5_deep rfl rfl rfl (by decide +kernel) ⟨Nat.le_of_ble_eq_true rfl, Nat.le_of_ble_eq_true rfl⟩) ⟨fun a U g mk q => by obtain ⟨q0, qP, qK⟩ := q; exact ⟨q0, qP, va_K.moved (u := U) (U := U.calling g mk a) (Vm.Alike.refl U.vm) qK⟩, kx_rc5 hKc hPc (q0 := 0) rfl, fun U hU hW => ⟨rfl, by rw [hU]; exact hPc, va_K.moved hW.alike hKc⟩⟩ rfl rfl hl.1 rfl (lv_room (Nat.le_of_ble_eq_true rfl)) dX5_deep_20 ⟨Nat.le_of_ble_eq_true rfl, Nat.le_of_ble_eq_true rfl⟩) (fun r_6 w_6 => ?_)
    have w_6 : r_6.toInt = (mj_dp 6 (y_4.toInt - p0.toInt).toNat : Int) ∧ 0 ≤ r_6.toInt ∧ r_6.toInt ≤ 7 := w_6
    refine lv_istore (lv' := [(4, .int r_6), (3, .int y_4), (0, .ref h0), (1, .int p0), (2, .int p1)]) hx hb dX5_deep_23 hl (by decide) rfl (fun ls hl => ?_)
    refine lv_aload_n hx hb dX5_deep_25 rfl (lv_at hl 2 rfl) ?_
    refine lv_iload_n hx hb dX5_deep_26 rfl (lv_at hl 1 rfl) ?_
    refine lv_iload_n hx hb dX5_deep_27 rfl (lv_at hl 4 rfl) ?_
    have hPc := hP
    have hKc := hK
    refine vp_callSi (W.runV (As := [.int y_4, .int p1]) (rest := []) ⟨hx, hb, hml, hown, hts⟩ (c_X5_deep_x6 l dC dI h0 g_row g_many g_loss g_less g_voteValue g_voteNumber g_allValue g_allNumber g_nodeL g_nodeR g_part g_wasMany g_wasLoss g_wasValue g_wasNumber g_path g_heavyValue g_heavyTimes g_fewest g_which g_met m_n m_slots m_thrown m_allMany m_nodes m_partMany m_pathMany m_heavyMany m_mostMet y_4 p1 (om_452 b0 b1 i_1 i_2 i_3 d_5.2) (om_453 b1 i_3 d_5.1) b2 (by omega)) (cwV 2 hts gX5_deep_X5_deep rfl rfl rfl (by decide +kernel) ⟨Nat.le_of_ble_eq_true rfl, Nat.le_of_ble_eq_true rfl⟩) ⟨fun a U g mk q => by obtain ⟨q0, qP, qK⟩ := q; exact ⟨q0, qP, va_K.moved (u := U) (U := U.calling g mk a) (Vm.Alike.refl U.vm) qK⟩, kx_rc5 hKc hPc (q0 := 0) rfl, fun U hU hW => ⟨rfl, by rw [hU]; exact hPc, va_K.moved hW.alike hKc⟩⟩ rfl rfl hl.1 rfl (lv_room (Nat.le_of_ble_eq_true rfl)) dX5_deep_28 ⟨Nat.le_of_ble_eq_true rfl, Nat.le_of_ble_eq_true rfl⟩) (fun r_7 w_7 => ?_)
    have w_7 : r_7.toInt = (mj_dp 6 (p1.toInt - y_4.toInt).toNat : Int) ∧ 0 ≤ r_7.toInt ∧ r_7.toInt ≤ 7 := w_7
    refine lv_istore (lv' := [(5, .int r_7), (4, .int r_6), (3, .int y_4), (0, .ref h0), (1, .int p0), (2, .int p1)]) hx hb dX5_deep_31 hl (by decide) rfl (fun ls hl => ?_)
    refine lv_iconst (v := 1) hx hb dX5_deep_33 (by decide) ?_
    refine lv_iload hx hb dX5_deep_34 (lv_at hl 1 rfl) ?_
    refine lv_iload hx hb dX5_deep_36 (lv_at hl 0 rfl) ?_
    refine lv_icmp_le (tgt := 46) hx hb dX5_deep_38 (by decide) (fun c_8 => ?_) (fun c_8 => ?_)
    · have i_8 : r_6.toInt ≤ r_7.toInt := kc_le c_8
      refine lv_iload hx hb dX5_deep_46 (lv_at hl 0 rfl) ?_
      refine lv_iadd hx hb dX5_deep_48 ?_
      refine lv_topi (fun y_9 ey_9 => ?_)
      have i_9 : y_9.toInt = 1 + r_7.toInt := ki_add ey_9 rfl rfl (om_454 w_7.2.1) (om_461 w_7.2.2)
      have d_1 : mj_dp 7 (p1.toInt - p0.toInt).toNat = 1 + mj_dp 6 (p1.toInt - y_4.toInt).toNat ∧ mj_dp 6 (y_4.toInt - p0.toInt).toNat ≤ mj_dp 6 (p1.toInt - y_4.toInt).toNat := mj_dp_node (by omega) (by omega) (by omega)
      exact W.iret (v := y_9) hx hb hr (hlocks := hlocks) (fun t ht hW => ⟨y_9, rfl, ⟨(by (try dsimp only); omega), (by (try dsimp only); omega), (by (try dsimp only); omega)⟩, ht⟩) (fun q hq => by cases hq) dX5_deep_49
    · have i_8 : r_7.toInt < r_6.toInt := kc_nle c_8
      refine lv_iload hx hb dX5_deep_41 (lv_at hl 1 rfl) ?_
      refine lv_goto (tgt := 48) hx hb dX5_deep_43 (by decide) ?_
      refine lv_iadd hx hb dX5_deep_48 ?_
      refine lv_topi (fun y_10 ey_10 => ?_)
      have i_10 : y_10.toInt = 1 + r_6.toInt := ki_add ey_10 rfl rfl (om_454 w_6.2.1) (om_461 w_6.2.2)
      have d_1 : mj_dp 7 (p1.toInt - p0.toInt).toNat = 1 + mj_dp 6 (p1.toInt - y_4.toInt).toNat ∧ mj_dp 6 (y_4.toInt - p0.toInt).toNat ≤ mj_dp 6 (p1.toInt - y_4.toInt).toNat := mj_dp_node (by omega) (by omega) (by omega)
      exact W.iret (v := y_10) hx hb hr (hlocks := hlocks) (fun t ht hW => ⟨y_10, rfl, ⟨(by (try dsimp only); omega), (by (try dsimp only); omega), (by (try dsimp only); omega)⟩, ht⟩) (fun q hq => by cases hq) dX5_deep_49
  · have i_2 : y_1.toInt < 2 := kc_nle c_2
    refine lv_iload_n hx hb dX5_deep_7 rfl (lv_at hl 2 rfl) ?_
    refine lv_iload_n hx hb dX5_deep_8 rfl (lv_at hl 1 rfl) ?_
    refine lv_isub hx hb dX5_deep_9 ?_
    refine lv_topi (fun y_11 ey_11 => ?_)
    have i_11 : y_11.toInt = p1.toInt - p0.toInt := ki_sub ey_11 rfl rfl (om_184 b1) (om_358 b3)
    exact W.iret (v := y_11) hx hb hr (hlocks := hlocks) (fun t ht hW => ⟨y_11, rfl, ⟨(by (try dsimp only); rw [mj_dp_small (by omega)]; omega), (by (try dsimp only); omega), (by (try dsimp only); omega)⟩, ht⟩) (fun q hq => by cases hq) dX5_deep_10

set_option maxHeartbeats 4000000 in
set_option maxRecDepth 100000 in
theorem c_X5_deep_x8 (l : Launch) (dC : Nat → ClassId) (dI : Nat → Nat → Nat) (h0 : Nat) (g_row : Nat) (g_many : Nat) (g_loss : Nat) (g_less : Nat) (g_voteValue : Nat) (g_voteNumber : Nat) (g_allValue : Nat) (g_allNumber : Nat) (g_nodeL : Nat) (g_nodeR : Nat) (g_part : Nat) (g_wasMany : Nat) (g_wasLoss : Nat) (g_wasValue : Nat) (g_wasNumber : Nat) (g_path : Nat) (g_heavyValue : Nat) (g_heavyTimes : Nat) (g_fewest : Nat) (g_which : Nat) (g_met : Nat) (m_n : Int32) (m_slots : Int32) (m_thrown : Int32) (m_allMany : Int32) (m_nodes : Int32) (m_partMany : Int32) (m_pathMany : Int32) (m_heavyMany : Int32) (m_mostMet : Int32) (p0 : Int32) (p1 : Int32) (b0 : 0 ≤ p0.toInt) (b1 : p0.toInt ≤ p1.toInt) (b2 : p1.toInt ≤ 160) (b3 : p1.toInt - p0.toInt ≤ 256) : Met l yX5_deep wsX5_deep ({ frames := 8, cells := 0, slots := 0, locals := 360 }) (va_Pc [.ref h0, .int p0, .int p1] (fun U => va_P (dC, dI) vwCl [kx_5 h0 g_row m_n m_slots m_thrown g_many g_loss g_less g_voteValue g_voteNumber g_allValue g_allNumber m_allMany g_nodeL g_nodeR m_nodes g_part m_partMany g_wasMany g_wasLoss g_wasValue g_wasNumber g_path m_pathMany g_heavyValue g_heavyTimes m_heavyMany g_fewest g_which g_met m_mostMet] U.heap ∧ va_K (dC, dI) vwCl [] U)) (vp_Si (fun r : Int32 => r.toInt = (mj_dp 8 (p1.toInt - p0.toInt).toNat : Int) ∧ 0 ≤ r.toInt ∧ r.toInt ≤ 9)) 0 0 (fun _ => False) := by
  refine kx_stS (ws := wsX5_deep) (cc := cX5_deep) (maxL := 6) (ret := (some .int)) (by decide) rfl (Nat.le_of_ble_eq_true rfl) ?_
  intro p e s m below meth c ls hx hb hr hlocks hts hown hml hP hK hl
  have hown : s.vm.findClass RX5 = some m.cls := hown
  have hl : lv_has ls 6 [(0, .ref h0), (1, .int p0), (2, .int p1)] := hl
  refine lv_iload_n hx hb dX5_deep_0 rfl (lv_at hl 2 rfl) ?_
  refine lv_iload_n hx hb dX5_deep_1 rfl (lv_at hl 1 rfl) ?_
  refine lv_isub hx hb dX5_deep_2 ?_
  refine lv_topi (fun y_1 ey_1 => ?_)
  have i_1 : y_1.toInt = p1.toInt - p0.toInt := ki_sub ey_1 rfl rfl (om_184 b1) (om_360 b3)
  refine lv_iconst (v := 2) hx hb dX5_deep_3 (by decide) ?_
  refine lv_icmp_ge (tgt := 11) hx hb dX5_deep_4 (by decide) (fun c_2 => ?_) (fun c_2 => ?_)
  · have i_2 : 2 ≤ y_1.toInt := kc_le c_2
    refine lv_iload_n hx hb dX5_deep_11 rfl (lv_at hl 1 rfl) ?_
    refine lv_iload_n hx hb dX5_deep_12 rfl (lv_at hl 2 rfl) ?_
    refine lv_iadd hx hb dX5_deep_13 ?_
    refine lv_topi (fun y_3 ey_3 => ?_)
    have i_3 : y_3.toInt = p0.toInt + p1.toInt := ki_add ey_3 rfl rfl (om_447 b0 b1) (om_448 b1 b2)
    refine lv_iconst (v := 2) hx hb dX5_deep_14 (by decide) ?_
    refine lv_idiv hx hb dX5_deep_15 (by decide) ?_
    refine lv_topi (fun y_4 ey_4 => ?_)
    have i_4 : y_4.toInt = y_3.toInt / 2 := ki_div2 ey_4 rfl (om_449 b0 b1 i_3)
    have d_5 := om_dv i_4
    refine lv_istore_n (lv' := [(3, .int y_4), (0, .ref h0), (1, .int p0), (2, .int p1)]) hx hb dX5_deep_16 rfl hl (by decide) rfl (fun ls hl => ?_)
    refine lv_aload_n hx hb dX5_deep_17 rfl (lv_at hl 1 rfl) ?_
    refine lv_iload_n hx hb dX5_deep_18 rfl (lv_at hl 2 rfl) ?_
    refine lv_iload_n hx hb dX5_deep_19 rfl (lv_at hl 0 rfl) ?_
    have hPc := hP
    have hKc := hK
    refine vp_callSi (W.runV (As := [.int p0, .int y_4]) (rest := []) ⟨hx, hb, hml, hown, hts⟩ (c_X5_deep_x7 l dC dI h0 g_row g_many g_loss g_less g_voteValue g_voteNumber g_allValue g_allNumber g_nodeL g_nodeR g_part g_wasMany g_wasLoss g_wasValue g_wasNumber g_path g_heavyValue g_heavyTimes g_fewest g_which g_met m_n m_slots m_thrown m_allMany m_nodes m_partMany m_pathMany m_heavyMany m_mostMet p0 y_4 b0 (om_450 b1 i_1 i_2 i_3 d_5.2) (om_451 b1 b2 i_3 d_5.1) (om_361 b3 i_3 d_5.1)) (cwV 2 hts gX5_deep_X5_deep rfl rfl rfl (by decide +kernel) ⟨Nat.le_of_ble_eq_true rfl, Nat.le_of_ble_eq_true rfl⟩) ⟨fun a U g mk q => by obtain ⟨q0, qP, qK⟩ := q; exact ⟨q0, qP, va_K.moved (u := U) (U := U.calling g mk a) (Vm.Alike.refl U.vm) qK⟩, kx_rc5 hKc hPc (q0 := 0) rfl, fun U hU hW => ⟨rfl, by rw [hU]; exact hPc, va_K.moved hW.alike hKc⟩⟩ rfl rfl hl.1 rfl (lv_room (Nat.le_of_ble_eq_true rfl)) dX5_deep_20 ⟨Nat.le_of_ble_eq_true rfl, Nat.le_of_ble_eq_true rfl⟩) (fun r_6 w_6 => ?_)
    have w_6 : r_6.toInt = (mj_dp 7 (y_4.toInt - p0.toInt).toNat : Int) ∧ 0 ≤ r_6.toInt ∧ r_6.toInt ≤ 8 := w_6
    refine lv_istore (lv' := [(4, .int r_6), (3, .int y_4), (0, .ref h0), (1, .int p0), (2, .int p1)]) hx hb dX5_deep_23 hl (by decide) rfl (fun ls hl => ?_)
    refine lv_aload_n hx hb dX5_deep_25 rfl (lv_at hl 2 rfl) ?_
    refine lv_iload_n hx hb dX5_deep_26 rfl (lv_at hl 1 rfl) ?_
    refine lv_iload_n hx hb dX5_deep_27 rfl (lv_at hl 4 rfl) ?_
    have hPc := hP
    have hKc := hK
    refine vp_callSi (W.runV (As := [.int y_4, .int p1]) (rest := []) ⟨hx, hb, hml, hown, hts⟩ (c_X5_deep_x7 l dC dI h0 g_row g_many g_loss g_less g_voteValue g_voteNumber g_allValue g_allNumber g_nodeL g_nodeR g_part g_wasMany g_wasLoss g_wasValue g_wasNumber g_path g_heavyValue g_heavyTimes g_fewest g_which g_met m_n m_slots m_thrown m_allMany m_nodes m_partMany m_pathMany m_heavyMany m_mostMet y_4 p1 (om_452 b0 b1 i_1 i_2 i_3 d_5.2) (om_453 b1 i_3 d_5.1) b2 (om_462 b0 b2 b3 i_3 d_5.2)) (cwV 2 hts gX5_deep_X5_deep rfl rfl rfl (by decide +kernel) ⟨Nat.le_of_ble_eq_true rfl, Nat.le_of_ble_eq_true rfl⟩) ⟨fun a U g mk q => by obtain ⟨q0, qP, qK⟩ := q; exact ⟨q0, qP, va_K.moved (u := U) (U := U.calling g mk a) (Vm.Alike.refl U.vm) qK⟩, kx_rc5 hKc hPc (q0 := 0) rfl, fun U hU hW => ⟨rfl, by rw [hU]; exact hPc, va_K.moved hW.alike hKc⟩⟩ rfl rfl hl.1 rfl (lv_room (Nat.le_of_ble_eq_true rfl)) dX5_deep_28 ⟨Nat.le_of_ble_eq_true rfl, Nat.le_of_ble_eq_true rfl⟩) (fun r_7 w_7 => ?_)
    have w_7 : r_7.toInt = (mj_dp 7 (p1.toInt - y_4.toInt).toNat : Int) ∧ 0 ≤ r_7.toInt ∧ r_7.toInt ≤ 8 := w_7
    refine lv_istore (lv' := [(5, .int r_7), (4, .int r_6), (3, .int y_4), (0, .ref h0), (1, .int p0), (2, .int p1)]) hx hb dX5_deep_31 hl (by decide) rfl (fun ls hl => ?_)
    refine lv_iconst (v := 1) hx hb dX5_deep_33 (by decide) ?_
    refine lv_iload hx hb dX5_deep_34 (lv_at hl 1 rfl) ?_
    refine lv_iload hx hb dX5_deep_36 (lv_at hl 0 rfl) ?_
    refine lv_icmp_le (tgt := 46) hx hb dX5_deep_38 (by decide) (fun c_8 => ?_) (fun c_8 => ?_)
    · have i_8 : r_6.toInt ≤ r_7.toInt := kc_le c_8
      refine lv_iload hx hb dX5_deep_46 (lv_at hl 0 rfl) ?_
      refine lv_iadd hx hb dX5_deep_48 ?_
      refine lv_topi (fun y_9 ey_9 => ?_)
      have i_9 : y_9.toInt = 1 + r_7.toInt := ki_add ey_9 rfl rfl (om_454 w_7.2.1) (om_463 w_7.2.2)
      have d_1 : mj_dp 8 (p1.toInt - p0.toInt).toNat = 1 + mj_dp 7 (p1.toInt - y_4.toInt).toNat ∧ mj_dp 7 (y_4.toInt - p0.toInt).toNat ≤ mj_dp 7 (p1.toInt - y_4.toInt).toNat := mj_dp_node (by omega) (by omega) (by omega)
      exact W.iret (v := y_9) hx hb hr (hlocks := hlocks) (fun t ht hW => ⟨y_9, rfl, ⟨(by (try dsimp only); omega), (by (try dsimp only); omega), (by (try dsimp only); omega)⟩, ht⟩) (fun q hq => by cases hq) dX5_deep_49
    · have i_8 : r_7.toInt < r_6.toInt := kc_nle c_8
      refine lv_iload hx hb dX5_deep_41 (lv_at hl 1 rfl) ?_
      refine lv_goto (tgt := 48) hx hb dX5_deep_43 (by decide) ?_
      refine lv_iadd hx hb dX5_deep_48 ?_
      refine lv_topi (fun y_10 ey_10 => ?_)
      have i_10 : y_10.toInt = 1 + r_6.toInt := ki_add ey_10 rfl rfl (om_454 w_6.2.1) (om_463 w_6.2.2)
      have d_1 : mj_dp 8 (p1.toInt - p0.toInt).toNat = 1 + mj_dp 7 (p1.toInt - y_4.toInt).toNat ∧ mj_dp 7 (y_4.toInt - p0.toInt).toNat ≤ mj_dp 7 (p1.toInt - y_4.toInt).toNat := mj_dp_node (by omega) (by omega) (by omega)
      exact W.iret (v := y_10) hx hb hr (hlocks := hlocks) (fun t ht hW => ⟨y_10, rfl, ⟨(by (try dsimp only); omega), (by (try dsimp only); omega), (by (try dsimp only); omega)⟩, ht⟩) (fun q hq => by cases hq) dX5_deep_49
  · have i_2 : y_1.toInt < 2 := kc_nle c_2
    refine lv_iload_n hx hb dX5_deep_7 rfl (lv_at hl 2 rfl) ?_
    refine lv_iload_n hx hb dX5_deep_8 rfl (lv_at hl 1 rfl) ?_
    refine lv_isub hx hb dX5_deep_9 ?_
    refine lv_topi (fun y_11 ey_11 => ?_)
    have i_11 : y_11.toInt = p1.toInt - p0.toInt := ki_sub ey_11 rfl rfl (om_184 b1) (om_360 b3)
    exact W.iret (v := y_11) hx hb hr (hlocks := hlocks) (fun t ht hW => ⟨y_11, rfl, ⟨(by (try dsimp only); rw [mj_dp_small (by omega)]; omega), (by (try dsimp only); omega), (by (try dsimp only); omega)⟩, ht⟩) (fun q hq => by cases hq) dX5_deep_10

set_option maxHeartbeats 4000000 in
set_option maxRecDepth 100000 in
theorem c_X5_told_x (l : Launch) (dC : Nat → ClassId) (dI : Nat → Nat → Nat) (h0 : Nat) (g_row : Nat) (g_many : Nat) (g_loss : Nat) (g_less : Nat) (g_voteValue : Nat) (g_voteNumber : Nat) (g_allValue : Nat) (g_allNumber : Nat) (g_nodeL : Nat) (g_nodeR : Nat) (g_part : Nat) (g_wasMany : Nat) (g_wasLoss : Nat) (g_wasValue : Nat) (g_wasNumber : Nat) (g_path : Nat) (g_heavyValue : Nat) (g_heavyTimes : Nat) (g_fewest : Nat) (g_which : Nat) (g_met : Nat) (m_n : Int32) (m_slots : Int32) (m_thrown : Int32) (m_allMany : Int32) (m_nodes : Int32) (m_partMany : Int32) (m_pathMany : Int32) (m_heavyMany : Int32) (m_mostMet : Int32) (cyI : ClassId) (fm : Nat → Int32) (fl : Nat → Int32) (fe : Nat → Int32) (vv : Nat → Int32) (vn : Nat → Int32) (f : Nat → Int32) (av : Nat → Int32) (an : Nat → Int32) (nl : Nat → Int32) (nr : Nat → Int32) (p0 : Int32) (sz : Nat) (a0 : 0 ≤ m_n.toInt) (a1 : m_n.toInt ≤ 160) (sl0 : 1 ≤ m_slots.toInt) (sl1 : m_slots.toInt ≤ 6) (s4 : six4 fm) (s1 : shorts f) : kx_MQ l (dC, dI) yX5_told wsX5_told ({ frames := 12, cells := 0, slots := 0, locals := 540 }) [.ref h0, .int p0] [kx_5 h0 g_row m_n m_slots m_thrown g_many g_loss g_less g_voteValue g_voteNumber g_allValue g_allNumber m_allMany g_nodeL g_nodeR m_nodes g_part m_partMany g_wasMany g_wasLoss g_wasValue g_wasNumber g_path m_pathMany g_heavyValue g_heavyTimes m_heavyMany g_fewest g_which g_met m_mostMet, kx_a g_row cyI 160 f, kx_a g_many cyI 324 fm, kx_a g_loss cyI 324 fl, kx_a g_less cyI 324 fe, kx_a g_voteValue cyI 1944 vv, kx_a g_voteNumber cyI 1944 vn, kx_a g_allValue cyI 12 av, kx_a g_allNumber cyI 12 an, kx_a g_nodeL cyI 320 nl, kx_a g_nodeR cyI 320 nr] [(cyI, .int)] sz (fun A => va_Qi (fun (r : Int32) (u : Int32 × Int32 × (Nat → Int32) × (Nat → Int32) × (Nat → Int32) × (Nat → Int32) × (Nat → Int32) × (Nat → Int32) × (Nat → Int32) × (Nat → Int32) × (Nat → Int32)) => (mj_L m_slots.toNatClampNeg f u.2.2.2.2.2.2.2.2.2.1 u.2.2.2.2.2.2.2.2.2.2 u.2.2.1 u.2.2.2.1 u.2.2.2.2.1 u.2.2.2.2.2.1 u.2.2.2.2.2.2.1 m_n.toInt u.1.toInt ∧ 0 ≤ u.1.toInt ∧ u.1.toInt ≤ 319) ∧ mj_tld f u.2.2.2.2.2.2.2.2.2.1 u.2.2.2.2.2.2.2.2.2.2 u.2.2.2.1 u.1 m_n m_slots p0.toInt r ∧ six4 u.2.2.1) (fun (u : Int32 × Int32 × (Nat → Int32) × (Nat → Int32) × (Nat → Int32) × (Nat → Int32) × (Nat → Int32) × (Nat → Int32) × (Nat → Int32) × (Nat → Int32) × (Nat → Int32)) (t : State) => va_P (dC, dI) vwCl [kx_5 h0 g_row m_n m_slots 0 g_many g_loss g_less g_voteValue g_voteNumber g_allValue g_allNumber u.2.1 g_nodeL g_nodeR u.1 g_part m_partMany g_wasMany g_wasLoss g_wasValue g_wasNumber g_path m_pathMany g_heavyValue g_heavyTimes m_heavyMany g_fewest g_which g_met m_mostMet, kx_a g_row cyI 160 f, kx_a g_many cyI 324 u.2.2.1, kx_a g_loss cyI 324 u.2.2.2.1, kx_a g_less cyI 324 u.2.2.2.2.1, kx_a g_voteValue cyI 1944 u.2.2.2.2.2.1, kx_a g_voteNumber cyI 1944 u.2.2.2.2.2.2.1, kx_a g_allValue cyI 12 u.2.2.2.2.2.2.2.1, kx_a g_allNumber cyI 12 u.2.2.2.2.2.2.2.2.1, kx_a g_nodeL cyI 320 u.2.2.2.2.2.2.2.2.2.1, kx_a g_nodeR cyI 320 u.2.2.2.2.2.2.2.2.2.2] t.heap ∧ va_K (dC, dI) vwCl [(cyI, .int)] t ∧ va_D A [kx_5 h0 g_row m_n m_slots 0 g_many g_loss g_less g_voteValue g_voteNumber g_allValue g_allNumber u.2.1 g_nodeL g_nodeR u.1 g_part m_partMany g_wasMany g_wasLoss g_wasValue g_wasNumber g_path m_pathMany g_heavyValue g_heavyTimes m_heavyMany g_fewest g_which g_met m_mostMet, kx_a g_row cyI 160 f, kx_a g_many cyI 324 u.2.2.1, kx_a g_loss cyI 324 u.2.2.2.1, kx_a g_less cyI 324 u.2.2.2.2.1, kx_a g_voteValue cyI 1944 u.2.2.2.2.2.1, kx_a g_voteNumber cyI 1944 u.2.2.2.2.2.2.1, kx_a g_allValue cyI 12 u.2.2.2.2.2.2.2.1, kx_a g_allNumber cyI 12 u.2.2.2.2.2.2.2.2.1, kx_a g_nodeL cyI 320 u.2.2.2.2.2.2.2.2.2.1, kx_a g_nodeR cyI 320 u.2.2.2.2.2.2.2.2.2.2]) A) := by
  refine kx_stQ (ws := wsX5_told) (cc := cX5_told) (maxL := 4) (ret := (some .int)) (by decide) rfl (Nat.le_of_ble_eq_true rfl) ?_
  intro p e s m below meth c A ls hx hb hr hlocks hts hown hml hA hS hP hK hD hl
  have hown : s.vm.findClass RX5 = some m.cls := hown
  have hl : lv_has ls 4 [(0, .ref h0), (1, .int p0)] := hl
  have hf_77 := hts (.fieldLink RX5 77 "MajorityIndexModel" "thrown" "I") (List.mem_of_getElem? (i := 1) rfl)
  have hi_5 : ∀ w ∈ u_ws RX5 TX5 30, w ∈ wsX5_told := fun w h => List.mem_cons_of_mem _ (List.mem_append_right _ h)
  have hf_13 := hts (.fieldLink RX5 13 "MajorityIndexModel" "slots" "I") (List.mem_of_getElem? (i := 2) rfl)
  have hf_84 := hts (.fieldLink RX5 84 "MajorityIndexModel" "n" "I") (List.mem_of_getElem? (i := 3) rfl)
  have hf_101 := hts (.fieldLink RX5 101 "MajorityIndexModel" "nodes" "I") (List.mem_of_getElem? (i := 4) rfl)
  have hf_20 := hts (.fieldLink RX5 20 "MajorityIndexModel" "loss" "[I") (List.mem_of_getElem? (i := 5) rfl)
  refine lv_aload_n hx hb dX5_told_0 rfl (lv_at hl 0 rfl) ?_
  refine lv_iconst (v := 0) hx hb dX5_told_1 (by decide) ?_
  refine va_put (D := (dC, dI)) (ci := 5) (v := .int 0) (ty := .int) (C := RX5) (T := TX5) (N := 30) hx hb hts hi_5 tyX5 tyX5_ok nmX5 hown hK hP hD hS 0 rfl rfl 3 (by decide) hf_77 (fun _ h9 => h9) rfl (by decide +kernel) rfl rfl (Nat.le_of_ble_eq_true rfl) dX5_told_2 (fun H locs hP hD hS => ?_)
  obtain ⟨hP, hD⟩ := kx_re (w2 := [kx_5 h0 g_row m_n m_slots 0 g_many g_loss g_less g_voteValue g_voteNumber g_allValue g_allNumber m_allMany g_nodeL g_nodeR m_nodes g_part m_partMany g_wasMany g_wasLoss g_wasValue g_wasNumber g_path m_pathMany g_heavyValue g_heavyTimes m_heavyMany g_fewest g_which g_met m_mostMet, kx_a g_row cyI 160 f, kx_a g_many cyI 324 fm, kx_a g_loss cyI 324 fl, kx_a g_less cyI 324 fe, kx_a g_voteValue cyI 1944 vv, kx_a g_voteNumber cyI 1944 vn, kx_a g_allValue cyI 12 av, kx_a g_allNumber cyI 12 an, kx_a g_nodeL cyI 320 nl, kx_a g_nodeR cyI 320 nr]) hP hD rfl
  refine lv_aload_n hx hb dX5_told_5 rfl (lv_at hl 0 rfl) ?_
  refine lv_aload_n hx hb dX5_told_6 rfl (lv_at hl 0 rfl) ?_
  refine va_get (D := (dC, dI)) (ci := 5) (v := .int m_slots) (C := RX5) (T := TX5) (N := 30) hx hb hts hi_5 hown hK hP 0 rfl rfl 2 (by decide) hf_13 (fun _ h9 => h9) rfl dX5_told_7 ?_
  have hPc := hP
  have hKc := hK
  have hDc := hD
  have hFc := kx_free hD hS hA
  refine va_callv (va_runV (As := [.int m_slots]) (rest := []) ⟨hx, hb, hml, hown, hts⟩ (kx_un (c_X5_laysAll l dC dI h0 g_row g_many g_loss g_less g_voteValue g_voteNumber g_allValue g_allNumber g_nodeL g_nodeR g_part g_wasMany g_wasLoss g_wasValue g_wasNumber g_path g_heavyValue g_heavyTimes g_fewest g_which g_met m_n m_slots 0 m_allMany m_nodes m_partMany m_pathMany m_heavyMany m_mostMet cyI fm fl fe vv vn f av an nl nr m_slots H.size a0 a1 sl0 sl1 s4)) (cwV 1 hts gX5_told_X5_laysAll rfl rfl rfl (by decide +kernel) ⟨Nat.le_of_ble_eq_true rfl, Nat.le_of_ble_eq_true rfl⟩) ⟨fun a U g mk q => by obtain ⟨q0, q1, qP, qK, qD⟩ := q; exact ⟨q0, q1, qP, va_K.moved (u := U) (U := U.calling g mk a) (Vm.Alike.refl U.vm) qK, qD⟩, kx_rc5 hKc hPc (q0 := 0) rfl, fun U hU hW => ⟨rfl, by rw [hU], by rw [hU]; exact hPc, va_K.moved hW.alike hKc, hDc.weaken (fun _ _ _ _ => trivial)⟩⟩ rfl rfl hl.1 rfl (lv_room (Nat.le_of_ble_eq_true rfl)) dX5_told_10 ⟨Nat.le_of_ble_eq_true rfl, Nat.le_of_ble_eq_true rfl⟩) hS (fun q _ h => hFc q h) hFc (fun u t H1 locs ht hvm w_1 hB hz1 hk1 hS => ?_)
  obtain ⟨o_2, o_3, o_4, o_5, o_6, o_7, o_8, o_9, o_10, o_11, o_12⟩ := u
  dsimp only at w_1 hB
  obtain ⟨hP1, hK1, hD1⟩ := hB
  rw [ht] at hP1
  have hK1 := va_K.moved hvm.symm hK1
  have hD := hD1.weaken (fun _ q _ h => hFc q.1 h)
  have hP := hP1
  clear hP1 hD1 hK1 hk1 hz1 hFc hDc hPc hKc
  generalize H1 = H at hP hS ⊢
  have w_1 : mj_L m_slots.toNatClampNeg f o_11 o_12 o_4 o_5 o_6 o_7 o_8 m_n.toInt o_2.toInt ∧ six4 o_4 ∧ 0 ≤ o_2.toInt ∧ o_2.toInt ≤ 319 := w_1
  have hok : nodesOk o_11 o_12 o_2.toInt := fun k hk => by have := mj_L_ok w_1.1 k hk; omega
  refine lv_iload_n hx hb dX5_told_13 rfl (lv_at hl 1 rfl) ?_
  by_cases s_13 : p0.toInt = 0
  · refine lv_tableIn (tgt := 56) (off := 42) hx hb dX5_told_14 (om_161 s_13) (om_210 s_13) (by rw [s_13]; rfl) (by decide) ?_
    refine lv_aload_n hx hb dX5_told_56 rfl (lv_at hl 0 rfl) ?_
    refine va_get (D := (dC, dI)) (ci := 5) (v := .int m_n) (C := RX5) (T := TX5) (N := 30) hx hb hts hi_5 hown hK hP 0 rfl rfl 1 (by decide) hf_84 (fun _ h9 => h9) rfl dX5_told_57 ?_
    have hP9 := hP
    have hD9 := hD
    have hK9 := hK
    have n_14 := ki_nat o_2 rfl (om_10 w_1.2.2.1)
    have n_15 := ki_nat m_n rfl (om_10 a0)
    exact W.iret (v := m_n) hx hb hr (hlocks := hlocks) (fun t ht hW => ⟨⟨m_n, (o_2, o_3, o_4, o_5, o_6, o_7, o_8, o_9, o_10, o_11, o_12), rfl, ⟨⟨w_1.1, (by (try dsimp only); omega), (by (try dsimp only); omega)⟩, (Or.inl ⟨s_13, rfl⟩), w_1.2.1⟩, by rw [ht]; exact hP9, va_K.moved hW.alike hK9, hD9⟩, hS.F ht⟩) hS.2.2 dX5_told_60
  by_cases s_16 : p0.toInt = 1
  · refine lv_tableIn (tgt := 61) (off := 47) hx hb dX5_told_14 (om_163 s_16) (om_211 s_16) (by rw [s_16]; rfl) (by decide) ?_
    refine lv_aload_n hx hb dX5_told_61 rfl (lv_at hl 0 rfl) ?_
    refine va_get (D := (dC, dI)) (ci := 5) (v := .int m_slots) (C := RX5) (T := TX5) (N := 30) hx hb hts hi_5 hown hK hP 0 rfl rfl 2 (by decide) hf_13 (fun _ h9 => h9) rfl dX5_told_62 ?_
    have hP9 := hP
    have hD9 := hD
    have hK9 := hK
    have n_17 := ki_nat o_2 rfl (om_10 w_1.2.2.1)
    have n_18 := ki_nat m_n rfl (om_10 a0)
    exact W.iret (v := m_slots) hx hb hr (hlocks := hlocks) (fun t ht hW => ⟨⟨m_slots, (o_2, o_3, o_4, o_5, o_6, o_7, o_8, o_9, o_10, o_11, o_12), rfl, ⟨⟨w_1.1, (by (try dsimp only); omega), (by (try dsimp only); omega)⟩, (Or.inr (Or.inl ⟨s_16, rfl⟩)), w_1.2.1⟩, by rw [ht]; exact hP9, va_K.moved hW.alike hK9, hD9⟩, hS.F ht⟩) hS.2.2 dX5_told_65
  by_cases s_19 : p0.toInt = 2
  · refine lv_tableIn (tgt := 66) (off := 52) hx hb dX5_told_14 (om_165 s_19) (om_212 s_19) (by rw [s_19]; rfl) (by decide) ?_
    refine lv_aload_n hx hb dX5_told_66 rfl (lv_at hl 0 rfl) ?_
    refine va_get (D := (dC, dI)) (ci := 5) (v := .int o_2) (C := RX5) (T := TX5) (N := 30) hx hb hts hi_5 hown hK hP 0 rfl rfl 14 (by decide) hf_101 (fun _ h9 => h9) rfl dX5_told_67 ?_
    have hP9 := hP
    have hD9 := hD
    have hK9 := hK
    have n_20 := ki_nat o_2 rfl (om_10 w_1.2.2.1)
    have n_21 := ki_nat m_n rfl (om_10 a0)
    exact W.iret (v := o_2) hx hb hr (hlocks := hlocks) (fun t ht hW => ⟨⟨o_2, (o_2, o_3, o_4, o_5, o_6, o_7, o_8, o_9, o_10, o_11, o_12), rfl, ⟨⟨w_1.1, (by (try dsimp only); omega), (by (try dsimp only); omega)⟩, (Or.inr (Or.inr (Or.inl ⟨s_19, rfl⟩))), w_1.2.1⟩, by rw [ht]; exact hP9, va_K.moved hW.alike hK9, hD9⟩, hS.F ht⟩) hS.2.2 dX5_told_70
  by_cases s_22 : p0.toInt = 3
  · refine lv_tableIn (tgt := 71) (off := 57) hx hb dX5_told_14 (om_213 s_22) (om_214 s_22) (by rw [s_22]; rfl) (by decide) ?_
    refine lv_aload_n hx hb dX5_told_71 rfl (lv_at hl 0 rfl) ?_
    have hPc := hP.sub (ws' := [kx_5 h0 g_row m_n m_slots 0 g_many g_loss g_less g_voteValue g_voteNumber g_allValue g_allNumber o_3 g_nodeL g_nodeR o_2 g_part m_partMany g_wasMany g_wasLoss g_wasValue g_wasNumber g_path m_pathMany g_heavyValue g_heavyTimes m_heavyMany g_fewest g_which g_met m_mostMet, kx_a g_row cyI 160 f, kx_a g_nodeL cyI 320 o_11, kx_a g_nodeR cyI 320 o_12]) [0, 1, 9, 10] rfl
    have hKc := hK
    refine vp_callSi (W.runV (As := []) (rest := []) ⟨hx, hb, hml, hown, hts⟩ (c_X5_nodesWithMajority_x l dC dI h0 g_row g_many g_loss g_less g_voteValue g_voteNumber g_allValue g_allNumber g_nodeL g_nodeR g_part g_wasMany g_wasLoss g_wasValue g_wasNumber g_path g_heavyValue g_heavyTimes g_fewest g_which g_met m_n m_slots 0 o_3 o_2 m_partMany m_pathMany m_heavyMany m_mostMet cyI f o_11 o_12 w_1.2.2.1 w_1.2.2.2 hok s1) (cwV 0 hts gX5_told_X5_nodesWithMajority rfl rfl rfl (by decide +kernel) ⟨Nat.le_of_ble_eq_true rfl, Nat.le_of_ble_eq_true rfl⟩) ⟨fun a U g mk q => by obtain ⟨q0, qP, qK⟩ := q; exact ⟨q0, qP, va_K.moved (u := U) (U := U.calling g mk a) (Vm.Alike.refl U.vm) qK⟩, kx_rc5 hKc hPc (q0 := 0) rfl, fun U hU hW => ⟨rfl, by rw [hU]; exact hPc, va_K.moved hW.alike hKc⟩⟩ rfl rfl hl.1 rfl (lv_room (Nat.le_of_ble_eq_true rfl)) dX5_told_72 ⟨Nat.le_of_ble_eq_true rfl, Nat.le_of_ble_eq_true rfl⟩) (fun r_23 w_23 => ?_)
    have w_23 : r_23.toInt = (mj_nm f o_11 o_12 o_2.toNatClampNeg : Int) := w_23
    have hP9 := hP
    have hD9 := hD
    have hK9 := hK
    have n_24 := ki_nat o_2 rfl (om_10 w_1.2.2.1)
    have n_25 := ki_nat m_n rfl (om_10 a0)
    exact W.iret (v := r_23) hx hb hr (hlocks := hlocks) (fun t ht hW => ⟨⟨r_23, (o_2, o_3, o_4, o_5, o_6, o_7, o_8, o_9, o_10, o_11, o_12), rfl, ⟨⟨w_1.1, (by (try dsimp only); omega), (by (try dsimp only); omega)⟩, (Or.inr (Or.inr (Or.inr (Or.inl ⟨s_22, w_23⟩)))), w_1.2.1⟩, by rw [ht]; exact hP9, va_K.moved hW.alike hK9, hD9⟩, hS.F ht⟩) hS.2.2 dX5_told_75
  by_cases s_26 : p0.toInt = 4
  · refine lv_tableIn (tgt := 76) (off := 62) hx hb dX5_told_14 (om_215 s_26) (om_216 s_26) (by rw [s_26]; rfl) (by decide) ?_
    refine lv_aload_n hx hb dX5_told_76 rfl (lv_at hl 0 rfl) ?_
    refine lv_iconst (v := 0) hx hb dX5_told_77 (by decide) ?_
    refine lv_aload_n hx hb dX5_told_78 rfl (lv_at hl 0 rfl) ?_
    refine va_get (D := (dC, dI)) (ci := 5) (v := .int m_n) (C := RX5) (T := TX5) (N := 30) hx hb hts hi_5 hown hK hP 0 rfl rfl 1 (by decide) hf_84 (fun _ h9 => h9) rfl dX5_told_79 ?_
    have hPc := hP.sub (ws' := [kx_5 h0 g_row m_n m_slots 0 g_many g_loss g_less g_voteValue g_voteNumber g_allValue g_allNumber o_3 g_nodeL g_nodeR o_2 g_part m_partMany g_wasMany g_wasLoss g_wasValue g_wasNumber g_path m_pathMany g_heavyValue g_heavyTimes m_heavyMany g_fewest g_which g_met m_mostMet]) [0] rfl
    have hKc := hK.sub (tys' := []) [] rfl
    have k_27 : (0 : Int32).toInt = 0 := rfl
    refine vp_callSi (W.runV (As := [.int 0, .int m_n]) (rest := []) ⟨hx, hb, hml, hown, hts⟩ (c_X5_deep_x8 l dC dI h0 g_row g_many g_loss g_less g_voteValue g_voteNumber g_allValue g_allNumber g_nodeL g_nodeR g_part g_wasMany g_wasLoss g_wasValue g_wasNumber g_path g_heavyValue g_heavyTimes g_fewest g_which g_met m_n m_slots 0 o_3 o_2 m_partMany m_pathMany m_heavyMany m_mostMet 0 m_n om_35 a0 a1 (om_364 a1)) (cwV 2 hts gX5_told_X5_deep rfl rfl rfl (by decide +kernel) ⟨Nat.le_of_ble_eq_true rfl, Nat.le_of_ble_eq_true rfl⟩) ⟨fun a U g mk q => by obtain ⟨q0, qP, qK⟩ := q; exact ⟨q0, qP, va_K.moved (u := U) (U := U.calling g mk a) (Vm.Alike.refl U.vm) qK⟩, kx_rc5 hKc hPc (q0 := 0) rfl, fun U hU hW => ⟨rfl, by rw [hU]; exact hPc, va_K.moved hW.alike hKc⟩⟩ rfl rfl hl.1 rfl (lv_room (Nat.le_of_ble_eq_true rfl)) dX5_told_82 ⟨Nat.le_of_ble_eq_true rfl, Nat.le_of_ble_eq_true rfl⟩) (fun r_28 w_28 => ?_)
    have w_28 : r_28.toInt = (mj_dp 8 (m_n.toInt - 0).toNat : Int) ∧ 0 ≤ r_28.toInt ∧ r_28.toInt ≤ 9 := w_28
    have hP9 := hP
    have hD9 := hD
    have hK9 := hK
    have n_29 := ki_nat o_2 rfl (om_10 w_1.2.2.1)
    have n_30 := ki_nat m_n rfl (om_10 a0)
    have k_0 : (0 : Int32).toInt = 0 := rfl
    exact W.iret (v := r_28) hx hb hr (hlocks := hlocks) (fun t ht hW => ⟨⟨r_28, (o_2, o_3, o_4, o_5, o_6, o_7, o_8, o_9, o_10, o_11, o_12), rfl, ⟨⟨w_1.1, (by (try dsimp only); omega), (by (try dsimp only); omega)⟩, (Or.inr (Or.inr (Or.inr (Or.inr (Or.inl ⟨s_26, w_28.1.trans (congrArg (fun z : Nat => ((mj_dp 8 z : Nat) : Int)) (by omega))⟩))))), w_1.2.1⟩, by rw [ht]; exact hP9, va_K.moved hW.alike hK9, hD9⟩, hS.F ht⟩) hS.2.2 dX5_told_85
  by_cases s_31 : p0.toInt = 5
  · refine lv_tableIn (tgt := 86) (off := 72) hx hb dX5_told_14 (om_217 s_31) (om_218 s_31) (by rw [s_31]; rfl) (by decide) ?_
    refine lv_aload_n hx hb dX5_told_86 rfl (lv_at hl 0 rfl) ?_
    refine va_get (D := (dC, dI)) (ci := 5) (v := .int m_n) (C := RX5) (T := TX5) (N := 30) hx hb hts hi_5 hown hK hP 0 rfl rfl 1 (by decide) hf_84 (fun _ h9 => h9) rfl dX5_told_87 ?_
    refine lv_if_ne (tgt := 97) hx hb dX5_told_90 (by decide) (fun c_32 => ?_) (fun c_32 => ?_)
    · have i_32 : ¬ m_n.toInt = 0 := kc_ne c_32
      refine lv_aload_n hx hb dX5_told_97 rfl (lv_at hl 0 rfl) ?_
      refine va_get (D := (dC, dI)) (ci := 5) (v := .ref g_loss) (C := RX5) (T := TX5) (N := 30) hx hb hts hi_5 hown hK hP 0 rfl rfl 5 (by decide) hf_20 (fun _ h9 => h9) rfl dX5_told_98 ?_
      refine lv_iconst (v := 0) hx hb dX5_told_101 (by decide) ?_
      refine va_iald hx hb hK hP 3 0 rfl rfl (ki_inl (by decide)) dX5_told_102 ?_
      refine lv_topi (fun y_33 ey_33 => ?_)
      have j_33 : y_33.toInt = (o_5 (0 : Int32).toNatClampNeg).toInt := congrArg Int32.toInt ey_33
      have hP9 := hP
      have hD9 := hD
      have hK9 := hK
      have n_34 := ki_nat o_2 rfl (om_10 w_1.2.2.1)
      have n_35 := ki_nat m_n rfl (om_10 a0)
      exact W.iret (v := y_33) hx hb hr (hlocks := hlocks) (fun t ht hW => ⟨⟨y_33, (o_2, o_3, o_4, o_5, o_6, o_7, o_8, o_9, o_10, o_11, o_12), rfl, ⟨⟨w_1.1, (by (try dsimp only); omega), (by (try dsimp only); omega)⟩, (Or.inr (Or.inr (Or.inr (Or.inr (Or.inr (Or.inr (Or.inl ⟨s_31, (by (try dsimp only); omega), ey_33⟩))))))), w_1.2.1⟩, by rw [ht]; exact hP9, va_K.moved hW.alike hK9, hD9⟩, hS.F ht⟩) hS.2.2 dX5_told_103
    · have i_32 : m_n.toInt = 0 := kc_eq c_32
      refine lv_iconst (v := 0) hx hb dX5_told_93 (by decide) ?_
      refine lv_goto (tgt := 103) hx hb dX5_told_94 (by decide) ?_
      have hP9 := hP
      have hD9 := hD
      have hK9 := hK
      have n_36 := ki_nat o_2 rfl (om_10 w_1.2.2.1)
      have n_37 := ki_nat m_n rfl (om_10 a0)
      exact W.iret (v := 0) hx hb hr (hlocks := hlocks) (fun t ht hW => ⟨⟨0, (o_2, o_3, o_4, o_5, o_6, o_7, o_8, o_9, o_10, o_11, o_12), rfl, ⟨⟨w_1.1, (by (try dsimp only); omega), (by (try dsimp only); omega)⟩, (Or.inr (Or.inr (Or.inr (Or.inr (Or.inr (Or.inl ⟨s_31, (by (try dsimp only); omega), rfl⟩)))))), w_1.2.1⟩, by rw [ht]; exact hP9, va_K.moved hW.alike hK9, hD9⟩, hS.F ht⟩) hS.2.2 dX5_told_103
  by_cases s_38 : p0.toInt = 6
  · refine lv_tableIn (tgt := 104) (off := 90) hx hb dX5_told_14 (om_219 s_38) (om_220 s_38) (by rw [s_38]; rfl) (by decide) ?_
    refine lv_iconst (v := 0) hx hb dX5_told_104 (by decide) ?_
    refine lv_istore_n (lv' := [(2, .int 0), (0, .ref h0), (1, .int p0)]) hx hb dX5_told_105 rfl hl (by decide) rfl (fun ls hl => ?_)
    refine lv_iconst (v := 0) hx hb dX5_told_106 (by decide) ?_
    refine lv_istore_n (lv' := [(3, .int 0), (2, .int 0), (0, .ref h0), (1, .int p0)]) hx hb dX5_told_107 rfl hl (by decide) rfl (fun ls hl => ?_)
    have LP1 : ∀ (n : Nat) (i : Int32) (sm : Int32), (0 ≤ i.toInt) → (sm = mj_tot o_5 0 i.toNatClampNeg) → (i.toInt ≤ o_2.toInt) → (o_2.toInt - i.toInt).toNat < n → ∀ (H : Heap) (locs : List Loc), va_P (dC, dI) vwCl [kx_5 h0 g_row m_n m_slots 0 g_many g_loss g_less g_voteValue g_voteNumber g_allValue g_allNumber o_3 g_nodeL g_nodeR o_2 g_part m_partMany g_wasMany g_wasLoss g_wasValue g_wasNumber g_path m_pathMany g_heavyValue g_heavyTimes m_heavyMany g_fewest g_which g_met m_mostMet, kx_a g_row cyI 160 f, kx_a g_many cyI 324 o_4, kx_a g_loss cyI 324 o_5, kx_a g_less cyI 324 o_6, kx_a g_voteValue cyI 1944 o_7, kx_a g_voteNumber cyI 1944 o_8, kx_a g_allValue cyI 12 o_9, kx_a g_allNumber cyI 12 o_10, kx_a g_nodeL cyI 320 o_11, kx_a g_nodeR cyI 320 o_12] H → va_D A [kx_5 h0 g_row m_n m_slots 0 g_many g_loss g_less g_voteValue g_voteNumber g_allValue g_allNumber o_3 g_nodeL g_nodeR o_2 g_part m_partMany g_wasMany g_wasLoss g_wasValue g_wasNumber g_path m_pathMany g_heavyValue g_heavyTimes m_heavyMany g_fewest g_which g_met m_mostMet, kx_a g_row cyI 160 f, kx_a g_many cyI 324 o_4, kx_a g_loss cyI 324 o_5, kx_a g_less cyI 324 o_6, kx_a g_voteValue cyI 1944 o_7, kx_a g_voteNumber cyI 1944 o_8, kx_a g_allValue cyI 12 o_9, kx_a g_allNumber cyI 12 o_10, kx_a g_nodeL cyI 320 o_11, kx_a g_nodeR cyI 320 o_12] → va_S A s.heap H locs → ∀ (ls : Array Slot), lv_has ls 4 [(3, .int i), (2, .int sm), (0, .ref h0), (1, .int p0)] → W p l e (headSpec wsX5_told ({ frames := 12, cells := 0, slots := 0, locals := 540 })).room s m ([.ref h0, .int p0] : List Value).toArray below meth c H locs 0 0 (MQ below (va_Qi (fun (r : Int32) (u : Int32 × Int32 × (Nat → Int32) × (Nat → Int32) × (Nat → Int32) × (Nat → Int32) × (Nat → Int32) × (Nat → Int32) × (Nat → Int32) × (Nat → Int32) × (Nat → Int32)) => (mj_L m_slots.toNatClampNeg f u.2.2.2.2.2.2.2.2.2.1 u.2.2.2.2.2.2.2.2.2.2 u.2.2.1 u.2.2.2.1 u.2.2.2.2.1 u.2.2.2.2.2.1 u.2.2.2.2.2.2.1 m_n.toInt u.1.toInt ∧ 0 ≤ u.1.toInt ∧ u.1.toInt ≤ 319) ∧ mj_tld f u.2.2.2.2.2.2.2.2.2.1 u.2.2.2.2.2.2.2.2.2.2 u.2.2.2.1 u.1 m_n m_slots p0.toInt r ∧ six4 u.2.2.1) (fun (u : Int32 × Int32 × (Nat → Int32) × (Nat → Int32) × (Nat → Int32) × (Nat → Int32) × (Nat → Int32) × (Nat → Int32) × (Nat → Int32) × (Nat → Int32) × (Nat → Int32)) (t : State) => va_P (dC, dI) vwCl [kx_5 h0 g_row m_n m_slots 0 g_many g_loss g_less g_voteValue g_voteNumber g_allValue g_allNumber u.2.1 g_nodeL g_nodeR u.1 g_part m_partMany g_wasMany g_wasLoss g_wasValue g_wasNumber g_path m_pathMany g_heavyValue g_heavyTimes m_heavyMany g_fewest g_which g_met m_mostMet, kx_a g_row cyI 160 f, kx_a g_many cyI 324 u.2.2.1, kx_a g_loss cyI 324 u.2.2.2.1, kx_a g_less cyI 324 u.2.2.2.2.1, kx_a g_voteValue cyI 1944 u.2.2.2.2.2.1, kx_a g_voteNumber cyI 1944 u.2.2.2.2.2.2.1, kx_a g_allValue cyI 12 u.2.2.2.2.2.2.2.1, kx_a g_allNumber cyI 12 u.2.2.2.2.2.2.2.2.1, kx_a g_nodeL cyI 320 u.2.2.2.2.2.2.2.2.2.1, kx_a g_nodeR cyI 320 u.2.2.2.2.2.2.2.2.2.2] t.heap ∧ va_K (dC, dI) vwCl [(cyI, .int)] t ∧ va_D A [kx_5 h0 g_row m_n m_slots 0 g_many g_loss g_less g_voteValue g_voteNumber g_allValue g_allNumber u.2.1 g_nodeL g_nodeR u.1 g_part m_partMany g_wasMany g_wasLoss g_wasValue g_wasNumber g_path m_pathMany g_heavyValue g_heavyTimes m_heavyMany g_fewest g_which g_met m_mostMet, kx_a g_row cyI 160 f, kx_a g_many cyI 324 u.2.2.1, kx_a g_loss cyI 324 u.2.2.2.1, kx_a g_less cyI 324 u.2.2.2.2.1, kx_a g_voteValue cyI 1944 u.2.2.2.2.2.1, kx_a g_voteNumber cyI 1944 u.2.2.2.2.2.2.1, kx_a g_allValue cyI 12 u.2.2.2.2.2.2.2.1, kx_a g_allNumber cyI 12 u.2.2.2.2.2.2.2.2.1, kx_a g_nodeL cyI 320 u.2.2.2.2.2.2.2.2.2.1, kx_a g_nodeR cyI 320 u.2.2.2.2.2.2.2.2.2.2]) A) ([.ref h0, .int p0] : List Value).toArray s 0 0 A) (F0 m 108 ls []) := by
      intro n
      induction n with
      | zero => intro i sm LP1_h0 LP1_h1 LP1_h2 hn; exact absurd hn (Nat.not_lt_zero _)
      | succ n ih1 =>
        intro i sm LP1_h0 LP1_h1 LP1_h2 hn1 H locs hP hD hS ls hl
        have n_i := ki_nat i rfl (om_10 LP1_h0)
        refine lv_iload_n hx hb dX5_told_108 rfl (lv_at hl 0 rfl) ?_
        refine lv_aload_n hx hb dX5_told_109 rfl (lv_at hl 2 rfl) ?_
        refine va_get (D := (dC, dI)) (ci := 5) (v := .int o_2) (C := RX5) (T := TX5) (N := 30) hx hb hts hi_5 hown hK hP 0 rfl rfl 14 (by decide) hf_101 (fun _ h9 => h9) rfl dX5_told_110 ?_
        refine lv_icmp_ge (tgt := 131) hx hb dX5_told_113 (by decide) (fun c_39 => ?_) (fun c_39 => ?_)
        · have i_39 : o_2.toInt ≤ i.toInt := kc_le c_39
          refine lv_iload_n hx hb dX5_told_131 rfl (lv_at hl 1 rfl) ?_
          have hP9 := hP
          have hD9 := hD
          have hK9 := hK
          have n_40 := ki_nat o_2 rfl (om_10 w_1.2.2.1)
          have n_41 := ki_nat m_n rfl (om_10 a0)
          exact W.iret (v := sm) hx hb hr (hlocks := hlocks) (fun t ht hW => ⟨⟨sm, (o_2, o_3, o_4, o_5, o_6, o_7, o_8, o_9, o_10, o_11, o_12), rfl, ⟨⟨w_1.1, (by (try dsimp only); omega), (by (try dsimp only); omega)⟩, (Or.inr (Or.inr (Or.inr (Or.inr (Or.inr (Or.inr (Or.inr (Or.inl ⟨s_38, (by (try dsimp only); rw [show o_2.toNatClampNeg = i.toNatClampNeg by omega]; exact LP1_h1)⟩)))))))), w_1.2.1⟩, by rw [ht]; exact hP9, va_K.moved hW.alike hK9, hD9⟩, hS.F ht⟩) hS.2.2 dX5_told_132
        · have i_39 : i.toInt < o_2.toInt := kc_nle c_39
          refine lv_iload_n hx hb dX5_told_116 rfl (lv_at hl 1 rfl) ?_
          refine lv_aload_n hx hb dX5_told_117 rfl (lv_at hl 2 rfl) ?_
          refine va_get (D := (dC, dI)) (ci := 5) (v := .ref g_loss) (C := RX5) (T := TX5) (N := 30) hx hb hts hi_5 hown hK hP 0 rfl rfl 5 (by decide) hf_20 (fun _ h9 => h9) rfl dX5_told_118 ?_
          refine lv_iload_n hx hb dX5_told_121 rfl (lv_at hl 0 rfl) ?_
          refine va_iald hx hb hK hP 3 0 rfl rfl (ki_in (om_10 LP1_h0) (om_545 w_1.2.2.2 LP1_h2)) dX5_told_122 ?_
          refine lv_topi (fun y_42 ey_42 => ?_)
          have j_42 : y_42.toInt = (o_5 i.toNatClampNeg).toInt := congrArg Int32.toInt ey_42
          refine lv_iadd hx hb dX5_told_123 ?_
          refine lv_topi (fun y_43 ey_43 => ?_)
          refine lv_istore_n (lv' := [(2, .int y_43), (3, .int i), (0, .ref h0), (1, .int p0)]) hx hb dX5_told_124 rfl hl (by decide) rfl (fun ls hl => ?_)
          obtain ⟨x_44, ex_44⟩ : ∃ y : Int32, y = i + 1 := ⟨_, rfl⟩
          have i_44 : x_44.toInt = i.toInt + 1 := ki_add ex_44 rfl rfl (om_13 LP1_h0) (om_370 w_1.2.2.2 LP1_h2)
          refine lv_iinc (v := x_44) (lv' := [(3, .int x_44), (2, .int y_43), (0, .ref h0), (1, .int p0)]) hx hb dX5_told_125 hl (k := 1) rfl (by rw [ex_44]; rfl) (by decide) rfl (fun ls hl => ?_)
          refine lv_goto (tgt := 108) hx hb dX5_told_128 (by decide) ?_
          have n_45 := ki_nat x_44 rfl (om_34 LP1_h0 i_44)
          exact ih1 x_44 y_43 (om_34 LP1_h0 i_44) (by rw [ey_43, show x_44.toNatClampNeg = i.toNatClampNeg + 1 by omega, ey_42]; show sm + o_5 i.toNatClampNeg = mj_tot o_5 0 i.toNatClampNeg + o_5 (0 + i.toNatClampNeg); rw [← LP1_h1, Nat.zero_add]) (om_54 i_39 i_44) (om_mu hn1 (om_5 i_44) (om_6 i_39)) _ _ hP hD hS ls (lv_sub hl [0, 1, 2, 3] rfl)
    have k_46 : (0 : Int32).toInt = 0 := rfl
    have k_47 : (0 : Int32).toInt = 0 := rfl
    exact LP1 ((o_2.toInt - 0 : Int).toNat + 1) 0 0 om_35 rfl (om_10 w_1.2.2.1) (Nat.lt_succ_self _) _ _ hP hD hS ls (lv_sub hl [0, 1, 2, 3] rfl)
  refine lv_tableOut (tgt := 133) hx hb dX5_told_14 (by omega) (by decide) ?_
  refine lv_iconst (v := (-1)) hx hb dX5_told_133 (by decide) ?_
  have hP9 := hP
  have hD9 := hD
  have hK9 := hK
  have n_48 := ki_nat o_2 rfl (om_10 w_1.2.2.1)
  have n_49 := ki_nat m_n rfl (om_10 a0)
  exact W.iret (v := (-1)) hx hb hr (hlocks := hlocks) (fun t ht hW => ⟨⟨(-1), (o_2, o_3, o_4, o_5, o_6, o_7, o_8, o_9, o_10, o_11, o_12), rfl, ⟨⟨w_1.1, (by (try dsimp only); omega), (by (try dsimp only); omega)⟩, (Or.inr (Or.inr (Or.inr (Or.inr (Or.inr (Or.inr (Or.inr (Or.inr ⟨(by (try dsimp only); omega), rfl⟩)))))))), w_1.2.1⟩, by rw [ht]; exact hP9, va_K.moved hW.alike hK9, hD9⟩, hS.F ht⟩) hS.2.2 dX5_told_134



def R_law : String := "MajorityIndexLaw"
def lw_P (b : Addr) (xs : List Int32) (args : Array Value) (s : State) : Prop := args = #[.ref b] ∧ s.IntsAt b xs ∧ xs.length ≤ 4096 ∧ (Jvm.Cond.and given_1 narrow_1).before args s = true
def lw_Q (_ : Array Value) (s : State) (o : Outcome) (t : State) : Prop := o = .returned (some (.int 1)) ∧ Framed s o t [] 601024 7293034
def lw_Z (below : List Frame) (a : Array Value) (s : State) : State → Prop := fun t => ∃ o, t.status = .running ∧ Ended t below o ∧ lw_Q a s o t
/-- the law's own end, with 1 on the stack, nothing written that was there before, its room as the claim has it -/
theorem lw_ret {p : Program} {l : Launch} {e : Env} {s : State} {m : MethodId} {below : List Frame} {meth : Method} {c : Code} {b : Nat} (hx : p.tables.exec = Jvm.exec) (hb : c.code = code) (hr : meth.sig.returnType = ret) (hlocks : meth.locks = false) {pc : Nat} {H : Heap} {ls : Array Slot} (hdg : decode code pc = .ok (.ireturn, 1)) : W p l e room_1 s m #[Value.ref b] below meth c H [] 601024 7293034 (lw_Z below #[Value.ref b] s) (F0 m pc ls [.int 1]) := by
  intro T hT X
  obtain ⟨fs, hret, hrun, hended, hW, hframe⟩ := X.leave (v := some (.int 1)) (hlocks := hlocks) (fun h => by rw [hr] at h; cases h)
  have hmeth' : T.vm.method? m = some meth := X.method'
  refine ⟨T.setFrames fs, ?_, .returned (some (.int 1)), hrun, hended, rfl, ⟨_, rfl⟩, hW, hframe⟩
  jvm_step X.here [X.here.top, hx, hb, hdg, hmeth', hr, ret, narrow_b1]
  (try refine ⟨rfl, ?_⟩); (try refine ⟨rfl, ?_⟩)
  first | (intro acts; rw [hret _ acts rfl rfl rfl]) | rw [hret _ _ rfl rfl rfl]
  exact Steps.refl _
/-- what holds at the law's entry: the machine, the code, the tables' words (any of lw_tbl by 'hts w (by decide +kernel)'), the script of L ints xs at the cell b, what the Statement gives of the start (any of its parts by flat_of_before) -/
def lw_At (p : Program) (s : State) (m : MethodId) (meth : Method) (c : Code) (b L : Nat) (xs : Nat → Int32) : Prop :=
  p.tables.exec = Jvm.exec ∧ c.code = code ∧ meth.sig.returnType = ret ∧ c.maxLocals = 7 ∧ s.vm.findClass R_law = some m.cls ∧ (∀ w ∈ lw_tbl, w.before #[Value.ref b] s = true) ∧ va_X b L xs s s.heap ∧ b < s.heap.size ∧ meth.locks = false ∧ (Jvm.Cond.and given_1 narrow_1).before #[Value.ref b] s = true

/-- the head of the law's loop before its j-th call: any state that the invariant holds of -/
def lw_G (p : Program) (l : Launch) (e : Env) (s : State) (m : MethodId) (below : List Frame) (meth : Method) (c : Code) (b : Nat) (dC : Nat → ClassId) (dI : Nat → Nat → Nat) (cyI cyL : ClassId) (xm_ xq_t xq_row xq_cell xq_from xq_to xq_size xq_lossOf xq_lessBy xq_value xq_number xq_joined xj_v xj_n xh0 xa_v xa_n xk0 xkv xkn xt_ xt_k xt_o xw_ xz_ yh0 yg_row yg_many yg_loss yg_less yg_voteValue yg_voteNumber yg_allValue yg_allNumber yg_nodeL yg_nodeR yg_part yg_wasMany yg_wasLoss yg_wasValue yg_wasNumber yg_path yg_heavyValue yg_heavyTimes yg_fewest yg_which yg_met q_o : Nat) (j : Nat) : Prop := ∀ (len slots old nodes here js jl je vs lo le sb lb eb tk mo u_thrown u_allMany u_nodes u_partMany u_pathMany u_heavyMany u_mostMet : Int32) (f ff ft fs fo fe uv un jv jn fv fn gb nb fk fq fw fz u_many u_loss u_less u_voteValue u_voteNumber u_allValue u_allNumber u_nodeL u_nodeR u_part u_wasMany u_wasLoss u_wasValue u_wasNumber u_path u_heavyValue u_heavyTimes u_fewest u_which u_met : Nat → Int32) (ol : Nat → Int64) (ix : Int32), ix.toInt = 8 * (j : Int) → (0 ≤ len.toInt) → (len.toInt ≤ 160) → (1 ≤ slots.toInt) → (slots.toInt ≤ 6) → (shorts f) → (sixes fs) → (laidX old slots here f ff ft fs fo fe uv un nodes len) → (six4 u_many) → (parts320 u_part) → ∀ (H : Heap) (locs : List Loc) (ls : Array Slot), va_P (dC, dI) vwCl [kx_4 xm_ xq_row xq_t xt_ xh0 xk0 xw_ xz_ slots old, kx_2 xq_t xq_row xq_joined xq_from xq_to xq_size xq_lossOf xq_lessBy xq_value xq_number nodes here, kx_0 xq_row xq_cell len, kx_a xq_cell cyI 160 f, kx_a xq_from cyI 319 ff, kx_a xq_to cyI 319 ft, kx_a xq_size cyI 319 fs, kx_a xq_lossOf cyI 319 fo, kx_a xq_lessBy cyI 319 fe, kx_a xq_value cyI 1914 uv, kx_a xq_number cyI 1914 un, kx_3 xq_joined xj_v xj_n js jl je, kx_a xj_v cyI 12 jv, kx_a xj_n cyI 12 jn, kx_3 xh0 xa_v xa_n vs lo le, kx_a xa_v cyI 12 fv, kx_a xa_n cyI 12 fn, kx_3 xk0 xkv xkn sb lb eb, kx_a xkv cyI 12 gb, kx_a xkn cyI 12 nb, kx_1 xt_ xt_k xt_o tk mo, kx_a xt_k cyI 160 fk, kx_a xt_o cyI 160 fq, kx_a xw_ cyI 160 fw, kx_a xz_ cyI 161 fz, kx_5 yh0 yg_row len slots u_thrown yg_many yg_loss yg_less yg_voteValue yg_voteNumber yg_allValue yg_allNumber u_allMany yg_nodeL yg_nodeR u_nodes yg_part u_partMany yg_wasMany yg_wasLoss yg_wasValue yg_wasNumber yg_path u_pathMany yg_heavyValue yg_heavyTimes u_heavyMany yg_fewest yg_which yg_met u_mostMet, kx_a yg_row cyI 160 f, kx_a yg_many cyI 324 u_many, kx_a yg_loss cyI 324 u_loss, kx_a yg_less cyI 324 u_less, kx_a yg_voteValue cyI 1944 u_voteValue, kx_a yg_voteNumber cyI 1944 u_voteNumber, kx_a yg_allValue cyI 12 u_allValue, kx_a yg_allNumber cyI 12 u_allNumber, kx_a yg_nodeL cyI 320 u_nodeL, kx_a yg_nodeR cyI 320 u_nodeR, kx_a yg_part cyI 320 u_part, kx_a yg_wasMany cyI 320 u_wasMany, kx_a yg_wasLoss cyI 320 u_wasLoss, kx_a yg_wasValue cyI 1920 u_wasValue, kx_a yg_wasNumber cyI 1920 u_wasNumber, kx_a yg_path cyI 12 u_path, kx_a yg_heavyValue cyI 160 u_heavyValue, kx_a yg_heavyTimes cyI 160 u_heavyTimes, kx_a yg_fewest cyI 161 u_fewest, kx_a yg_which cyI 160 u_which, kx_a yg_met cyI 160 u_met, (q_o, .inl (cyL, 1, .inr (.inl ol)))] H → va_D (fun q : Nat => s.heap.size ≤ q) [kx_4 xm_ xq_row xq_t xt_ xh0 xk0 xw_ xz_ slots old, kx_2 xq_t xq_row xq_joined xq_from xq_to xq_size xq_lossOf xq_lessBy xq_value xq_number nodes here, kx_0 xq_row xq_cell len, kx_a xq_cell cyI 160 f, kx_a xq_from cyI 319 ff, kx_a xq_to cyI 319 ft, kx_a xq_size cyI 319 fs, kx_a xq_lossOf cyI 319 fo, kx_a xq_lessBy cyI 319 fe, kx_a xq_value cyI 1914 uv, kx_a xq_number cyI 1914 un, kx_3 xq_joined xj_v xj_n js jl je, kx_a xj_v cyI 12 jv, kx_a xj_n cyI 12 jn, kx_3 xh0 xa_v xa_n vs lo le, kx_a xa_v cyI 12 fv, kx_a xa_n cyI 12 fn, kx_3 xk0 xkv xkn sb lb eb, kx_a xkv cyI 12 gb, kx_a xkn cyI 12 nb, kx_1 xt_ xt_k xt_o tk mo, kx_a xt_k cyI 160 fk, kx_a xt_o cyI 160 fq, kx_a xw_ cyI 160 fw, kx_a xz_ cyI 161 fz, kx_5 yh0 yg_row len slots u_thrown yg_many yg_loss yg_less yg_voteValue yg_voteNumber yg_allValue yg_allNumber u_allMany yg_nodeL yg_nodeR u_nodes yg_part u_partMany yg_wasMany yg_wasLoss yg_wasValue yg_wasNumber yg_path u_pathMany yg_heavyValue yg_heavyTimes u_heavyMany yg_fewest yg_which yg_met u_mostMet, kx_a yg_row cyI 160 f, kx_a yg_many cyI 324 u_many, kx_a yg_loss cyI 324 u_loss, kx_a yg_less cyI 324 u_less, kx_a yg_voteValue cyI 1944 u_voteValue, kx_a yg_voteNumber cyI 1944 u_voteNumber, kx_a yg_allValue cyI 12 u_allValue, kx_a yg_allNumber cyI 12 u_allNumber, kx_a yg_nodeL cyI 320 u_nodeL, kx_a yg_nodeR cyI 320 u_nodeR, kx_a yg_part cyI 320 u_part, kx_a yg_wasMany cyI 320 u_wasMany, kx_a yg_wasLoss cyI 320 u_wasLoss, kx_a yg_wasValue cyI 1920 u_wasValue, kx_a yg_wasNumber cyI 1920 u_wasNumber, kx_a yg_path cyI 12 u_path, kx_a yg_heavyValue cyI 160 u_heavyValue, kx_a yg_heavyTimes cyI 160 u_heavyTimes, kx_a yg_fewest cyI 161 u_fewest, kx_a yg_which cyI 160 u_which, kx_a yg_met cyI 160 u_met, (q_o, .inl (cyL, 1, .inr (.inl ol)))] → va_S (fun q : Nat => s.heap.size ≤ q) s.heap H locs → lv_has ls 7 [(4, .int ix), (3, .ref q_o), (2, .ref yh0), (1, .ref xm_), (0, .ref b)] → W p l e room_1 s m #[Value.ref b] below meth c H locs (60 + 2 * j) (20000 + 12 * j) (lw_Z below #[Value.ref b] s) (F0 m 23 ls [])
theorem lw_fit {x y : Nat} (hx : x ≤ 2000) (hy : y ≤ 60000) : x ≤ room_1.cells ∧ y ≤ room_1.slots := ⟨Nat.le_trans hx (Nat.le_of_ble_eq_true rfl), Nat.le_trans hy (Nat.le_of_ble_eq_true rfl)⟩
theorem lw_fitJ {j L x y : Nat} (hj : 8 * j + 8 ≤ L) (hL : L ≤ 4096) (hx : x ≤ 900) (hy : y ≤ 30000) : 60 + 2 * j + x ≤ room_1.cells ∧ 20000 + 12 * j + y ≤ room_1.slots := lw_fit (by omega) (by omega)
theorem lw_fitK {j L k n x y : Nat} (hj : 8 * j + 8 ≤ L) (hL : L ≤ 4096) (hx : k + x ≤ 900) (hy : n + y ≤ 30000) : 60 + 2 * j + k + x ≤ room_1.cells ∧ 20000 + 12 * j + n + y ≤ room_1.slots := lw_fit (by omega) (by omega)
theorem lw_wdC {j k : Nat} (h : k ≤ 2) : 60 + 2 * j + k ≤ 60 + 2 * (j + 1) := by omega
theorem lw_wdS {j k : Nat} (h : k ≤ 12) : 20000 + 12 * j + k ≤ 20000 + 12 * (j + 1) := by omega
theorem lw_jI {j L : Nat} (h : 8 * j + 8 ≤ L) : 8 * (j : Int) + 8 ≤ (L : Int) := by omega
theorem lw_LI {L : Nat} (h : L ≤ 4096) : (L : Int) ≤ 4096 := by omega
theorem lw_tl {x a b : Int} (h : x = a) (h2 : ¬ a < b) : ¬ x < b := h ▸ h2
theorem lw_th {x a b : Int} (h : x = a) (h2 : ¬ b < a) : ¬ b < x := h ▸ h2
theorem ki_ofNat {L : Nat} (h : L ≤ 4096) : (Int32.ofNat L).toInt = (L : Int) := Int32.toInt_ofNat_of_lt (by omega)

theorem laidX_new {old old2 slots slots2 here nodes len len2 : Int32} {f f2 ff ft fs fo fe uv un : Nat → Int32} (h : laidX old slots here f ff ft fs fo fe uv un nodes len) (e : old2 = 1 ∨ (old2 = old ∧ len2 = len ∧ f2 = f ∧ slots2 = slots)) : laidX old2 slots2 here f2 ff ft fs fo fe uv un nodes len2 := by
  rcases e with e | ⟨e1, e2, e3, e4⟩
  · subst e
    intro h0
    exact absurd h0 (by decide)
  · subst e1; subst e2; subst e3; subst e4
    exact h

theorem om_ix {x i : Int} {j : Nat} (h : x = i + 8) (h2 : i = 8 * (j : Int)) : x = 8 * ((j + 1 : Nat) : Int) := by omega
theorem om_568 {x0 : Int} {x1 : Int} (h0 : x0 = 8 * x1) (h1 : 0 ≤ x1) : - 2147483648 ≤ x0 + 1 := by omega
theorem om_569 {x0 : Int} {x1 : Int} {x2 : Int} (h0 : x0 = 8 * x1) (h1 : 8 * x1 + 8 ≤ x2) (h2 : x2 ≤ 4096) : x0 + 1 ≤ 2147483647 := by omega
theorem om_570 {x0 : Int} {x1 : Int} {x2 : Int} (h0 : x0 = 8 * x1) (h1 : 0 ≤ x1) (h2 : x2 = x0 + 1) : 0 ≤ x2 := by omega
theorem om_571 {x0 : Int} {x1 : Int} {x2 : Int} {x3 : Int} (h0 : x0 = 8 * x1) (h1 : 8 * x1 + 8 ≤ x2) (h2 : x3 = x0 + 1) : x3 < x2 := by omega
theorem om_572 {x0 : Int} {x1 : Int} (h0 : x0 = 8 * x1) (h1 : 0 ≤ x1) : - 2147483648 ≤ x0 + 2 := by omega
theorem om_573 {x0 : Int} {x1 : Int} {x2 : Int} (h0 : x0 = 8 * x1) (h1 : 8 * x1 + 8 ≤ x2) (h2 : x2 ≤ 4096) : x0 + 2 ≤ 2147483647 := by omega
theorem om_574 {x0 : Int} {x1 : Int} {x2 : Int} (h0 : x0 = 8 * x1) (h1 : 0 ≤ x1) (h2 : x2 = x0 + 2) : 0 ≤ x2 := by omega
theorem om_575 {x0 : Int} {x1 : Int} {x2 : Int} {x3 : Int} (h0 : x0 = 8 * x1) (h1 : 8 * x1 + 8 ≤ x2) (h2 : x3 = x0 + 2) : x3 < x2 := by omega
theorem om_576 {x0 : Int} {x1 : Int} {x2 : Int} (h0 : x0 = x1 + 1) (h1 : x2 = x1 + 1) : x0 = x2 := by omega
theorem om_577 {x0 : Int} {x1 : Int} {x2 : Int} (h0 : x0 = x1 + 2) (h1 : x2 = x1 + 2) : x0 = x2 := by omega
theorem om_578 {x0 : Int} {x1 : Int} (h0 : x0 = 8 * x1) (h1 : 0 ≤ x1) : - 2147483648 ≤ x0 + 8 := by omega
theorem om_579 {x0 : Int} {x1 : Int} {x2 : Int} (h0 : x0 = 8 * x1) (h1 : 8 * x1 + 8 ≤ x2) (h2 : x2 ≤ 4096) : x0 + 8 ≤ 2147483647 := by omega
theorem om_580 {x0 : Int} {x1 : Int} (h0 : x0 = 8 * x1) (h1 : 0 ≤ x1) : - 2147483648 ≤ x0 + 3 := by omega
theorem om_581 {x0 : Int} {x1 : Int} {x2 : Int} (h0 : x0 = 8 * x1) (h1 : 8 * x1 + 8 ≤ x2) (h2 : x2 ≤ 4096) : x0 + 3 ≤ 2147483647 := by omega
theorem om_582 {x0 : Int} {x1 : Int} {x2 : Int} (h0 : x0 = 8 * x1) (h1 : 0 ≤ x1) (h2 : x2 = x0 + 3) : 0 ≤ x2 := by omega
theorem om_583 {x0 : Int} {x1 : Int} {x2 : Int} {x3 : Int} (h0 : x0 = 8 * x1) (h1 : 8 * x1 + 8 ≤ x2) (h2 : x3 = x0 + 3) : x3 < x2 := by omega
theorem om_584 {x0 : Int} {x1 : Int} {x2 : Int} (h0 : x0 = x1 + 3) (h1 : x2 = x1 + 3) : x0 = x2 := by omega
theorem om_585 {x0 : Int} {x1 : Int} (h0 : x0 = 8 * x1) (h1 : 0 ≤ x1) : - 2147483648 ≤ x0 + 4 := by omega
theorem om_586 {x0 : Int} {x1 : Int} {x2 : Int} (h0 : x0 = 8 * x1) (h1 : 8 * x1 + 8 ≤ x2) (h2 : x2 ≤ 4096) : x0 + 4 ≤ 2147483647 := by omega
theorem om_587 {x0 : Int} {x1 : Int} {x2 : Int} (h0 : x0 = 8 * x1) (h1 : 0 ≤ x1) (h2 : x2 = x0 + 4) : 0 ≤ x2 := by omega
theorem om_588 {x0 : Int} {x1 : Int} {x2 : Int} {x3 : Int} (h0 : x0 = 8 * x1) (h1 : 8 * x1 + 8 ≤ x2) (h2 : x3 = x0 + 4) : x3 < x2 := by omega
theorem om_589 {x0 : Int} {x1 : Int} {x2 : Int} (h0 : x0 = x1 + 4) (h1 : x2 = x1 + 4) : x0 = x2 := by omega
theorem om_590 {x0 : Int} {x1 : Int} (h0 : x0 = 8 * x1) (h1 : 0 ≤ x1) : - 2147483648 ≤ x0 + 5 := by omega
theorem om_591 {x0 : Int} {x1 : Int} {x2 : Int} (h0 : x0 = 8 * x1) (h1 : 8 * x1 + 8 ≤ x2) (h2 : x2 ≤ 4096) : x0 + 5 ≤ 2147483647 := by omega
theorem om_592 {x0 : Int} {x1 : Int} {x2 : Int} (h0 : x0 = 8 * x1) (h1 : 0 ≤ x1) (h2 : x2 = x0 + 5) : 0 ≤ x2 := by omega
theorem om_593 {x0 : Int} {x1 : Int} {x2 : Int} {x3 : Int} (h0 : x0 = 8 * x1) (h1 : 8 * x1 + 8 ≤ x2) (h2 : x3 = x0 + 5) : x3 < x2 := by omega
theorem om_594 {x0 : Int} {x1 : Int} (h0 : x0 = 8 * x1) (h1 : 0 ≤ x1) : - 2147483648 ≤ x0 + 6 := by omega
theorem om_595 {x0 : Int} {x1 : Int} {x2 : Int} (h0 : x0 = 8 * x1) (h1 : 8 * x1 + 8 ≤ x2) (h2 : x2 ≤ 4096) : x0 + 6 ≤ 2147483647 := by omega
theorem om_596 {x0 : Int} {x1 : Int} {x2 : Int} (h0 : x0 = 8 * x1) (h1 : 0 ≤ x1) (h2 : x2 = x0 + 6) : 0 ≤ x2 := by omega
theorem om_597 {x0 : Int} {x1 : Int} {x2 : Int} {x3 : Int} (h0 : x0 = 8 * x1) (h1 : 8 * x1 + 8 ≤ x2) (h2 : x3 = x0 + 6) : x3 < x2 := by omega
theorem om_598 {x0 : Int} {x1 : Int} {x2 : Int} (h0 : x0 = x1 + 5) (h1 : x2 = x1 + 5) : x0 = x2 := by omega
theorem om_599 {x0 : Int} {x1 : Int} {x2 : Int} (h0 : x0 = x1 + 6) (h1 : x2 = x1 + 6) : x0 = x2 := by omega
theorem om_600 {x0 : Int} {x1 : Int} (h0 : x0 = 8 * x1) (h1 : 0 ≤ x1) : - 2147483648 ≤ x0 + 7 := by omega
theorem om_601 {x0 : Int} {x1 : Int} {x2 : Int} (h0 : x0 = 8 * x1) (h1 : 8 * x1 + 8 ≤ x2) (h2 : x2 ≤ 4096) : x0 + 7 ≤ 2147483647 := by omega
theorem om_602 {x0 : Int} {x1 : Int} {x2 : Int} (h0 : x0 = 8 * x1) (h1 : 0 ≤ x1) (h2 : x2 = x0 + 7) : 0 ≤ x2 := by omega
theorem om_603 {x0 : Int} {x1 : Int} {x2 : Int} {x3 : Int} (h0 : x0 = 8 * x1) (h1 : 8 * x1 + 8 ≤ x2) (h2 : x3 = x0 + 7) : x3 < x2 := by omega
theorem om_604 {x0 : Int} {x1 : Int} {x2 : Int} (h0 : x0 = x1 + 7) (h1 : x2 = x1 + 7) : x0 = x2 := by omega


set_option maxHeartbeats 4000000 in
set_option maxRecDepth 100000 in
theorem lc_0 {p : Program} {l : Launch} {e : Env} {s : State} {m : MethodId} {below : List Frame} {meth : Method} {c : Code} {dC : Nat → ClassId} {dI : Nat → Nat → Nat} {b : Nat} {xs : Nat → Int32} (hl0 : l.stackTraces = false) {L j : Nat} (hL : L ≤ 4096) (hj : 8 * j + 8 ≤ L) (C0 : lw_At p s m meth c b L xs) (hth : ki_ThA (fun q : Nat => s.heap.size ≤ q) s) {cyI cyL : ClassId} {xm_ xq_t xq_row xq_cell xq_from xq_to xq_size xq_lossOf xq_lessBy xq_value xq_number xq_joined xj_v xj_n xh0 xa_v xa_n xk0 xkv xkn xt_ xt_k xt_o xw_ xz_ yh0 yg_row yg_many yg_loss yg_less yg_voteValue yg_voteNumber yg_allValue yg_allNumber yg_nodeL yg_nodeR yg_part yg_wasMany yg_wasLoss yg_wasValue yg_wasNumber yg_path yg_heavyValue yg_heavyTimes yg_fewest yg_which yg_met q_o : Nat} (hK : va_K (dC, dI) vwCl [(cyI, .int), (cyL, .long)] s) (ih : lw_G p l e s m below meth c b dC dI cyI cyL xm_ xq_t xq_row xq_cell xq_from xq_to xq_size xq_lossOf xq_lessBy xq_value xq_number xq_joined xj_v xj_n xh0 xa_v xa_n xk0 xkv xkn xt_ xt_k xt_o xw_ xz_ yh0 yg_row yg_many yg_loss yg_less yg_voteValue yg_voteNumber yg_allValue yg_allNumber yg_nodeL yg_nodeR yg_part yg_wasMany yg_wasLoss yg_wasValue yg_wasNumber yg_path yg_heavyValue yg_heavyTimes yg_fewest yg_which yg_met q_o (j + 1)) {len slots old nodes here js jl je vs lo le sb lb eb tk mo u_thrown u_allMany u_nodes u_partMany u_pathMany u_heavyMany u_mostMet ix : Int32} {f ff ft fs fo fe uv un jv jn fv fn gb nb fk fq fw fz u_many u_loss u_less u_voteValue u_voteNumber u_allValue u_allNumber u_nodeL u_nodeR u_part u_wasMany u_wasLoss u_wasValue u_wasNumber u_path u_heavyValue u_heavyTimes u_fewest u_which u_met : Nat → Int32} {ol : Nat → Int64} (hix : ix.toInt = 8 * (j : Int)) (I0 : 0 ≤ len.toInt) (I1 : len.toInt ≤ 160) (I2 : 1 ≤ slots.toInt) (I3 : slots.toInt ≤ 6) (I4 : shorts f) (I5 : sixes fs) (I6 : laidX old slots here f ff ft fs fo fe uv un nodes len) (I7 : six4 u_many) (I8 : parts320 u_part) {H : Heap} {locs : List Loc} (hP : va_P (dC, dI) vwCl [kx_4 xm_ xq_row xq_t xt_ xh0 xk0 xw_ xz_ slots old, kx_2 xq_t xq_row xq_joined xq_from xq_to xq_size xq_lossOf xq_lessBy xq_value xq_number nodes here, kx_0 xq_row xq_cell len, kx_a xq_cell cyI 160 f, kx_a xq_from cyI 319 ff, kx_a xq_to cyI 319 ft, kx_a xq_size cyI 319 fs, kx_a xq_lossOf cyI 319 fo, kx_a xq_lessBy cyI 319 fe, kx_a xq_value cyI 1914 uv, kx_a xq_number cyI 1914 un, kx_3 xq_joined xj_v xj_n js jl je, kx_a xj_v cyI 12 jv, kx_a xj_n cyI 12 jn, kx_3 xh0 xa_v xa_n vs lo le, kx_a xa_v cyI 12 fv, kx_a xa_n cyI 12 fn, kx_3 xk0 xkv xkn sb lb eb, kx_a xkv cyI 12 gb, kx_a xkn cyI 12 nb, kx_1 xt_ xt_k xt_o tk mo, kx_a xt_k cyI 160 fk, kx_a xt_o cyI 160 fq, kx_a xw_ cyI 160 fw, kx_a xz_ cyI 161 fz, kx_5 yh0 yg_row len slots u_thrown yg_many yg_loss yg_less yg_voteValue yg_voteNumber yg_allValue yg_allNumber u_allMany yg_nodeL yg_nodeR u_nodes yg_part u_partMany yg_wasMany yg_wasLoss yg_wasValue yg_wasNumber yg_path u_pathMany yg_heavyValue yg_heavyTimes u_heavyMany yg_fewest yg_which yg_met u_mostMet, kx_a yg_row cyI 160 f, kx_a yg_many cyI 324 u_many, kx_a yg_loss cyI 324 u_loss, kx_a yg_less cyI 324 u_less, kx_a yg_voteValue cyI 1944 u_voteValue, kx_a yg_voteNumber cyI 1944 u_voteNumber, kx_a yg_allValue cyI 12 u_allValue, kx_a yg_allNumber cyI 12 u_allNumber, kx_a yg_nodeL cyI 320 u_nodeL, kx_a yg_nodeR cyI 320 u_nodeR, kx_a yg_part cyI 320 u_part, kx_a yg_wasMany cyI 320 u_wasMany, kx_a yg_wasLoss cyI 320 u_wasLoss, kx_a yg_wasValue cyI 1920 u_wasValue, kx_a yg_wasNumber cyI 1920 u_wasNumber, kx_a yg_path cyI 12 u_path, kx_a yg_heavyValue cyI 160 u_heavyValue, kx_a yg_heavyTimes cyI 160 u_heavyTimes, kx_a yg_fewest cyI 161 u_fewest, kx_a yg_which cyI 160 u_which, kx_a yg_met cyI 160 u_met, (q_o, .inl (cyL, 1, .inr (.inl ol)))] H) (hD : va_D (fun q : Nat => s.heap.size ≤ q) [kx_4 xm_ xq_row xq_t xt_ xh0 xk0 xw_ xz_ slots old, kx_2 xq_t xq_row xq_joined xq_from xq_to xq_size xq_lossOf xq_lessBy xq_value xq_number nodes here, kx_0 xq_row xq_cell len, kx_a xq_cell cyI 160 f, kx_a xq_from cyI 319 ff, kx_a xq_to cyI 319 ft, kx_a xq_size cyI 319 fs, kx_a xq_lossOf cyI 319 fo, kx_a xq_lessBy cyI 319 fe, kx_a xq_value cyI 1914 uv, kx_a xq_number cyI 1914 un, kx_3 xq_joined xj_v xj_n js jl je, kx_a xj_v cyI 12 jv, kx_a xj_n cyI 12 jn, kx_3 xh0 xa_v xa_n vs lo le, kx_a xa_v cyI 12 fv, kx_a xa_n cyI 12 fn, kx_3 xk0 xkv xkn sb lb eb, kx_a xkv cyI 12 gb, kx_a xkn cyI 12 nb, kx_1 xt_ xt_k xt_o tk mo, kx_a xt_k cyI 160 fk, kx_a xt_o cyI 160 fq, kx_a xw_ cyI 160 fw, kx_a xz_ cyI 161 fz, kx_5 yh0 yg_row len slots u_thrown yg_many yg_loss yg_less yg_voteValue yg_voteNumber yg_allValue yg_allNumber u_allMany yg_nodeL yg_nodeR u_nodes yg_part u_partMany yg_wasMany yg_wasLoss yg_wasValue yg_wasNumber yg_path u_pathMany yg_heavyValue yg_heavyTimes u_heavyMany yg_fewest yg_which yg_met u_mostMet, kx_a yg_row cyI 160 f, kx_a yg_many cyI 324 u_many, kx_a yg_loss cyI 324 u_loss, kx_a yg_less cyI 324 u_less, kx_a yg_voteValue cyI 1944 u_voteValue, kx_a yg_voteNumber cyI 1944 u_voteNumber, kx_a yg_allValue cyI 12 u_allValue, kx_a yg_allNumber cyI 12 u_allNumber, kx_a yg_nodeL cyI 320 u_nodeL, kx_a yg_nodeR cyI 320 u_nodeR, kx_a yg_part cyI 320 u_part, kx_a yg_wasMany cyI 320 u_wasMany, kx_a yg_wasLoss cyI 320 u_wasLoss, kx_a yg_wasValue cyI 1920 u_wasValue, kx_a yg_wasNumber cyI 1920 u_wasNumber, kx_a yg_path cyI 12 u_path, kx_a yg_heavyValue cyI 160 u_heavyValue, kx_a yg_heavyTimes cyI 160 u_heavyTimes, kx_a yg_fewest cyI 161 u_fewest, kx_a yg_which cyI 160 u_which, kx_a yg_met cyI 160 u_met, (q_o, .inl (cyL, 1, .inr (.inl ol)))]) (hS : va_S (fun q : Nat => s.heap.size ≤ q) s.heap H locs) {ls : Array Slot} (hl : lv_has ls 7 [(4, .int ix), (3, .ref q_o), (2, .ref yh0), (1, .ref xm_), (0, .ref b)]) : W p l e room_1 s m #[Value.ref b] below meth c H locs (60 + 2 * j) (20000 + 12 * j) (lw_Z below #[Value.ref b] s) (F0 m 232 ls []) := by
  obtain ⟨hx, hb, hr, hml, hown, hts0, hX, hbl, hlocks, hgv⟩ := id C0
  have hts := hts0
  have hA : ∀ q : Nat, s.heap.size ≤ q → (fun q : Nat => s.heap.size ≤ q) q := fun _ h => h
  have hbA : ¬ (fun q : Nat => s.heap.size ≤ q) b := Nat.not_le.mpr hbl
  have hown : s.vm.findClass RL = some m.cls := hown
  have hb : c.code = cL_law := hb
  have hj0 : 0 ≤ (j : Int) := Int.natCast_nonneg j
  have hjI : 8 * (j : Int) + 8 ≤ (L : Int) := lw_jI hj
  have hLI : (L : Int) ≤ 4096 := lw_LI hL
  refine lv_aload_n hx hb dL_law_232 rfl (lv_at hl 3 rfl) ?_
  refine lv_aload_n hx hb dL_law_233 rfl (lv_at hl 4 rfl) ?_
  refine lv_iload hx hb dL_law_234 (lv_at hl 0 rfl) ?_
  refine lv_iconst (v := 1) hx hb dL_law_236 (by decide) ?_
  refine lv_iadd hx hb dL_law_237 ?_
  refine lv_topi (fun y_1 ey_1 => ?_)
  have i_1 : y_1.toInt = ix.toInt + 1 := ki_add ey_1 rfl rfl (om_568 hix hj0) (om_569 hix hjI hLI)
  refine va_sld hx hb hX hbl hbA hS (i := y_1) (ki_in (om_570 hix hj0 i_1) (om_571 hix hjI i_1)) dL_law_238 ?_
  refine lv_topi (fun y_2 ey_2 => ?_)
  refine lv_aload_n hx hb dL_law_239 rfl (lv_at hl 4 rfl) ?_
  refine lv_iload hx hb dL_law_240 (lv_at hl 0 rfl) ?_
  refine lv_iconst (v := 2) hx hb dL_law_242 (by decide) ?_
  refine lv_iadd hx hb dL_law_243 ?_
  refine lv_topi (fun y_3 ey_3 => ?_)
  have i_3 : y_3.toInt = ix.toInt + 2 := ki_add ey_3 rfl rfl (om_572 hix hj0) (om_573 hix hjI hLI)
  refine va_sld hx hb hX hbl hbA hS (i := y_3) (ki_in (om_574 hix hj0 i_3) (om_575 hix hjI i_3)) dL_law_244 ?_
  refine lv_topi (fun y_4 ey_4 => ?_)
  obtain ⟨hPc, hDc, hFc, hCc⟩ := kx_preM (wc := [kx_4 xm_ xq_row xq_t xt_ xh0 xk0 xw_ xz_ slots old, kx_0 xq_row xq_cell len, kx_a xq_cell cyI 160 f]) hP hD hS hA [true, false, true, true, false, false, false, false, false, false, false, false, false, false, false, false, false, false, false, false, false, false, false, false, false, false, false, false, false, false, false, false, false, false, false, false, false, false, false, false, false, false, false, false, false, false, false, false] rfl
  have hKc := hK.sub (tys' := [(cyI, .int)]) [0] rfl
  refine va_calli (va_runV (As := [.int y_2, .int y_4]) (rest := []) ⟨hx, hb, hml, hown, (lwC_X4_feed hts0)⟩ (kx_un (c_X4_feed_x l dC dI xm_ xq_row xq_t xt_ xh0 xk0 xw_ xz_ slots old xq_cell cyI len f y_2 y_4 H.size I0 I1 I4)) (cwV 2 (lwC_X4_feed hts0) lwG_X4_feed rfl rfl rfl (by decide +kernel) ⟨Nat.le_of_ble_eq_true rfl, Nat.le_of_ble_eq_true rfl⟩) ⟨fun a U g mk q => by obtain ⟨q0, q1, qP, qK, qD⟩ := q; exact ⟨q0, q1, qP, va_K.moved (u := U) (U := U.calling g mk a) (Vm.Alike.refl U.vm) qK, qD⟩, kx_rc4 hKc hPc (q0 := 0) rfl, fun U hU hW => ⟨rfl, by rw [hU], by rw [hU]; exact hPc, va_K.moved hW.alike hKc, hDc.weaken (fun _ _ _ _ => trivial)⟩⟩ rfl rfl hl.1 rfl (lv_room (Nat.le_of_ble_eq_true rfl)) dL_law_245 (lw_fitJ hj hL (Nat.le_of_ble_eq_true rfl) (Nat.le_of_ble_eq_true rfl))) hS (fun q _ h => hFc q h) hFc (fun r_5 u t H1 locs ht hvm w_5 hB hz1 hk1 hS => ?_)
  obtain ⟨o_6, o_7, o_8⟩ := u
  dsimp only at w_5 hB
  obtain ⟨hP1, hK1, hD1⟩ := hB
  rw [ht] at hP1
  have hK1 := va_K.moved hvm.symm hK1
  obtain ⟨hP, hD⟩ := kx_joinM (w2 := [kx_4 xm_ xq_row xq_t xt_ xh0 xk0 xw_ xz_ slots o_6, kx_2 xq_t xq_row xq_joined xq_from xq_to xq_size xq_lossOf xq_lessBy xq_value xq_number nodes here, kx_0 xq_row xq_cell o_7, kx_a xq_cell cyI 160 o_8, kx_a xq_from cyI 319 ff, kx_a xq_to cyI 319 ft, kx_a xq_size cyI 319 fs, kx_a xq_lossOf cyI 319 fo, kx_a xq_lessBy cyI 319 fe, kx_a xq_value cyI 1914 uv, kx_a xq_number cyI 1914 un, kx_3 xq_joined xj_v xj_n js jl je, kx_a xj_v cyI 12 jv, kx_a xj_n cyI 12 jn, kx_3 xh0 xa_v xa_n vs lo le, kx_a xa_v cyI 12 fv, kx_a xa_n cyI 12 fn, kx_3 xk0 xkv xkn sb lb eb, kx_a xkv cyI 12 gb, kx_a xkn cyI 12 nb, kx_1 xt_ xt_k xt_o tk mo, kx_a xt_k cyI 160 fk, kx_a xt_o cyI 160 fq, kx_a xw_ cyI 160 fw, kx_a xz_ cyI 161 fz, kx_5 yh0 yg_row len slots u_thrown yg_many yg_loss yg_less yg_voteValue yg_voteNumber yg_allValue yg_allNumber u_allMany yg_nodeL yg_nodeR u_nodes yg_part u_partMany yg_wasMany yg_wasLoss yg_wasValue yg_wasNumber yg_path u_pathMany yg_heavyValue yg_heavyTimes u_heavyMany yg_fewest yg_which yg_met u_mostMet, kx_a yg_row cyI 160 f, kx_a yg_many cyI 324 u_many, kx_a yg_loss cyI 324 u_loss, kx_a yg_less cyI 324 u_less, kx_a yg_voteValue cyI 1944 u_voteValue, kx_a yg_voteNumber cyI 1944 u_voteNumber, kx_a yg_allValue cyI 12 u_allValue, kx_a yg_allNumber cyI 12 u_allNumber, kx_a yg_nodeL cyI 320 u_nodeL, kx_a yg_nodeR cyI 320 u_nodeR, kx_a yg_part cyI 320 u_part, kx_a yg_wasMany cyI 320 u_wasMany, kx_a yg_wasLoss cyI 320 u_wasLoss, kx_a yg_wasValue cyI 1920 u_wasValue, kx_a yg_wasNumber cyI 1920 u_wasNumber, kx_a yg_path cyI 12 u_path, kx_a yg_heavyValue cyI 160 u_heavyValue, kx_a yg_heavyTimes cyI 160 u_heavyTimes, kx_a yg_fewest cyI 161 u_fewest, kx_a yg_which cyI 160 u_which, kx_a yg_met cyI 160 u_met, (q_o, .inl (cyL, 1, .inr (.inl ol)))]) hP hD hP1 hD1 hk1 hFc [true, false, true, true, false, false, false, false, false, false, false, false, false, false, false, false, false, false, false, false, false, false, false, false, false, false, false, false, false, false, false, false, false, false, false, false, false, false, false, false, false, false, false, false, false, false, false, false] hCc rfl
  clear hP1 hD1 hK1 hk1 hz1 hFc hDc hPc hKc hCc
  generalize H1 = H at hP hS ⊢
  have w_5 : ((len.toInt ≤ 156 ∧ r_5.toInt = len.toInt + 4 ∧ o_7.toInt = len.toInt + 4 ∧ o_8 = mj_feed f len.toNatClampNeg y_2 y_4 ∧ o_6 = 1) ∨ (156 < len.toInt ∧ r_5.toInt = -1 ∧ o_7 = len ∧ o_8 = f ∧ o_6 = old)) ∧ shorts o_8 := w_5
  refine lv_pop hx hb dL_law_248 rfl ?_
  refine lv_aload_n hx hb dL_law_249 rfl (lv_at hl 2 rfl) ?_
  refine lv_aload_n hx hb dL_law_250 rfl (lv_at hl 4 rfl) ?_
  refine lv_iload hx hb dL_law_251 (lv_at hl 0 rfl) ?_
  refine lv_iconst (v := 1) hx hb dL_law_253 (by decide) ?_
  refine lv_iadd hx hb dL_law_254 ?_
  refine lv_topi (fun y_9 ey_9 => ?_)
  have i_9 : y_9.toInt = ix.toInt + 1 := ki_add ey_9 rfl rfl (om_568 hix hj0) (om_569 hix hjI hLI)
  refine va_sld hx hb hX hbl hbA hS (i := y_9) (ki_in (om_570 hix hj0 i_9) (om_571 hix hjI i_9)) dL_law_255 ?_
  refine lv_topi (fun y_10 ey_10 => ?_)
  have qy_10 : y_2 = y_10 := by rw [ey_2, ey_10, ki_nateq (show y_1.toInt = y_9.toInt from (om_576 i_1 i_9))]
  subst qy_10
  refine lv_aload_n hx hb dL_law_256 rfl (lv_at hl 4 rfl) ?_
  refine lv_iload hx hb dL_law_257 (lv_at hl 0 rfl) ?_
  refine lv_iconst (v := 2) hx hb dL_law_259 (by decide) ?_
  refine lv_iadd hx hb dL_law_260 ?_
  refine lv_topi (fun y_11 ey_11 => ?_)
  have i_11 : y_11.toInt = ix.toInt + 2 := ki_add ey_11 rfl rfl (om_572 hix hj0) (om_573 hix hjI hLI)
  refine va_sld hx hb hX hbl hbA hS (i := y_11) (ki_in (om_574 hix hj0 i_11) (om_575 hix hjI i_11)) dL_law_261 ?_
  refine lv_topi (fun y_12 ey_12 => ?_)
  have qy_12 : y_4 = y_12 := by rw [ey_4, ey_12, ki_nateq (show y_3.toInt = y_11.toInt from (om_577 i_3 i_11))]
  subst qy_12
  obtain ⟨hPc, hDc, hFc, hCc⟩ := kx_preM (wc := [kx_5 yh0 yg_row len slots u_thrown yg_many yg_loss yg_less yg_voteValue yg_voteNumber yg_allValue yg_allNumber u_allMany yg_nodeL yg_nodeR u_nodes yg_part u_partMany yg_wasMany yg_wasLoss yg_wasValue yg_wasNumber yg_path u_pathMany yg_heavyValue yg_heavyTimes u_heavyMany yg_fewest yg_which yg_met u_mostMet, kx_a yg_row cyI 160 f]) hP hD hS hA [false, false, false, false, false, false, false, false, false, false, false, false, false, false, false, false, false, false, false, false, false, false, false, false, false, true, true, false, false, false, false, false, false, false, false, false, false, false, false, false, false, false, false, false, false, false, false, false] rfl
  have hKc := hK.sub (tys' := [(cyI, .int)]) [0] rfl
  refine va_calli (va_runV (As := [.int y_2, .int y_4]) (rest := []) ⟨hx, hb, hml, hown, (lwC_X5_feed hts0)⟩ (kx_un (c_X5_feed_x l dC dI yh0 yg_row yg_many yg_loss yg_less yg_voteValue yg_voteNumber yg_allValue yg_allNumber yg_nodeL yg_nodeR yg_part yg_wasMany yg_wasLoss yg_wasValue yg_wasNumber yg_path yg_heavyValue yg_heavyTimes yg_fewest yg_which yg_met len slots u_thrown u_allMany u_nodes u_partMany u_pathMany u_heavyMany u_mostMet cyI f y_2 y_4 H.size I0 I1 I4)) (cwV 2 (lwC_X5_feed hts0) lwG_X5_feed rfl rfl rfl (by decide +kernel) ⟨Nat.le_of_ble_eq_true rfl, Nat.le_of_ble_eq_true rfl⟩) ⟨fun a U g mk q => by obtain ⟨q0, q1, qP, qK, qD⟩ := q; exact ⟨q0, q1, qP, va_K.moved (u := U) (U := U.calling g mk a) (Vm.Alike.refl U.vm) qK, qD⟩, kx_rc5 hKc hPc (q0 := 0) rfl, fun U hU hW => ⟨rfl, by rw [hU], by rw [hU]; exact hPc, va_K.moved hW.alike hKc, hDc.weaken (fun _ _ _ _ => trivial)⟩⟩ rfl rfl hl.1 rfl (lv_room (Nat.le_of_ble_eq_true rfl)) dL_law_262 (lw_fitJ hj hL (Nat.le_of_ble_eq_true rfl) (Nat.le_of_ble_eq_true rfl))) hS (fun q _ h => hFc q h) hFc (fun r_13 u t H1 locs ht hvm w_13 hB hz1 hk1 hS => ?_)
  obtain ⟨o_14, o_15⟩ := u
  dsimp only at w_13 hB
  obtain ⟨hP1, hK1, hD1⟩ := hB
  rw [ht] at hP1
  have hK1 := va_K.moved hvm.symm hK1
  obtain ⟨hP, hD⟩ := kx_joinM (w2 := [kx_4 xm_ xq_row xq_t xt_ xh0 xk0 xw_ xz_ slots o_6, kx_2 xq_t xq_row xq_joined xq_from xq_to xq_size xq_lossOf xq_lessBy xq_value xq_number nodes here, kx_0 xq_row xq_cell o_7, kx_a xq_cell cyI 160 o_8, kx_a xq_from cyI 319 ff, kx_a xq_to cyI 319 ft, kx_a xq_size cyI 319 fs, kx_a xq_lossOf cyI 319 fo, kx_a xq_lessBy cyI 319 fe, kx_a xq_value cyI 1914 uv, kx_a xq_number cyI 1914 un, kx_3 xq_joined xj_v xj_n js jl je, kx_a xj_v cyI 12 jv, kx_a xj_n cyI 12 jn, kx_3 xh0 xa_v xa_n vs lo le, kx_a xa_v cyI 12 fv, kx_a xa_n cyI 12 fn, kx_3 xk0 xkv xkn sb lb eb, kx_a xkv cyI 12 gb, kx_a xkn cyI 12 nb, kx_1 xt_ xt_k xt_o tk mo, kx_a xt_k cyI 160 fk, kx_a xt_o cyI 160 fq, kx_a xw_ cyI 160 fw, kx_a xz_ cyI 161 fz, kx_5 yh0 yg_row o_14 slots 0 yg_many yg_loss yg_less yg_voteValue yg_voteNumber yg_allValue yg_allNumber u_allMany yg_nodeL yg_nodeR u_nodes yg_part u_partMany yg_wasMany yg_wasLoss yg_wasValue yg_wasNumber yg_path u_pathMany yg_heavyValue yg_heavyTimes u_heavyMany yg_fewest yg_which yg_met u_mostMet, kx_a yg_row cyI 160 o_15, kx_a yg_many cyI 324 u_many, kx_a yg_loss cyI 324 u_loss, kx_a yg_less cyI 324 u_less, kx_a yg_voteValue cyI 1944 u_voteValue, kx_a yg_voteNumber cyI 1944 u_voteNumber, kx_a yg_allValue cyI 12 u_allValue, kx_a yg_allNumber cyI 12 u_allNumber, kx_a yg_nodeL cyI 320 u_nodeL, kx_a yg_nodeR cyI 320 u_nodeR, kx_a yg_part cyI 320 u_part, kx_a yg_wasMany cyI 320 u_wasMany, kx_a yg_wasLoss cyI 320 u_wasLoss, kx_a yg_wasValue cyI 1920 u_wasValue, kx_a yg_wasNumber cyI 1920 u_wasNumber, kx_a yg_path cyI 12 u_path, kx_a yg_heavyValue cyI 160 u_heavyValue, kx_a yg_heavyTimes cyI 160 u_heavyTimes, kx_a yg_fewest cyI 161 u_fewest, kx_a yg_which cyI 160 u_which, kx_a yg_met cyI 160 u_met, (q_o, .inl (cyL, 1, .inr (.inl ol)))]) hP hD hP1 hD1 hk1 hFc [false, false, false, false, false, false, false, false, false, false, false, false, false, false, false, false, false, false, false, false, false, false, false, false, false, true, true, false, false, false, false, false, false, false, false, false, false, false, false, false, false, false, false, false, false, false, false, false] hCc rfl
  clear hP1 hD1 hK1 hk1 hz1 hFc hDc hPc hKc hCc
  generalize H1 = H at hP hS ⊢
  have w_13 : ((len.toInt ≤ 156 ∧ r_13.toInt = len.toInt + 4 ∧ o_14.toInt = len.toInt + 4 ∧ o_15 = mj_feed f len.toNatClampNeg y_2 y_4) ∨ (156 < len.toInt ∧ r_13.toInt = -1 ∧ o_14 = len ∧ o_15 = f)) ∧ shorts o_15 := w_13
  refine lv_pop hx hb dL_law_265 rfl ?_
  refine lv_goto (tgt := 2288) hx hb dL_law_266 (by decide) ?_
  obtain ⟨x_16, ex_16⟩ : ∃ y : Int32, y = ix + 8 := ⟨_, rfl⟩
  have i_16 : x_16.toInt = ix.toInt + 8 := ki_add ex_16 rfl rfl (om_578 hix hj0) (om_579 hix hjI hLI)
  refine lv_iinc (v := x_16) (lv' := [(4, .int x_16), (3, .ref q_o), (2, .ref yh0), (1, .ref xm_), (0, .ref b)]) hx hb dL_law_2288 hl (k := 0) rfl (by rw [ex_16]; rfl) (by decide) rfl (fun ls hl => ?_)
  refine lv_goto (tgt := 23) hx hb dL_law_2291 (by decide) ?_
  have hEq : o_14 = o_7 ∧ o_15 = o_8 ∧ (o_6 = 1 ∨ (o_6 = old ∧ o_7 = len)) := by
    rcases w_5.1 with ⟨a1, a2, a3, a4, a5⟩ | ⟨a1, a2, a3, a4, a5⟩ <;> rcases w_13.1 with ⟨b1, b2, b3, b4⟩ | ⟨b1, b2, b3, b4⟩
    · exact ⟨Int32.toInt_inj.mp (by omega), by rw [a4, b4], Or.inl a5⟩
    · exfalso; omega
    · exfalso; omega
    · exact ⟨by rw [a3, b3], by rw [a4, b4], Or.inr ⟨a5, a3⟩⟩
  have hLn : 0 ≤ o_7.toInt ∧ o_7.toInt ≤ 160 := by rcases w_5.1 with ⟨a1, a2, a3, a4, a5⟩ | ⟨a1, a2, a3, a4, a5⟩; exact ⟨by omega, by omega⟩; exact ⟨by rw [a3]; omega, by rw [a3]; omega⟩
  have hO6 : o_6 = 1 ∨ (o_6 = old ∧ o_7 = len ∧ o_8 = f ∧ slots = slots) := by rcases w_5.1 with ⟨a1, a2, a3, a4, a5⟩ | ⟨a1, a2, a3, a4, a5⟩; exact Or.inl a5; exact Or.inr ⟨a5, a3, a4, rfl⟩
  rw [hEq.1] at hP hD
  rw [hEq.2.1] at hP hD
  obtain ⟨hP, hD⟩ := kx_re (w2 := [kx_4 xm_ xq_row xq_t xt_ xh0 xk0 xw_ xz_ slots o_6, kx_2 xq_t xq_row xq_joined xq_from xq_to xq_size xq_lossOf xq_lessBy xq_value xq_number nodes here, kx_0 xq_row xq_cell o_7, kx_a xq_cell cyI 160 o_8, kx_a xq_from cyI 319 ff, kx_a xq_to cyI 319 ft, kx_a xq_size cyI 319 fs, kx_a xq_lossOf cyI 319 fo, kx_a xq_lessBy cyI 319 fe, kx_a xq_value cyI 1914 uv, kx_a xq_number cyI 1914 un, kx_3 xq_joined xj_v xj_n js jl je, kx_a xj_v cyI 12 jv, kx_a xj_n cyI 12 jn, kx_3 xh0 xa_v xa_n vs lo le, kx_a xa_v cyI 12 fv, kx_a xa_n cyI 12 fn, kx_3 xk0 xkv xkn sb lb eb, kx_a xkv cyI 12 gb, kx_a xkn cyI 12 nb, kx_1 xt_ xt_k xt_o tk mo, kx_a xt_k cyI 160 fk, kx_a xt_o cyI 160 fq, kx_a xw_ cyI 160 fw, kx_a xz_ cyI 161 fz, kx_5 yh0 yg_row o_7 slots 0 yg_many yg_loss yg_less yg_voteValue yg_voteNumber yg_allValue yg_allNumber u_allMany yg_nodeL yg_nodeR u_nodes yg_part u_partMany yg_wasMany yg_wasLoss yg_wasValue yg_wasNumber yg_path u_pathMany yg_heavyValue yg_heavyTimes u_heavyMany yg_fewest yg_which yg_met u_mostMet, kx_a yg_row cyI 160 o_8, kx_a yg_many cyI 324 u_many, kx_a yg_loss cyI 324 u_loss, kx_a yg_less cyI 324 u_less, kx_a yg_voteValue cyI 1944 u_voteValue, kx_a yg_voteNumber cyI 1944 u_voteNumber, kx_a yg_allValue cyI 12 u_allValue, kx_a yg_allNumber cyI 12 u_allNumber, kx_a yg_nodeL cyI 320 u_nodeL, kx_a yg_nodeR cyI 320 u_nodeR, kx_a yg_part cyI 320 u_part, kx_a yg_wasMany cyI 320 u_wasMany, kx_a yg_wasLoss cyI 320 u_wasLoss, kx_a yg_wasValue cyI 1920 u_wasValue, kx_a yg_wasNumber cyI 1920 u_wasNumber, kx_a yg_path cyI 12 u_path, kx_a yg_heavyValue cyI 160 u_heavyValue, kx_a yg_heavyTimes cyI 160 u_heavyTimes, kx_a yg_fewest cyI 161 u_fewest, kx_a yg_which cyI 160 u_which, kx_a yg_met cyI 160 u_met, (q_o, .inl (cyL, 1, .inr (.inl ol)))]) hP hD rfl
  refine W.widen (k := 60 + 2 * (j + 1)) (n := 20000 + 12 * (j + 1)) (lw_wdC (k := 0) (Nat.le_of_ble_eq_true rfl)) (lw_wdS (k := 0) (Nat.le_of_ble_eq_true rfl)) ?_
  have k_17 : (0 : Int32).toInt = 0 := rfl
  exact ih o_7 slots o_6 nodes here js jl je vs lo le sb lb eb tk mo 0 u_allMany u_nodes u_partMany u_pathMany u_heavyMany u_mostMet o_8 ff ft fs fo fe uv un jv jn fv fn gb nb fk fq fw fz u_many u_loss u_less u_voteValue u_voteNumber u_allValue u_allNumber u_nodeL u_nodeR u_part u_wasMany u_wasLoss u_wasValue u_wasNumber u_path u_heavyValue u_heavyTimes u_fewest u_which u_met ol x_16 (om_ix i_16 hix) hLn.1 hLn.2 I2 I3 w_5.2 I5 (laidX_new I6 hO6) I7 I8 _ _ ls hP hD hS (lv_sub hl [0, 1, 2, 3, 4] rfl)

set_option maxHeartbeats 4000000 in
set_option maxRecDepth 100000 in
theorem lc_1 {p : Program} {l : Launch} {e : Env} {s : State} {m : MethodId} {below : List Frame} {meth : Method} {c : Code} {dC : Nat → ClassId} {dI : Nat → Nat → Nat} {b : Nat} {xs : Nat → Int32} (hl0 : l.stackTraces = false) {L j : Nat} (hL : L ≤ 4096) (hj : 8 * j + 8 ≤ L) (C0 : lw_At p s m meth c b L xs) (hth : ki_ThA (fun q : Nat => s.heap.size ≤ q) s) {cyI cyL : ClassId} {xm_ xq_t xq_row xq_cell xq_from xq_to xq_size xq_lossOf xq_lessBy xq_value xq_number xq_joined xj_v xj_n xh0 xa_v xa_n xk0 xkv xkn xt_ xt_k xt_o xw_ xz_ yh0 yg_row yg_many yg_loss yg_less yg_voteValue yg_voteNumber yg_allValue yg_allNumber yg_nodeL yg_nodeR yg_part yg_wasMany yg_wasLoss yg_wasValue yg_wasNumber yg_path yg_heavyValue yg_heavyTimes yg_fewest yg_which yg_met q_o : Nat} (hK : va_K (dC, dI) vwCl [(cyI, .int), (cyL, .long)] s) (ih : lw_G p l e s m below meth c b dC dI cyI cyL xm_ xq_t xq_row xq_cell xq_from xq_to xq_size xq_lossOf xq_lessBy xq_value xq_number xq_joined xj_v xj_n xh0 xa_v xa_n xk0 xkv xkn xt_ xt_k xt_o xw_ xz_ yh0 yg_row yg_many yg_loss yg_less yg_voteValue yg_voteNumber yg_allValue yg_allNumber yg_nodeL yg_nodeR yg_part yg_wasMany yg_wasLoss yg_wasValue yg_wasNumber yg_path yg_heavyValue yg_heavyTimes yg_fewest yg_which yg_met q_o (j + 1)) {len slots old nodes here js jl je vs lo le sb lb eb tk mo u_thrown u_allMany u_nodes u_partMany u_pathMany u_heavyMany u_mostMet ix : Int32} {f ff ft fs fo fe uv un jv jn fv fn gb nb fk fq fw fz u_many u_loss u_less u_voteValue u_voteNumber u_allValue u_allNumber u_nodeL u_nodeR u_part u_wasMany u_wasLoss u_wasValue u_wasNumber u_path u_heavyValue u_heavyTimes u_fewest u_which u_met : Nat → Int32} {ol : Nat → Int64} (hix : ix.toInt = 8 * (j : Int)) (I0 : 0 ≤ len.toInt) (I1 : len.toInt ≤ 160) (I2 : 1 ≤ slots.toInt) (I3 : slots.toInt ≤ 6) (I4 : shorts f) (I5 : sixes fs) (I6 : laidX old slots here f ff ft fs fo fe uv un nodes len) (I7 : six4 u_many) (I8 : parts320 u_part) {H : Heap} {locs : List Loc} (hP : va_P (dC, dI) vwCl [kx_4 xm_ xq_row xq_t xt_ xh0 xk0 xw_ xz_ slots old, kx_2 xq_t xq_row xq_joined xq_from xq_to xq_size xq_lossOf xq_lessBy xq_value xq_number nodes here, kx_0 xq_row xq_cell len, kx_a xq_cell cyI 160 f, kx_a xq_from cyI 319 ff, kx_a xq_to cyI 319 ft, kx_a xq_size cyI 319 fs, kx_a xq_lossOf cyI 319 fo, kx_a xq_lessBy cyI 319 fe, kx_a xq_value cyI 1914 uv, kx_a xq_number cyI 1914 un, kx_3 xq_joined xj_v xj_n js jl je, kx_a xj_v cyI 12 jv, kx_a xj_n cyI 12 jn, kx_3 xh0 xa_v xa_n vs lo le, kx_a xa_v cyI 12 fv, kx_a xa_n cyI 12 fn, kx_3 xk0 xkv xkn sb lb eb, kx_a xkv cyI 12 gb, kx_a xkn cyI 12 nb, kx_1 xt_ xt_k xt_o tk mo, kx_a xt_k cyI 160 fk, kx_a xt_o cyI 160 fq, kx_a xw_ cyI 160 fw, kx_a xz_ cyI 161 fz, kx_5 yh0 yg_row len slots u_thrown yg_many yg_loss yg_less yg_voteValue yg_voteNumber yg_allValue yg_allNumber u_allMany yg_nodeL yg_nodeR u_nodes yg_part u_partMany yg_wasMany yg_wasLoss yg_wasValue yg_wasNumber yg_path u_pathMany yg_heavyValue yg_heavyTimes u_heavyMany yg_fewest yg_which yg_met u_mostMet, kx_a yg_row cyI 160 f, kx_a yg_many cyI 324 u_many, kx_a yg_loss cyI 324 u_loss, kx_a yg_less cyI 324 u_less, kx_a yg_voteValue cyI 1944 u_voteValue, kx_a yg_voteNumber cyI 1944 u_voteNumber, kx_a yg_allValue cyI 12 u_allValue, kx_a yg_allNumber cyI 12 u_allNumber, kx_a yg_nodeL cyI 320 u_nodeL, kx_a yg_nodeR cyI 320 u_nodeR, kx_a yg_part cyI 320 u_part, kx_a yg_wasMany cyI 320 u_wasMany, kx_a yg_wasLoss cyI 320 u_wasLoss, kx_a yg_wasValue cyI 1920 u_wasValue, kx_a yg_wasNumber cyI 1920 u_wasNumber, kx_a yg_path cyI 12 u_path, kx_a yg_heavyValue cyI 160 u_heavyValue, kx_a yg_heavyTimes cyI 160 u_heavyTimes, kx_a yg_fewest cyI 161 u_fewest, kx_a yg_which cyI 160 u_which, kx_a yg_met cyI 160 u_met, (q_o, .inl (cyL, 1, .inr (.inl ol)))] H) (hD : va_D (fun q : Nat => s.heap.size ≤ q) [kx_4 xm_ xq_row xq_t xt_ xh0 xk0 xw_ xz_ slots old, kx_2 xq_t xq_row xq_joined xq_from xq_to xq_size xq_lossOf xq_lessBy xq_value xq_number nodes here, kx_0 xq_row xq_cell len, kx_a xq_cell cyI 160 f, kx_a xq_from cyI 319 ff, kx_a xq_to cyI 319 ft, kx_a xq_size cyI 319 fs, kx_a xq_lossOf cyI 319 fo, kx_a xq_lessBy cyI 319 fe, kx_a xq_value cyI 1914 uv, kx_a xq_number cyI 1914 un, kx_3 xq_joined xj_v xj_n js jl je, kx_a xj_v cyI 12 jv, kx_a xj_n cyI 12 jn, kx_3 xh0 xa_v xa_n vs lo le, kx_a xa_v cyI 12 fv, kx_a xa_n cyI 12 fn, kx_3 xk0 xkv xkn sb lb eb, kx_a xkv cyI 12 gb, kx_a xkn cyI 12 nb, kx_1 xt_ xt_k xt_o tk mo, kx_a xt_k cyI 160 fk, kx_a xt_o cyI 160 fq, kx_a xw_ cyI 160 fw, kx_a xz_ cyI 161 fz, kx_5 yh0 yg_row len slots u_thrown yg_many yg_loss yg_less yg_voteValue yg_voteNumber yg_allValue yg_allNumber u_allMany yg_nodeL yg_nodeR u_nodes yg_part u_partMany yg_wasMany yg_wasLoss yg_wasValue yg_wasNumber yg_path u_pathMany yg_heavyValue yg_heavyTimes u_heavyMany yg_fewest yg_which yg_met u_mostMet, kx_a yg_row cyI 160 f, kx_a yg_many cyI 324 u_many, kx_a yg_loss cyI 324 u_loss, kx_a yg_less cyI 324 u_less, kx_a yg_voteValue cyI 1944 u_voteValue, kx_a yg_voteNumber cyI 1944 u_voteNumber, kx_a yg_allValue cyI 12 u_allValue, kx_a yg_allNumber cyI 12 u_allNumber, kx_a yg_nodeL cyI 320 u_nodeL, kx_a yg_nodeR cyI 320 u_nodeR, kx_a yg_part cyI 320 u_part, kx_a yg_wasMany cyI 320 u_wasMany, kx_a yg_wasLoss cyI 320 u_wasLoss, kx_a yg_wasValue cyI 1920 u_wasValue, kx_a yg_wasNumber cyI 1920 u_wasNumber, kx_a yg_path cyI 12 u_path, kx_a yg_heavyValue cyI 160 u_heavyValue, kx_a yg_heavyTimes cyI 160 u_heavyTimes, kx_a yg_fewest cyI 161 u_fewest, kx_a yg_which cyI 160 u_which, kx_a yg_met cyI 160 u_met, (q_o, .inl (cyL, 1, .inr (.inl ol)))]) (hS : va_S (fun q : Nat => s.heap.size ≤ q) s.heap H locs) {ls : Array Slot} (hl : lv_has ls 7 [(4, .int ix), (3, .ref q_o), (2, .ref yh0), (1, .ref xm_), (0, .ref b)]) : W p l e room_1 s m #[Value.ref b] below meth c H locs (60 + 2 * j) (20000 + 12 * j) (lw_Z below #[Value.ref b] s) (F0 m 269 ls []) := by
  obtain ⟨hx, hb, hr, hml, hown, hts0, hX, hbl, hlocks, hgv⟩ := id C0
  have hts := hts0
  have hA : ∀ q : Nat, s.heap.size ≤ q → (fun q : Nat => s.heap.size ≤ q) q := fun _ h => h
  have hbA : ¬ (fun q : Nat => s.heap.size ≤ q) b := Nat.not_le.mpr hbl
  have hown : s.vm.findClass RL = some m.cls := hown
  have hb : c.code = cL_law := hb
  have hj0 : 0 ≤ (j : Int) := Int.natCast_nonneg j
  have hjI : 8 * (j : Int) + 8 ≤ (L : Int) := lw_jI hj
  have hLI : (L : Int) ≤ 4096 := lw_LI hL
  refine lv_aload_n hx hb dL_law_269 rfl (lv_at hl 3 rfl) ?_
  refine lv_aload_n hx hb dL_law_270 rfl (lv_at hl 4 rfl) ?_
  refine lv_iload hx hb dL_law_271 (lv_at hl 0 rfl) ?_
  refine lv_iconst (v := 1) hx hb dL_law_273 (by decide) ?_
  refine lv_iadd hx hb dL_law_274 ?_
  refine lv_topi (fun y_1 ey_1 => ?_)
  have i_1 : y_1.toInt = ix.toInt + 1 := ki_add ey_1 rfl rfl (om_568 hix hj0) (om_569 hix hjI hLI)
  refine va_sld hx hb hX hbl hbA hS (i := y_1) (ki_in (om_570 hix hj0 i_1) (om_571 hix hjI i_1)) dL_law_275 ?_
  refine lv_topi (fun y_2 ey_2 => ?_)
  obtain ⟨hPc, hDc, hFc, hCc⟩ := kx_preM (wc := [kx_4 xm_ xq_row xq_t xt_ xh0 xk0 xw_ xz_ slots old, kx_0 xq_row xq_cell len]) hP hD hS hA [true, false, true, false, false, false, false, false, false, false, false, false, false, false, false, false, false, false, false, false, false, false, false, false, false, false, false, false, false, false, false, false, false, false, false, false, false, false, false, false, false, false, false, false, false, false, false, false] rfl
  have hKc := hK.sub (tys' := []) [] rfl
  refine va_calli (va_runV (As := [.int y_2]) (rest := []) ⟨hx, hb, hml, hown, (lwC_X4_end hts0)⟩ (kx_un (c_X4_end l dC dI xm_ xq_row xq_t xt_ xh0 xk0 xw_ xz_ slots old xq_cell len y_2 H.size)) (cwV 1 (lwC_X4_end hts0) lwG_X4_end rfl rfl rfl (by decide +kernel) ⟨Nat.le_of_ble_eq_true rfl, Nat.le_of_ble_eq_true rfl⟩) ⟨fun a U g mk q => by obtain ⟨q0, q1, qP, qK, qD⟩ := q; exact ⟨q0, q1, qP, va_K.moved (u := U) (U := U.calling g mk a) (Vm.Alike.refl U.vm) qK, qD⟩, kx_rc4 hKc hPc (q0 := 0) rfl, fun U hU hW => ⟨rfl, by rw [hU], by rw [hU]; exact hPc, va_K.moved hW.alike hKc, hDc.weaken (fun _ _ _ _ => trivial)⟩⟩ rfl rfl hl.1 rfl (lv_room (Nat.le_of_ble_eq_true rfl)) dL_law_276 (lw_fitJ hj hL (Nat.le_of_ble_eq_true rfl) (Nat.le_of_ble_eq_true rfl))) hS (fun q _ h => hFc q h) hFc (fun r_3 u t H1 locs ht hvm w_3 hB hz1 hk1 hS => ?_)
  obtain ⟨o_4, o_5⟩ := u
  dsimp only at w_3 hB
  obtain ⟨hP1, hK1, hD1⟩ := hB
  rw [ht] at hP1
  have hK1 := va_K.moved hvm.symm hK1
  obtain ⟨hP, hD⟩ := kx_joinM (w2 := [kx_4 xm_ xq_row xq_t xt_ xh0 xk0 xw_ xz_ slots o_4, kx_2 xq_t xq_row xq_joined xq_from xq_to xq_size xq_lossOf xq_lessBy xq_value xq_number nodes here, kx_0 xq_row xq_cell o_5, kx_a xq_cell cyI 160 f, kx_a xq_from cyI 319 ff, kx_a xq_to cyI 319 ft, kx_a xq_size cyI 319 fs, kx_a xq_lossOf cyI 319 fo, kx_a xq_lessBy cyI 319 fe, kx_a xq_value cyI 1914 uv, kx_a xq_number cyI 1914 un, kx_3 xq_joined xj_v xj_n js jl je, kx_a xj_v cyI 12 jv, kx_a xj_n cyI 12 jn, kx_3 xh0 xa_v xa_n vs lo le, kx_a xa_v cyI 12 fv, kx_a xa_n cyI 12 fn, kx_3 xk0 xkv xkn sb lb eb, kx_a xkv cyI 12 gb, kx_a xkn cyI 12 nb, kx_1 xt_ xt_k xt_o tk mo, kx_a xt_k cyI 160 fk, kx_a xt_o cyI 160 fq, kx_a xw_ cyI 160 fw, kx_a xz_ cyI 161 fz, kx_5 yh0 yg_row len slots u_thrown yg_many yg_loss yg_less yg_voteValue yg_voteNumber yg_allValue yg_allNumber u_allMany yg_nodeL yg_nodeR u_nodes yg_part u_partMany yg_wasMany yg_wasLoss yg_wasValue yg_wasNumber yg_path u_pathMany yg_heavyValue yg_heavyTimes u_heavyMany yg_fewest yg_which yg_met u_mostMet, kx_a yg_row cyI 160 f, kx_a yg_many cyI 324 u_many, kx_a yg_loss cyI 324 u_loss, kx_a yg_less cyI 324 u_less, kx_a yg_voteValue cyI 1944 u_voteValue, kx_a yg_voteNumber cyI 1944 u_voteNumber, kx_a yg_allValue cyI 12 u_allValue, kx_a yg_allNumber cyI 12 u_allNumber, kx_a yg_nodeL cyI 320 u_nodeL, kx_a yg_nodeR cyI 320 u_nodeR, kx_a yg_part cyI 320 u_part, kx_a yg_wasMany cyI 320 u_wasMany, kx_a yg_wasLoss cyI 320 u_wasLoss, kx_a yg_wasValue cyI 1920 u_wasValue, kx_a yg_wasNumber cyI 1920 u_wasNumber, kx_a yg_path cyI 12 u_path, kx_a yg_heavyValue cyI 160 u_heavyValue, kx_a yg_heavyTimes cyI 160 u_heavyTimes, kx_a yg_fewest cyI 161 u_fewest, kx_a yg_which cyI 160 u_which, kx_a yg_met cyI 160 u_met, (q_o, .inl (cyL, 1, .inr (.inl ol)))]) hP hD hP1 hD1 hk1 hFc [true, false, true, false, false, false, false, false, false, false, false, false, false, false, false, false, false, false, false, false, false, false, false, false, false, false, false, false, false, false, false, false, false, false, false, false, false, false, false, false, false, false, false, false, false, false, false, false] hCc rfl
  clear hP1 hD1 hK1 hk1 hz1 hFc hDc hPc hKc hCc
  generalize H1 = H at hP hS ⊢
  have w_3 : ((0 ≤ y_2.toInt ∧ y_2.toInt ≤ len.toInt ∧ r_3 = y_2 ∧ o_5 = y_2 ∧ o_4 = 1) ∨ ((y_2.toInt < 0 ∨ len.toInt < y_2.toInt) ∧ r_3 = -1 ∧ o_5 = len ∧ o_4 = old)) := w_3
  refine lv_pop hx hb dL_law_279 rfl ?_
  refine lv_aload_n hx hb dL_law_280 rfl (lv_at hl 2 rfl) ?_
  refine lv_aload_n hx hb dL_law_281 rfl (lv_at hl 4 rfl) ?_
  refine lv_iload hx hb dL_law_282 (lv_at hl 0 rfl) ?_
  refine lv_iconst (v := 1) hx hb dL_law_284 (by decide) ?_
  refine lv_iadd hx hb dL_law_285 ?_
  refine lv_topi (fun y_6 ey_6 => ?_)
  have i_6 : y_6.toInt = ix.toInt + 1 := ki_add ey_6 rfl rfl (om_568 hix hj0) (om_569 hix hjI hLI)
  refine va_sld hx hb hX hbl hbA hS (i := y_6) (ki_in (om_570 hix hj0 i_6) (om_571 hix hjI i_6)) dL_law_286 ?_
  refine lv_topi (fun y_7 ey_7 => ?_)
  have qy_7 : y_2 = y_7 := by rw [ey_2, ey_7, ki_nateq (show y_1.toInt = y_6.toInt from (om_576 i_1 i_6))]
  subst qy_7
  obtain ⟨hPc, hDc, hFc, hCc⟩ := kx_preM (wc := [kx_5 yh0 yg_row len slots u_thrown yg_many yg_loss yg_less yg_voteValue yg_voteNumber yg_allValue yg_allNumber u_allMany yg_nodeL yg_nodeR u_nodes yg_part u_partMany yg_wasMany yg_wasLoss yg_wasValue yg_wasNumber yg_path u_pathMany yg_heavyValue yg_heavyTimes u_heavyMany yg_fewest yg_which yg_met u_mostMet]) hP hD hS hA [false, false, false, false, false, false, false, false, false, false, false, false, false, false, false, false, false, false, false, false, false, false, false, false, false, true, false, false, false, false, false, false, false, false, false, false, false, false, false, false, false, false, false, false, false, false, false, false] rfl
  have hKc := hK.sub (tys' := []) [] rfl
  refine va_calli (va_runV (As := [.int y_2]) (rest := []) ⟨hx, hb, hml, hown, (lwC_X5_end hts0)⟩ (kx_un (c_X5_end l dC dI yh0 yg_row yg_many yg_loss yg_less yg_voteValue yg_voteNumber yg_allValue yg_allNumber yg_nodeL yg_nodeR yg_part yg_wasMany yg_wasLoss yg_wasValue yg_wasNumber yg_path yg_heavyValue yg_heavyTimes yg_fewest yg_which yg_met len slots u_thrown u_allMany u_nodes u_partMany u_pathMany u_heavyMany u_mostMet y_2 H.size)) (cwV 1 (lwC_X5_end hts0) lwG_X5_end rfl rfl rfl (by decide +kernel) ⟨Nat.le_of_ble_eq_true rfl, Nat.le_of_ble_eq_true rfl⟩) ⟨fun a U g mk q => by obtain ⟨q0, q1, qP, qK, qD⟩ := q; exact ⟨q0, q1, qP, va_K.moved (u := U) (U := U.calling g mk a) (Vm.Alike.refl U.vm) qK, qD⟩, kx_rc5 hKc hPc (q0 := 0) rfl, fun U hU hW => ⟨rfl, by rw [hU], by rw [hU]; exact hPc, va_K.moved hW.alike hKc, hDc.weaken (fun _ _ _ _ => trivial)⟩⟩ rfl rfl hl.1 rfl (lv_room (Nat.le_of_ble_eq_true rfl)) dL_law_287 (lw_fitJ hj hL (Nat.le_of_ble_eq_true rfl) (Nat.le_of_ble_eq_true rfl))) hS (fun q _ h => hFc q h) hFc (fun r_8 u t H1 locs ht hvm w_8 hB hz1 hk1 hS => ?_)
  obtain ⟨o_9, rfl⟩ : ∃ z, z = u := ⟨_, rfl⟩
  obtain ⟨hP1, hK1, hD1⟩ := hB
  rw [ht] at hP1
  have hK1 := va_K.moved hvm.symm hK1
  obtain ⟨hP, hD⟩ := kx_joinM (w2 := [kx_4 xm_ xq_row xq_t xt_ xh0 xk0 xw_ xz_ slots o_4, kx_2 xq_t xq_row xq_joined xq_from xq_to xq_size xq_lossOf xq_lessBy xq_value xq_number nodes here, kx_0 xq_row xq_cell o_5, kx_a xq_cell cyI 160 f, kx_a xq_from cyI 319 ff, kx_a xq_to cyI 319 ft, kx_a xq_size cyI 319 fs, kx_a xq_lossOf cyI 319 fo, kx_a xq_lessBy cyI 319 fe, kx_a xq_value cyI 1914 uv, kx_a xq_number cyI 1914 un, kx_3 xq_joined xj_v xj_n js jl je, kx_a xj_v cyI 12 jv, kx_a xj_n cyI 12 jn, kx_3 xh0 xa_v xa_n vs lo le, kx_a xa_v cyI 12 fv, kx_a xa_n cyI 12 fn, kx_3 xk0 xkv xkn sb lb eb, kx_a xkv cyI 12 gb, kx_a xkn cyI 12 nb, kx_1 xt_ xt_k xt_o tk mo, kx_a xt_k cyI 160 fk, kx_a xt_o cyI 160 fq, kx_a xw_ cyI 160 fw, kx_a xz_ cyI 161 fz, kx_5 yh0 yg_row o_9 slots 0 yg_many yg_loss yg_less yg_voteValue yg_voteNumber yg_allValue yg_allNumber u_allMany yg_nodeL yg_nodeR u_nodes yg_part u_partMany yg_wasMany yg_wasLoss yg_wasValue yg_wasNumber yg_path u_pathMany yg_heavyValue yg_heavyTimes u_heavyMany yg_fewest yg_which yg_met u_mostMet, kx_a yg_row cyI 160 f, kx_a yg_many cyI 324 u_many, kx_a yg_loss cyI 324 u_loss, kx_a yg_less cyI 324 u_less, kx_a yg_voteValue cyI 1944 u_voteValue, kx_a yg_voteNumber cyI 1944 u_voteNumber, kx_a yg_allValue cyI 12 u_allValue, kx_a yg_allNumber cyI 12 u_allNumber, kx_a yg_nodeL cyI 320 u_nodeL, kx_a yg_nodeR cyI 320 u_nodeR, kx_a yg_part cyI 320 u_part, kx_a yg_wasMany cyI 320 u_wasMany, kx_a yg_wasLoss cyI 320 u_wasLoss, kx_a yg_wasValue cyI 1920 u_wasValue, kx_a yg_wasNumber cyI 1920 u_wasNumber, kx_a yg_path cyI 12 u_path, kx_a yg_heavyValue cyI 160 u_heavyValue, kx_a yg_heavyTimes cyI 160 u_heavyTimes, kx_a yg_fewest cyI 161 u_fewest, kx_a yg_which cyI 160 u_which, kx_a yg_met cyI 160 u_met, (q_o, .inl (cyL, 1, .inr (.inl ol)))]) hP hD hP1 hD1 hk1 hFc [false, false, false, false, false, false, false, false, false, false, false, false, false, false, false, false, false, false, false, false, false, false, false, false, false, true, false, false, false, false, false, false, false, false, false, false, false, false, false, false, false, false, false, false, false, false, false, false] hCc rfl
  clear hP1 hD1 hK1 hk1 hz1 hFc hDc hPc hKc hCc
  generalize H1 = H at hP hS ⊢
  have w_8 : ((0 ≤ y_2.toInt ∧ y_2.toInt ≤ len.toInt ∧ r_8 = y_2 ∧ o_9 = y_2) ∨ ((y_2.toInt < 0 ∨ len.toInt < y_2.toInt) ∧ r_8 = -1 ∧ o_9 = len)) := w_8
  refine lv_pop hx hb dL_law_290 rfl ?_
  refine lv_goto (tgt := 2288) hx hb dL_law_291 (by decide) ?_
  obtain ⟨x_10, ex_10⟩ : ∃ y : Int32, y = ix + 8 := ⟨_, rfl⟩
  have i_10 : x_10.toInt = ix.toInt + 8 := ki_add ex_10 rfl rfl (om_578 hix hj0) (om_579 hix hjI hLI)
  refine lv_iinc (v := x_10) (lv' := [(4, .int x_10), (3, .ref q_o), (2, .ref yh0), (1, .ref xm_), (0, .ref b)]) hx hb dL_law_2288 hl (k := 0) rfl (by rw [ex_10]; rfl) (by decide) rfl (fun ls hl => ?_)
  refine lv_goto (tgt := 23) hx hb dL_law_2291 (by decide) ?_
  have hEq : o_9 = o_5 ∧ (o_4 = 1 ∨ (o_4 = old ∧ o_5 = len)) := by
    rcases w_3 with ⟨a0, a1, a2, a3, a4⟩ | ⟨a1, a2, a3, a4⟩ <;> rcases w_8 with ⟨b0, b1, b2, b3⟩ | ⟨b1, b2, b3⟩
    · exact ⟨by rw [a3, b3], Or.inl a4⟩
    · exfalso; omega
    · exfalso; omega
    · exact ⟨by rw [a3, b3], Or.inr ⟨a4, a3⟩⟩
  have hLn : 0 ≤ o_5.toInt ∧ o_5.toInt ≤ 160 := by rcases w_3 with ⟨a0, a1, a2, a3, a4⟩ | ⟨a1, a2, a3, a4⟩; exact ⟨by rw [a3]; omega, by rw [a3]; omega⟩; exact ⟨by rw [a3]; omega, by rw [a3]; omega⟩
  have hO6 : o_4 = 1 ∨ (o_4 = old ∧ o_5 = len ∧ f = f ∧ slots = slots) := by rcases w_3 with ⟨a0, a1, a2, a3, a4⟩ | ⟨a1, a2, a3, a4⟩; exact Or.inl a4; exact Or.inr ⟨a4, a3, rfl, rfl⟩
  rw [hEq.1] at hP hD
  obtain ⟨hP, hD⟩ := kx_re (w2 := [kx_4 xm_ xq_row xq_t xt_ xh0 xk0 xw_ xz_ slots o_4, kx_2 xq_t xq_row xq_joined xq_from xq_to xq_size xq_lossOf xq_lessBy xq_value xq_number nodes here, kx_0 xq_row xq_cell o_5, kx_a xq_cell cyI 160 f, kx_a xq_from cyI 319 ff, kx_a xq_to cyI 319 ft, kx_a xq_size cyI 319 fs, kx_a xq_lossOf cyI 319 fo, kx_a xq_lessBy cyI 319 fe, kx_a xq_value cyI 1914 uv, kx_a xq_number cyI 1914 un, kx_3 xq_joined xj_v xj_n js jl je, kx_a xj_v cyI 12 jv, kx_a xj_n cyI 12 jn, kx_3 xh0 xa_v xa_n vs lo le, kx_a xa_v cyI 12 fv, kx_a xa_n cyI 12 fn, kx_3 xk0 xkv xkn sb lb eb, kx_a xkv cyI 12 gb, kx_a xkn cyI 12 nb, kx_1 xt_ xt_k xt_o tk mo, kx_a xt_k cyI 160 fk, kx_a xt_o cyI 160 fq, kx_a xw_ cyI 160 fw, kx_a xz_ cyI 161 fz, kx_5 yh0 yg_row o_5 slots 0 yg_many yg_loss yg_less yg_voteValue yg_voteNumber yg_allValue yg_allNumber u_allMany yg_nodeL yg_nodeR u_nodes yg_part u_partMany yg_wasMany yg_wasLoss yg_wasValue yg_wasNumber yg_path u_pathMany yg_heavyValue yg_heavyTimes u_heavyMany yg_fewest yg_which yg_met u_mostMet, kx_a yg_row cyI 160 f, kx_a yg_many cyI 324 u_many, kx_a yg_loss cyI 324 u_loss, kx_a yg_less cyI 324 u_less, kx_a yg_voteValue cyI 1944 u_voteValue, kx_a yg_voteNumber cyI 1944 u_voteNumber, kx_a yg_allValue cyI 12 u_allValue, kx_a yg_allNumber cyI 12 u_allNumber, kx_a yg_nodeL cyI 320 u_nodeL, kx_a yg_nodeR cyI 320 u_nodeR, kx_a yg_part cyI 320 u_part, kx_a yg_wasMany cyI 320 u_wasMany, kx_a yg_wasLoss cyI 320 u_wasLoss, kx_a yg_wasValue cyI 1920 u_wasValue, kx_a yg_wasNumber cyI 1920 u_wasNumber, kx_a yg_path cyI 12 u_path, kx_a yg_heavyValue cyI 160 u_heavyValue, kx_a yg_heavyTimes cyI 160 u_heavyTimes, kx_a yg_fewest cyI 161 u_fewest, kx_a yg_which cyI 160 u_which, kx_a yg_met cyI 160 u_met, (q_o, .inl (cyL, 1, .inr (.inl ol)))]) hP hD rfl
  refine W.widen (k := 60 + 2 * (j + 1)) (n := 20000 + 12 * (j + 1)) (lw_wdC (k := 0) (Nat.le_of_ble_eq_true rfl)) (lw_wdS (k := 0) (Nat.le_of_ble_eq_true rfl)) ?_
  have k_11 : (0 : Int32).toInt = 0 := rfl
  exact ih o_5 slots o_4 nodes here js jl je vs lo le sb lb eb tk mo 0 u_allMany u_nodes u_partMany u_pathMany u_heavyMany u_mostMet f ff ft fs fo fe uv un jv jn fv fn gb nb fk fq fw fz u_many u_loss u_less u_voteValue u_voteNumber u_allValue u_allNumber u_nodeL u_nodeR u_part u_wasMany u_wasLoss u_wasValue u_wasNumber u_path u_heavyValue u_heavyTimes u_fewest u_which u_met ol x_10 (om_ix i_10 hix) hLn.1 hLn.2 I2 I3 I4 I5 (laidX_new I6 hO6) I7 I8 _ _ ls hP hD hS (lv_sub hl [0, 1, 2, 3, 4] rfl)

set_option maxHeartbeats 4000000 in
set_option maxRecDepth 100000 in
theorem lc_2 {p : Program} {l : Launch} {e : Env} {s : State} {m : MethodId} {below : List Frame} {meth : Method} {c : Code} {dC : Nat → ClassId} {dI : Nat → Nat → Nat} {b : Nat} {xs : Nat → Int32} (hl0 : l.stackTraces = false) {L j : Nat} (hL : L ≤ 4096) (hj : 8 * j + 8 ≤ L) (C0 : lw_At p s m meth c b L xs) (hth : ki_ThA (fun q : Nat => s.heap.size ≤ q) s) {cyI cyL : ClassId} {xm_ xq_t xq_row xq_cell xq_from xq_to xq_size xq_lossOf xq_lessBy xq_value xq_number xq_joined xj_v xj_n xh0 xa_v xa_n xk0 xkv xkn xt_ xt_k xt_o xw_ xz_ yh0 yg_row yg_many yg_loss yg_less yg_voteValue yg_voteNumber yg_allValue yg_allNumber yg_nodeL yg_nodeR yg_part yg_wasMany yg_wasLoss yg_wasValue yg_wasNumber yg_path yg_heavyValue yg_heavyTimes yg_fewest yg_which yg_met q_o : Nat} (hK : va_K (dC, dI) vwCl [(cyI, .int), (cyL, .long)] s) (ih : lw_G p l e s m below meth c b dC dI cyI cyL xm_ xq_t xq_row xq_cell xq_from xq_to xq_size xq_lossOf xq_lessBy xq_value xq_number xq_joined xj_v xj_n xh0 xa_v xa_n xk0 xkv xkn xt_ xt_k xt_o xw_ xz_ yh0 yg_row yg_many yg_loss yg_less yg_voteValue yg_voteNumber yg_allValue yg_allNumber yg_nodeL yg_nodeR yg_part yg_wasMany yg_wasLoss yg_wasValue yg_wasNumber yg_path yg_heavyValue yg_heavyTimes yg_fewest yg_which yg_met q_o (j + 1)) {len slots old nodes here js jl je vs lo le sb lb eb tk mo u_thrown u_allMany u_nodes u_partMany u_pathMany u_heavyMany u_mostMet ix : Int32} {f ff ft fs fo fe uv un jv jn fv fn gb nb fk fq fw fz u_many u_loss u_less u_voteValue u_voteNumber u_allValue u_allNumber u_nodeL u_nodeR u_part u_wasMany u_wasLoss u_wasValue u_wasNumber u_path u_heavyValue u_heavyTimes u_fewest u_which u_met : Nat → Int32} {ol : Nat → Int64} (hix : ix.toInt = 8 * (j : Int)) (I0 : 0 ≤ len.toInt) (I1 : len.toInt ≤ 160) (I2 : 1 ≤ slots.toInt) (I3 : slots.toInt ≤ 6) (I4 : shorts f) (I5 : sixes fs) (I6 : laidX old slots here f ff ft fs fo fe uv un nodes len) (I7 : six4 u_many) (I8 : parts320 u_part) {H : Heap} {locs : List Loc} (hP : va_P (dC, dI) vwCl [kx_4 xm_ xq_row xq_t xt_ xh0 xk0 xw_ xz_ slots old, kx_2 xq_t xq_row xq_joined xq_from xq_to xq_size xq_lossOf xq_lessBy xq_value xq_number nodes here, kx_0 xq_row xq_cell len, kx_a xq_cell cyI 160 f, kx_a xq_from cyI 319 ff, kx_a xq_to cyI 319 ft, kx_a xq_size cyI 319 fs, kx_a xq_lossOf cyI 319 fo, kx_a xq_lessBy cyI 319 fe, kx_a xq_value cyI 1914 uv, kx_a xq_number cyI 1914 un, kx_3 xq_joined xj_v xj_n js jl je, kx_a xj_v cyI 12 jv, kx_a xj_n cyI 12 jn, kx_3 xh0 xa_v xa_n vs lo le, kx_a xa_v cyI 12 fv, kx_a xa_n cyI 12 fn, kx_3 xk0 xkv xkn sb lb eb, kx_a xkv cyI 12 gb, kx_a xkn cyI 12 nb, kx_1 xt_ xt_k xt_o tk mo, kx_a xt_k cyI 160 fk, kx_a xt_o cyI 160 fq, kx_a xw_ cyI 160 fw, kx_a xz_ cyI 161 fz, kx_5 yh0 yg_row len slots u_thrown yg_many yg_loss yg_less yg_voteValue yg_voteNumber yg_allValue yg_allNumber u_allMany yg_nodeL yg_nodeR u_nodes yg_part u_partMany yg_wasMany yg_wasLoss yg_wasValue yg_wasNumber yg_path u_pathMany yg_heavyValue yg_heavyTimes u_heavyMany yg_fewest yg_which yg_met u_mostMet, kx_a yg_row cyI 160 f, kx_a yg_many cyI 324 u_many, kx_a yg_loss cyI 324 u_loss, kx_a yg_less cyI 324 u_less, kx_a yg_voteValue cyI 1944 u_voteValue, kx_a yg_voteNumber cyI 1944 u_voteNumber, kx_a yg_allValue cyI 12 u_allValue, kx_a yg_allNumber cyI 12 u_allNumber, kx_a yg_nodeL cyI 320 u_nodeL, kx_a yg_nodeR cyI 320 u_nodeR, kx_a yg_part cyI 320 u_part, kx_a yg_wasMany cyI 320 u_wasMany, kx_a yg_wasLoss cyI 320 u_wasLoss, kx_a yg_wasValue cyI 1920 u_wasValue, kx_a yg_wasNumber cyI 1920 u_wasNumber, kx_a yg_path cyI 12 u_path, kx_a yg_heavyValue cyI 160 u_heavyValue, kx_a yg_heavyTimes cyI 160 u_heavyTimes, kx_a yg_fewest cyI 161 u_fewest, kx_a yg_which cyI 160 u_which, kx_a yg_met cyI 160 u_met, (q_o, .inl (cyL, 1, .inr (.inl ol)))] H) (hD : va_D (fun q : Nat => s.heap.size ≤ q) [kx_4 xm_ xq_row xq_t xt_ xh0 xk0 xw_ xz_ slots old, kx_2 xq_t xq_row xq_joined xq_from xq_to xq_size xq_lossOf xq_lessBy xq_value xq_number nodes here, kx_0 xq_row xq_cell len, kx_a xq_cell cyI 160 f, kx_a xq_from cyI 319 ff, kx_a xq_to cyI 319 ft, kx_a xq_size cyI 319 fs, kx_a xq_lossOf cyI 319 fo, kx_a xq_lessBy cyI 319 fe, kx_a xq_value cyI 1914 uv, kx_a xq_number cyI 1914 un, kx_3 xq_joined xj_v xj_n js jl je, kx_a xj_v cyI 12 jv, kx_a xj_n cyI 12 jn, kx_3 xh0 xa_v xa_n vs lo le, kx_a xa_v cyI 12 fv, kx_a xa_n cyI 12 fn, kx_3 xk0 xkv xkn sb lb eb, kx_a xkv cyI 12 gb, kx_a xkn cyI 12 nb, kx_1 xt_ xt_k xt_o tk mo, kx_a xt_k cyI 160 fk, kx_a xt_o cyI 160 fq, kx_a xw_ cyI 160 fw, kx_a xz_ cyI 161 fz, kx_5 yh0 yg_row len slots u_thrown yg_many yg_loss yg_less yg_voteValue yg_voteNumber yg_allValue yg_allNumber u_allMany yg_nodeL yg_nodeR u_nodes yg_part u_partMany yg_wasMany yg_wasLoss yg_wasValue yg_wasNumber yg_path u_pathMany yg_heavyValue yg_heavyTimes u_heavyMany yg_fewest yg_which yg_met u_mostMet, kx_a yg_row cyI 160 f, kx_a yg_many cyI 324 u_many, kx_a yg_loss cyI 324 u_loss, kx_a yg_less cyI 324 u_less, kx_a yg_voteValue cyI 1944 u_voteValue, kx_a yg_voteNumber cyI 1944 u_voteNumber, kx_a yg_allValue cyI 12 u_allValue, kx_a yg_allNumber cyI 12 u_allNumber, kx_a yg_nodeL cyI 320 u_nodeL, kx_a yg_nodeR cyI 320 u_nodeR, kx_a yg_part cyI 320 u_part, kx_a yg_wasMany cyI 320 u_wasMany, kx_a yg_wasLoss cyI 320 u_wasLoss, kx_a yg_wasValue cyI 1920 u_wasValue, kx_a yg_wasNumber cyI 1920 u_wasNumber, kx_a yg_path cyI 12 u_path, kx_a yg_heavyValue cyI 160 u_heavyValue, kx_a yg_heavyTimes cyI 160 u_heavyTimes, kx_a yg_fewest cyI 161 u_fewest, kx_a yg_which cyI 160 u_which, kx_a yg_met cyI 160 u_met, (q_o, .inl (cyL, 1, .inr (.inl ol)))]) (hS : va_S (fun q : Nat => s.heap.size ≤ q) s.heap H locs) {ls : Array Slot} (hl : lv_has ls 7 [(4, .int ix), (3, .ref q_o), (2, .ref yh0), (1, .ref xm_), (0, .ref b)]) : W p l e room_1 s m #[Value.ref b] below meth c H locs (60 + 2 * j) (20000 + 12 * j) (lw_Z below #[Value.ref b] s) (F0 m 294 ls []) := by
  obtain ⟨hx, hb, hr, hml, hown, hts0, hX, hbl, hlocks, hgv⟩ := id C0
  have hts := hts0
  have hA : ∀ q : Nat, s.heap.size ≤ q → (fun q : Nat => s.heap.size ≤ q) q := fun _ h => h
  have hbA : ¬ (fun q : Nat => s.heap.size ≤ q) b := Nat.not_le.mpr hbl
  have hown : s.vm.findClass RL = some m.cls := hown
  have hb : c.code = cL_law := hb
  have hj0 : 0 ≤ (j : Int) := Int.natCast_nonneg j
  have hjI : 8 * (j : Int) + 8 ≤ (L : Int) := lw_jI hj
  have hLI : (L : Int) ≤ 4096 := lw_LI hL
  refine lv_aload_n hx hb dL_law_294 rfl (lv_at hl 3 rfl) ?_
  refine lv_aload_n hx hb dL_law_295 rfl (lv_at hl 4 rfl) ?_
  refine lv_iload hx hb dL_law_296 (lv_at hl 0 rfl) ?_
  refine lv_iconst (v := 1) hx hb dL_law_298 (by decide) ?_
  refine lv_iadd hx hb dL_law_299 ?_
  refine lv_topi (fun y_1 ey_1 => ?_)
  have i_1 : y_1.toInt = ix.toInt + 1 := ki_add ey_1 rfl rfl (om_568 hix hj0) (om_569 hix hjI hLI)
  refine va_sld hx hb hX hbl hbA hS (i := y_1) (ki_in (om_570 hix hj0 i_1) (om_571 hix hjI i_1)) dL_law_300 ?_
  refine lv_topi (fun y_2 ey_2 => ?_)
  obtain ⟨hPc, hDc, hFc, hCc⟩ := kx_preM (wc := [kx_4 xm_ xq_row xq_t xt_ xh0 xk0 xw_ xz_ slots old]) hP hD hS hA [true, false, false, false, false, false, false, false, false, false, false, false, false, false, false, false, false, false, false, false, false, false, false, false, false, false, false, false, false, false, false, false, false, false, false, false, false, false, false, false, false, false, false, false, false, false, false, false] rfl
  have hKc := hK.sub (tys' := []) [] rfl
  refine va_calli (va_runV (As := [.int y_2]) (rest := []) ⟨hx, hb, hml, hown, (lwC_X4_slots hts0)⟩ (kx_un (c_X4_slots l dC dI xm_ xq_row xq_t xt_ xh0 xk0 xw_ xz_ slots old y_2 H.size)) (cwV 1 (lwC_X4_slots hts0) lwG_X4_slots rfl rfl rfl (by decide +kernel) ⟨Nat.le_of_ble_eq_true rfl, Nat.le_of_ble_eq_true rfl⟩) ⟨fun a U g mk q => by obtain ⟨q0, q1, qP, qK, qD⟩ := q; exact ⟨q0, q1, qP, va_K.moved (u := U) (U := U.calling g mk a) (Vm.Alike.refl U.vm) qK, qD⟩, kx_rc4 hKc hPc (q0 := 0) rfl, fun U hU hW => ⟨rfl, by rw [hU], by rw [hU]; exact hPc, va_K.moved hW.alike hKc, hDc.weaken (fun _ _ _ _ => trivial)⟩⟩ rfl rfl hl.1 rfl (lv_room (Nat.le_of_ble_eq_true rfl)) dL_law_301 (lw_fitJ hj hL (Nat.le_of_ble_eq_true rfl) (Nat.le_of_ble_eq_true rfl))) hS (fun q _ h => hFc q h) hFc (fun r_3 u t H1 locs ht hvm w_3 hB hz1 hk1 hS => ?_)
  obtain ⟨o_4, o_5⟩ := u
  dsimp only at w_3 hB
  obtain ⟨hP1, hK1, hD1⟩ := hB
  rw [ht] at hP1
  have hK1 := va_K.moved hvm.symm hK1
  obtain ⟨hP, hD⟩ := kx_joinM (w2 := [kx_4 xm_ xq_row xq_t xt_ xh0 xk0 xw_ xz_ o_4 o_5, kx_2 xq_t xq_row xq_joined xq_from xq_to xq_size xq_lossOf xq_lessBy xq_value xq_number nodes here, kx_0 xq_row xq_cell len, kx_a xq_cell cyI 160 f, kx_a xq_from cyI 319 ff, kx_a xq_to cyI 319 ft, kx_a xq_size cyI 319 fs, kx_a xq_lossOf cyI 319 fo, kx_a xq_lessBy cyI 319 fe, kx_a xq_value cyI 1914 uv, kx_a xq_number cyI 1914 un, kx_3 xq_joined xj_v xj_n js jl je, kx_a xj_v cyI 12 jv, kx_a xj_n cyI 12 jn, kx_3 xh0 xa_v xa_n vs lo le, kx_a xa_v cyI 12 fv, kx_a xa_n cyI 12 fn, kx_3 xk0 xkv xkn sb lb eb, kx_a xkv cyI 12 gb, kx_a xkn cyI 12 nb, kx_1 xt_ xt_k xt_o tk mo, kx_a xt_k cyI 160 fk, kx_a xt_o cyI 160 fq, kx_a xw_ cyI 160 fw, kx_a xz_ cyI 161 fz, kx_5 yh0 yg_row len slots u_thrown yg_many yg_loss yg_less yg_voteValue yg_voteNumber yg_allValue yg_allNumber u_allMany yg_nodeL yg_nodeR u_nodes yg_part u_partMany yg_wasMany yg_wasLoss yg_wasValue yg_wasNumber yg_path u_pathMany yg_heavyValue yg_heavyTimes u_heavyMany yg_fewest yg_which yg_met u_mostMet, kx_a yg_row cyI 160 f, kx_a yg_many cyI 324 u_many, kx_a yg_loss cyI 324 u_loss, kx_a yg_less cyI 324 u_less, kx_a yg_voteValue cyI 1944 u_voteValue, kx_a yg_voteNumber cyI 1944 u_voteNumber, kx_a yg_allValue cyI 12 u_allValue, kx_a yg_allNumber cyI 12 u_allNumber, kx_a yg_nodeL cyI 320 u_nodeL, kx_a yg_nodeR cyI 320 u_nodeR, kx_a yg_part cyI 320 u_part, kx_a yg_wasMany cyI 320 u_wasMany, kx_a yg_wasLoss cyI 320 u_wasLoss, kx_a yg_wasValue cyI 1920 u_wasValue, kx_a yg_wasNumber cyI 1920 u_wasNumber, kx_a yg_path cyI 12 u_path, kx_a yg_heavyValue cyI 160 u_heavyValue, kx_a yg_heavyTimes cyI 160 u_heavyTimes, kx_a yg_fewest cyI 161 u_fewest, kx_a yg_which cyI 160 u_which, kx_a yg_met cyI 160 u_met, (q_o, .inl (cyL, 1, .inr (.inl ol)))]) hP hD hP1 hD1 hk1 hFc [true, false, false, false, false, false, false, false, false, false, false, false, false, false, false, false, false, false, false, false, false, false, false, false, false, false, false, false, false, false, false, false, false, false, false, false, false, false, false, false, false, false, false, false, false, false, false, false] hCc rfl
  clear hP1 hD1 hK1 hk1 hz1 hFc hDc hPc hKc hCc
  generalize H1 = H at hP hS ⊢
  have w_3 : ((1 ≤ y_2.toInt ∧ y_2.toInt ≤ 6 ∧ r_3 = slots ∧ o_4 = y_2 ∧ o_5 = 1) ∨ ((y_2.toInt < 1 ∨ 6 < y_2.toInt) ∧ r_3 = -1 ∧ o_4 = slots ∧ o_5 = old)) := w_3
  refine lv_pop hx hb dL_law_304 rfl ?_
  refine lv_aload_n hx hb dL_law_305 rfl (lv_at hl 2 rfl) ?_
  refine lv_aload_n hx hb dL_law_306 rfl (lv_at hl 4 rfl) ?_
  refine lv_iload hx hb dL_law_307 (lv_at hl 0 rfl) ?_
  refine lv_iconst (v := 1) hx hb dL_law_309 (by decide) ?_
  refine lv_iadd hx hb dL_law_310 ?_
  refine lv_topi (fun y_6 ey_6 => ?_)
  have i_6 : y_6.toInt = ix.toInt + 1 := ki_add ey_6 rfl rfl (om_568 hix hj0) (om_569 hix hjI hLI)
  refine va_sld hx hb hX hbl hbA hS (i := y_6) (ki_in (om_570 hix hj0 i_6) (om_571 hix hjI i_6)) dL_law_311 ?_
  refine lv_topi (fun y_7 ey_7 => ?_)
  have qy_7 : y_2 = y_7 := by rw [ey_2, ey_7, ki_nateq (show y_1.toInt = y_6.toInt from (om_576 i_1 i_6))]
  subst qy_7
  obtain ⟨hPc, hDc, hFc, hCc⟩ := kx_preM (wc := [kx_5 yh0 yg_row len slots u_thrown yg_many yg_loss yg_less yg_voteValue yg_voteNumber yg_allValue yg_allNumber u_allMany yg_nodeL yg_nodeR u_nodes yg_part u_partMany yg_wasMany yg_wasLoss yg_wasValue yg_wasNumber yg_path u_pathMany yg_heavyValue yg_heavyTimes u_heavyMany yg_fewest yg_which yg_met u_mostMet]) hP hD hS hA [false, false, false, false, false, false, false, false, false, false, false, false, false, false, false, false, false, false, false, false, false, false, false, false, false, true, false, false, false, false, false, false, false, false, false, false, false, false, false, false, false, false, false, false, false, false, false, false] rfl
  have hKc := hK.sub (tys' := []) [] rfl
  refine va_calli (va_runV (As := [.int y_2]) (rest := []) ⟨hx, hb, hml, hown, (lwC_X5_slots hts0)⟩ (kx_un (c_X5_slots l dC dI yh0 yg_row yg_many yg_loss yg_less yg_voteValue yg_voteNumber yg_allValue yg_allNumber yg_nodeL yg_nodeR yg_part yg_wasMany yg_wasLoss yg_wasValue yg_wasNumber yg_path yg_heavyValue yg_heavyTimes yg_fewest yg_which yg_met len slots u_thrown u_allMany u_nodes u_partMany u_pathMany u_heavyMany u_mostMet y_2 H.size)) (cwV 1 (lwC_X5_slots hts0) lwG_X5_slots rfl rfl rfl (by decide +kernel) ⟨Nat.le_of_ble_eq_true rfl, Nat.le_of_ble_eq_true rfl⟩) ⟨fun a U g mk q => by obtain ⟨q0, q1, qP, qK, qD⟩ := q; exact ⟨q0, q1, qP, va_K.moved (u := U) (U := U.calling g mk a) (Vm.Alike.refl U.vm) qK, qD⟩, kx_rc5 hKc hPc (q0 := 0) rfl, fun U hU hW => ⟨rfl, by rw [hU], by rw [hU]; exact hPc, va_K.moved hW.alike hKc, hDc.weaken (fun _ _ _ _ => trivial)⟩⟩ rfl rfl hl.1 rfl (lv_room (Nat.le_of_ble_eq_true rfl)) dL_law_312 (lw_fitJ hj hL (Nat.le_of_ble_eq_true rfl) (Nat.le_of_ble_eq_true rfl))) hS (fun q _ h => hFc q h) hFc (fun r_8 u t H1 locs ht hvm w_8 hB hz1 hk1 hS => ?_)
  obtain ⟨o_9, rfl⟩ : ∃ z, z = u := ⟨_, rfl⟩
  obtain ⟨hP1, hK1, hD1⟩ := hB
  rw [ht] at hP1
  have hK1 := va_K.moved hvm.symm hK1
  obtain ⟨hP, hD⟩ := kx_joinM (w2 := [kx_4 xm_ xq_row xq_t xt_ xh0 xk0 xw_ xz_ o_4 o_5, kx_2 xq_t xq_row xq_joined xq_from xq_to xq_size xq_lossOf xq_lessBy xq_value xq_number nodes here, kx_0 xq_row xq_cell len, kx_a xq_cell cyI 160 f, kx_a xq_from cyI 319 ff, kx_a xq_to cyI 319 ft, kx_a xq_size cyI 319 fs, kx_a xq_lossOf cyI 319 fo, kx_a xq_lessBy cyI 319 fe, kx_a xq_value cyI 1914 uv, kx_a xq_number cyI 1914 un, kx_3 xq_joined xj_v xj_n js jl je, kx_a xj_v cyI 12 jv, kx_a xj_n cyI 12 jn, kx_3 xh0 xa_v xa_n vs lo le, kx_a xa_v cyI 12 fv, kx_a xa_n cyI 12 fn, kx_3 xk0 xkv xkn sb lb eb, kx_a xkv cyI 12 gb, kx_a xkn cyI 12 nb, kx_1 xt_ xt_k xt_o tk mo, kx_a xt_k cyI 160 fk, kx_a xt_o cyI 160 fq, kx_a xw_ cyI 160 fw, kx_a xz_ cyI 161 fz, kx_5 yh0 yg_row len o_9 0 yg_many yg_loss yg_less yg_voteValue yg_voteNumber yg_allValue yg_allNumber u_allMany yg_nodeL yg_nodeR u_nodes yg_part u_partMany yg_wasMany yg_wasLoss yg_wasValue yg_wasNumber yg_path u_pathMany yg_heavyValue yg_heavyTimes u_heavyMany yg_fewest yg_which yg_met u_mostMet, kx_a yg_row cyI 160 f, kx_a yg_many cyI 324 u_many, kx_a yg_loss cyI 324 u_loss, kx_a yg_less cyI 324 u_less, kx_a yg_voteValue cyI 1944 u_voteValue, kx_a yg_voteNumber cyI 1944 u_voteNumber, kx_a yg_allValue cyI 12 u_allValue, kx_a yg_allNumber cyI 12 u_allNumber, kx_a yg_nodeL cyI 320 u_nodeL, kx_a yg_nodeR cyI 320 u_nodeR, kx_a yg_part cyI 320 u_part, kx_a yg_wasMany cyI 320 u_wasMany, kx_a yg_wasLoss cyI 320 u_wasLoss, kx_a yg_wasValue cyI 1920 u_wasValue, kx_a yg_wasNumber cyI 1920 u_wasNumber, kx_a yg_path cyI 12 u_path, kx_a yg_heavyValue cyI 160 u_heavyValue, kx_a yg_heavyTimes cyI 160 u_heavyTimes, kx_a yg_fewest cyI 161 u_fewest, kx_a yg_which cyI 160 u_which, kx_a yg_met cyI 160 u_met, (q_o, .inl (cyL, 1, .inr (.inl ol)))]) hP hD hP1 hD1 hk1 hFc [false, false, false, false, false, false, false, false, false, false, false, false, false, false, false, false, false, false, false, false, false, false, false, false, false, true, false, false, false, false, false, false, false, false, false, false, false, false, false, false, false, false, false, false, false, false, false, false] hCc rfl
  clear hP1 hD1 hK1 hk1 hz1 hFc hDc hPc hKc hCc
  generalize H1 = H at hP hS ⊢
  have w_8 : ((1 ≤ y_2.toInt ∧ y_2.toInt ≤ 6 ∧ r_8 = slots ∧ o_9 = y_2) ∨ ((y_2.toInt < 1 ∨ 6 < y_2.toInt) ∧ r_8 = -1 ∧ o_9 = slots)) := w_8
  refine lv_pop hx hb dL_law_315 rfl ?_
  refine lv_goto (tgt := 2288) hx hb dL_law_316 (by decide) ?_
  obtain ⟨x_10, ex_10⟩ : ∃ y : Int32, y = ix + 8 := ⟨_, rfl⟩
  have i_10 : x_10.toInt = ix.toInt + 8 := ki_add ex_10 rfl rfl (om_578 hix hj0) (om_579 hix hjI hLI)
  refine lv_iinc (v := x_10) (lv' := [(4, .int x_10), (3, .ref q_o), (2, .ref yh0), (1, .ref xm_), (0, .ref b)]) hx hb dL_law_2288 hl (k := 0) rfl (by rw [ex_10]; rfl) (by decide) rfl (fun ls hl => ?_)
  refine lv_goto (tgt := 23) hx hb dL_law_2291 (by decide) ?_
  have hEq : o_9 = o_4 ∧ (o_5 = 1 ∨ (o_5 = old ∧ len = len)) := by
    rcases w_3 with ⟨a0, a1, a2, a3, a4⟩ | ⟨a1, a2, a3, a4⟩ <;> rcases w_8 with ⟨b0, b1, b2, b3⟩ | ⟨b1, b2, b3⟩
    · exact ⟨by rw [a3, b3], Or.inl a4⟩
    · exfalso; omega
    · exfalso; omega
    · exact ⟨by rw [a3, b3], Or.inr ⟨a4, rfl⟩⟩
  have hSl : 1 ≤ o_4.toInt ∧ o_4.toInt ≤ 6 := by rcases w_3 with ⟨a0, a1, a2, a3, a4⟩ | ⟨a1, a2, a3, a4⟩; exact ⟨by rw [a3]; omega, by rw [a3]; omega⟩; exact ⟨by rw [a3]; omega, by rw [a3]; omega⟩
  have hO6 : o_5 = 1 ∨ (o_5 = old ∧ len = len ∧ f = f ∧ o_4 = slots) := by rcases w_3 with ⟨a0, a1, a2, a3, a4⟩ | ⟨a1, a2, a3, a4⟩; exact Or.inl a4; exact Or.inr ⟨a4, rfl, rfl, a3⟩
  rw [hEq.1] at hP hD
  obtain ⟨hP, hD⟩ := kx_re (w2 := [kx_4 xm_ xq_row xq_t xt_ xh0 xk0 xw_ xz_ o_4 o_5, kx_2 xq_t xq_row xq_joined xq_from xq_to xq_size xq_lossOf xq_lessBy xq_value xq_number nodes here, kx_0 xq_row xq_cell len, kx_a xq_cell cyI 160 f, kx_a xq_from cyI 319 ff, kx_a xq_to cyI 319 ft, kx_a xq_size cyI 319 fs, kx_a xq_lossOf cyI 319 fo, kx_a xq_lessBy cyI 319 fe, kx_a xq_value cyI 1914 uv, kx_a xq_number cyI 1914 un, kx_3 xq_joined xj_v xj_n js jl je, kx_a xj_v cyI 12 jv, kx_a xj_n cyI 12 jn, kx_3 xh0 xa_v xa_n vs lo le, kx_a xa_v cyI 12 fv, kx_a xa_n cyI 12 fn, kx_3 xk0 xkv xkn sb lb eb, kx_a xkv cyI 12 gb, kx_a xkn cyI 12 nb, kx_1 xt_ xt_k xt_o tk mo, kx_a xt_k cyI 160 fk, kx_a xt_o cyI 160 fq, kx_a xw_ cyI 160 fw, kx_a xz_ cyI 161 fz, kx_5 yh0 yg_row len o_4 0 yg_many yg_loss yg_less yg_voteValue yg_voteNumber yg_allValue yg_allNumber u_allMany yg_nodeL yg_nodeR u_nodes yg_part u_partMany yg_wasMany yg_wasLoss yg_wasValue yg_wasNumber yg_path u_pathMany yg_heavyValue yg_heavyTimes u_heavyMany yg_fewest yg_which yg_met u_mostMet, kx_a yg_row cyI 160 f, kx_a yg_many cyI 324 u_many, kx_a yg_loss cyI 324 u_loss, kx_a yg_less cyI 324 u_less, kx_a yg_voteValue cyI 1944 u_voteValue, kx_a yg_voteNumber cyI 1944 u_voteNumber, kx_a yg_allValue cyI 12 u_allValue, kx_a yg_allNumber cyI 12 u_allNumber, kx_a yg_nodeL cyI 320 u_nodeL, kx_a yg_nodeR cyI 320 u_nodeR, kx_a yg_part cyI 320 u_part, kx_a yg_wasMany cyI 320 u_wasMany, kx_a yg_wasLoss cyI 320 u_wasLoss, kx_a yg_wasValue cyI 1920 u_wasValue, kx_a yg_wasNumber cyI 1920 u_wasNumber, kx_a yg_path cyI 12 u_path, kx_a yg_heavyValue cyI 160 u_heavyValue, kx_a yg_heavyTimes cyI 160 u_heavyTimes, kx_a yg_fewest cyI 161 u_fewest, kx_a yg_which cyI 160 u_which, kx_a yg_met cyI 160 u_met, (q_o, .inl (cyL, 1, .inr (.inl ol)))]) hP hD rfl
  refine W.widen (k := 60 + 2 * (j + 1)) (n := 20000 + 12 * (j + 1)) (lw_wdC (k := 0) (Nat.le_of_ble_eq_true rfl)) (lw_wdS (k := 0) (Nat.le_of_ble_eq_true rfl)) ?_
  have k_11 : (0 : Int32).toInt = 0 := rfl
  exact ih len o_4 o_5 nodes here js jl je vs lo le sb lb eb tk mo 0 u_allMany u_nodes u_partMany u_pathMany u_heavyMany u_mostMet f ff ft fs fo fe uv un jv jn fv fn gb nb fk fq fw fz u_many u_loss u_less u_voteValue u_voteNumber u_allValue u_allNumber u_nodeL u_nodeR u_part u_wasMany u_wasLoss u_wasValue u_wasNumber u_path u_heavyValue u_heavyTimes u_fewest u_which u_met ol x_10 (om_ix i_10 hix) I0 I1 hSl.1 hSl.2 I4 I5 (laidX_new I6 hO6) I7 I8 _ _ ls hP hD hS (lv_sub hl [0, 1, 2, 3, 4] rfl)

set_option maxHeartbeats 4000000 in
set_option maxRecDepth 100000 in
theorem lc_3 {p : Program} {l : Launch} {e : Env} {s : State} {m : MethodId} {below : List Frame} {meth : Method} {c : Code} {dC : Nat → ClassId} {dI : Nat → Nat → Nat} {b : Nat} {xs : Nat → Int32} (hl0 : l.stackTraces = false) {L j : Nat} (hL : L ≤ 4096) (hj : 8 * j + 8 ≤ L) (C0 : lw_At p s m meth c b L xs) (hth : ki_ThA (fun q : Nat => s.heap.size ≤ q) s) {cyI cyL : ClassId} {xm_ xq_t xq_row xq_cell xq_from xq_to xq_size xq_lossOf xq_lessBy xq_value xq_number xq_joined xj_v xj_n xh0 xa_v xa_n xk0 xkv xkn xt_ xt_k xt_o xw_ xz_ yh0 yg_row yg_many yg_loss yg_less yg_voteValue yg_voteNumber yg_allValue yg_allNumber yg_nodeL yg_nodeR yg_part yg_wasMany yg_wasLoss yg_wasValue yg_wasNumber yg_path yg_heavyValue yg_heavyTimes yg_fewest yg_which yg_met q_o : Nat} (hK : va_K (dC, dI) vwCl [(cyI, .int), (cyL, .long)] s) (ih : lw_G p l e s m below meth c b dC dI cyI cyL xm_ xq_t xq_row xq_cell xq_from xq_to xq_size xq_lossOf xq_lessBy xq_value xq_number xq_joined xj_v xj_n xh0 xa_v xa_n xk0 xkv xkn xt_ xt_k xt_o xw_ xz_ yh0 yg_row yg_many yg_loss yg_less yg_voteValue yg_voteNumber yg_allValue yg_allNumber yg_nodeL yg_nodeR yg_part yg_wasMany yg_wasLoss yg_wasValue yg_wasNumber yg_path yg_heavyValue yg_heavyTimes yg_fewest yg_which yg_met q_o (j + 1)) {len slots old nodes here js jl je vs lo le sb lb eb tk mo u_thrown u_allMany u_nodes u_partMany u_pathMany u_heavyMany u_mostMet ix : Int32} {f ff ft fs fo fe uv un jv jn fv fn gb nb fk fq fw fz u_many u_loss u_less u_voteValue u_voteNumber u_allValue u_allNumber u_nodeL u_nodeR u_part u_wasMany u_wasLoss u_wasValue u_wasNumber u_path u_heavyValue u_heavyTimes u_fewest u_which u_met : Nat → Int32} {ol : Nat → Int64} (hix : ix.toInt = 8 * (j : Int)) (I0 : 0 ≤ len.toInt) (I1 : len.toInt ≤ 160) (I2 : 1 ≤ slots.toInt) (I3 : slots.toInt ≤ 6) (I4 : shorts f) (I5 : sixes fs) (I6 : laidX old slots here f ff ft fs fo fe uv un nodes len) (I7 : six4 u_many) (I8 : parts320 u_part) {H : Heap} {locs : List Loc} (hP : va_P (dC, dI) vwCl [kx_4 xm_ xq_row xq_t xt_ xh0 xk0 xw_ xz_ slots old, kx_2 xq_t xq_row xq_joined xq_from xq_to xq_size xq_lossOf xq_lessBy xq_value xq_number nodes here, kx_0 xq_row xq_cell len, kx_a xq_cell cyI 160 f, kx_a xq_from cyI 319 ff, kx_a xq_to cyI 319 ft, kx_a xq_size cyI 319 fs, kx_a xq_lossOf cyI 319 fo, kx_a xq_lessBy cyI 319 fe, kx_a xq_value cyI 1914 uv, kx_a xq_number cyI 1914 un, kx_3 xq_joined xj_v xj_n js jl je, kx_a xj_v cyI 12 jv, kx_a xj_n cyI 12 jn, kx_3 xh0 xa_v xa_n vs lo le, kx_a xa_v cyI 12 fv, kx_a xa_n cyI 12 fn, kx_3 xk0 xkv xkn sb lb eb, kx_a xkv cyI 12 gb, kx_a xkn cyI 12 nb, kx_1 xt_ xt_k xt_o tk mo, kx_a xt_k cyI 160 fk, kx_a xt_o cyI 160 fq, kx_a xw_ cyI 160 fw, kx_a xz_ cyI 161 fz, kx_5 yh0 yg_row len slots u_thrown yg_many yg_loss yg_less yg_voteValue yg_voteNumber yg_allValue yg_allNumber u_allMany yg_nodeL yg_nodeR u_nodes yg_part u_partMany yg_wasMany yg_wasLoss yg_wasValue yg_wasNumber yg_path u_pathMany yg_heavyValue yg_heavyTimes u_heavyMany yg_fewest yg_which yg_met u_mostMet, kx_a yg_row cyI 160 f, kx_a yg_many cyI 324 u_many, kx_a yg_loss cyI 324 u_loss, kx_a yg_less cyI 324 u_less, kx_a yg_voteValue cyI 1944 u_voteValue, kx_a yg_voteNumber cyI 1944 u_voteNumber, kx_a yg_allValue cyI 12 u_allValue, kx_a yg_allNumber cyI 12 u_allNumber, kx_a yg_nodeL cyI 320 u_nodeL, kx_a yg_nodeR cyI 320 u_nodeR, kx_a yg_part cyI 320 u_part, kx_a yg_wasMany cyI 320 u_wasMany, kx_a yg_wasLoss cyI 320 u_wasLoss, kx_a yg_wasValue cyI 1920 u_wasValue, kx_a yg_wasNumber cyI 1920 u_wasNumber, kx_a yg_path cyI 12 u_path, kx_a yg_heavyValue cyI 160 u_heavyValue, kx_a yg_heavyTimes cyI 160 u_heavyTimes, kx_a yg_fewest cyI 161 u_fewest, kx_a yg_which cyI 160 u_which, kx_a yg_met cyI 160 u_met, (q_o, .inl (cyL, 1, .inr (.inl ol)))] H) (hD : va_D (fun q : Nat => s.heap.size ≤ q) [kx_4 xm_ xq_row xq_t xt_ xh0 xk0 xw_ xz_ slots old, kx_2 xq_t xq_row xq_joined xq_from xq_to xq_size xq_lossOf xq_lessBy xq_value xq_number nodes here, kx_0 xq_row xq_cell len, kx_a xq_cell cyI 160 f, kx_a xq_from cyI 319 ff, kx_a xq_to cyI 319 ft, kx_a xq_size cyI 319 fs, kx_a xq_lossOf cyI 319 fo, kx_a xq_lessBy cyI 319 fe, kx_a xq_value cyI 1914 uv, kx_a xq_number cyI 1914 un, kx_3 xq_joined xj_v xj_n js jl je, kx_a xj_v cyI 12 jv, kx_a xj_n cyI 12 jn, kx_3 xh0 xa_v xa_n vs lo le, kx_a xa_v cyI 12 fv, kx_a xa_n cyI 12 fn, kx_3 xk0 xkv xkn sb lb eb, kx_a xkv cyI 12 gb, kx_a xkn cyI 12 nb, kx_1 xt_ xt_k xt_o tk mo, kx_a xt_k cyI 160 fk, kx_a xt_o cyI 160 fq, kx_a xw_ cyI 160 fw, kx_a xz_ cyI 161 fz, kx_5 yh0 yg_row len slots u_thrown yg_many yg_loss yg_less yg_voteValue yg_voteNumber yg_allValue yg_allNumber u_allMany yg_nodeL yg_nodeR u_nodes yg_part u_partMany yg_wasMany yg_wasLoss yg_wasValue yg_wasNumber yg_path u_pathMany yg_heavyValue yg_heavyTimes u_heavyMany yg_fewest yg_which yg_met u_mostMet, kx_a yg_row cyI 160 f, kx_a yg_many cyI 324 u_many, kx_a yg_loss cyI 324 u_loss, kx_a yg_less cyI 324 u_less, kx_a yg_voteValue cyI 1944 u_voteValue, kx_a yg_voteNumber cyI 1944 u_voteNumber, kx_a yg_allValue cyI 12 u_allValue, kx_a yg_allNumber cyI 12 u_allNumber, kx_a yg_nodeL cyI 320 u_nodeL, kx_a yg_nodeR cyI 320 u_nodeR, kx_a yg_part cyI 320 u_part, kx_a yg_wasMany cyI 320 u_wasMany, kx_a yg_wasLoss cyI 320 u_wasLoss, kx_a yg_wasValue cyI 1920 u_wasValue, kx_a yg_wasNumber cyI 1920 u_wasNumber, kx_a yg_path cyI 12 u_path, kx_a yg_heavyValue cyI 160 u_heavyValue, kx_a yg_heavyTimes cyI 160 u_heavyTimes, kx_a yg_fewest cyI 161 u_fewest, kx_a yg_which cyI 160 u_which, kx_a yg_met cyI 160 u_met, (q_o, .inl (cyL, 1, .inr (.inl ol)))]) (hS : va_S (fun q : Nat => s.heap.size ≤ q) s.heap H locs) {ls : Array Slot} (hl : lv_has ls 7 [(4, .int ix), (3, .ref q_o), (2, .ref yh0), (1, .ref xm_), (0, .ref b)]) : W p l e room_1 s m #[Value.ref b] below meth c H locs (60 + 2 * j) (20000 + 12 * j) (lw_Z below #[Value.ref b] s) (F0 m 319 ls []) := by
  obtain ⟨hx, hb, hr, hml, hown, hts0, hX, hbl, hlocks, hgv⟩ := id C0
  have hts := hts0
  have hA : ∀ q : Nat, s.heap.size ≤ q → (fun q : Nat => s.heap.size ≤ q) q := fun _ h => h
  have hbA : ¬ (fun q : Nat => s.heap.size ≤ q) b := Nat.not_le.mpr hbl
  have hown : s.vm.findClass RL = some m.cls := hown
  have hb : c.code = cL_law := hb
  have hj0 : 0 ≤ (j : Int) := Int.natCast_nonneg j
  have hjI : 8 * (j : Int) + 8 ≤ (L : Int) := lw_jI hj
  have hLI : (L : Int) ≤ 4096 := lw_LI hL
  refine lv_aload_n hx hb dL_law_319 rfl (lv_at hl 3 rfl) ?_
  refine lv_aload_n hx hb dL_law_320 rfl (lv_at hl 4 rfl) ?_
  refine lv_iload hx hb dL_law_321 (lv_at hl 0 rfl) ?_
  refine lv_iconst (v := 1) hx hb dL_law_323 (by decide) ?_
  refine lv_iadd hx hb dL_law_324 ?_
  refine lv_topi (fun y_1 ey_1 => ?_)
  have i_1 : y_1.toInt = ix.toInt + 1 := ki_add ey_1 rfl rfl (om_568 hix hj0) (om_569 hix hjI hLI)
  refine va_sld hx hb hX hbl hbA hS (i := y_1) (ki_in (om_570 hix hj0 i_1) (om_571 hix hjI i_1)) dL_law_325 ?_
  refine lv_topi (fun y_2 ey_2 => ?_)
  refine lv_aload_n hx hb dL_law_326 rfl (lv_at hl 4 rfl) ?_
  refine lv_iload hx hb dL_law_327 (lv_at hl 0 rfl) ?_
  refine lv_iconst (v := 2) hx hb dL_law_329 (by decide) ?_
  refine lv_iadd hx hb dL_law_330 ?_
  refine lv_topi (fun y_3 ey_3 => ?_)
  have i_3 : y_3.toInt = ix.toInt + 2 := ki_add ey_3 rfl rfl (om_572 hix hj0) (om_573 hix hjI hLI)
  refine va_sld hx hb hX hbl hbA hS (i := y_3) (ki_in (om_574 hix hj0 i_3) (om_575 hix hjI i_3)) dL_law_331 ?_
  refine lv_topi (fun y_4 ey_4 => ?_)
  obtain ⟨hPc, hDc, hFc, hCc⟩ := kx_preM (wc := [kx_4 xm_ xq_row xq_t xt_ xh0 xk0 xw_ xz_ slots old, kx_2 xq_t xq_row xq_joined xq_from xq_to xq_size xq_lossOf xq_lessBy xq_value xq_number nodes here, kx_0 xq_row xq_cell len, kx_a xq_cell cyI 160 f, kx_a xq_from cyI 319 ff, kx_a xq_to cyI 319 ft, kx_a xq_size cyI 319 fs, kx_a xq_lossOf cyI 319 fo, kx_a xq_lessBy cyI 319 fe, kx_a xq_value cyI 1914 uv, kx_a xq_number cyI 1914 un, kx_3 xq_joined xj_v xj_n js jl je, kx_a xj_v cyI 12 jv, kx_a xj_n cyI 12 jn]) hP hD hS hA [true, true, true, true, true, true, true, true, true, true, true, true, true, true, false, false, false, false, false, false, false, false, false, false, false, false, false, false, false, false, false, false, false, false, false, false, false, false, false, false, false, false, false, false, false, false, false, false] rfl
  have hKc := hK.sub (tys' := [(cyI, .int)]) [0] rfl
  refine va_calli (va_runV (As := [.int y_2, .int y_4]) (rest := []) ⟨hx, hb, hml, hown, (lwC_X4_set hts0)⟩ (kx_un (c_X4_set_X l dC dI xm_ xq_row xq_t xt_ xh0 xk0 xw_ xz_ slots old xq_joined xq_from xq_to xq_size xq_lossOf xq_lessBy xq_value xq_number nodes here xq_cell cyI len f ff ft fs fo uv un fe xj_v xj_n js jl je jv jn y_2 y_4 H.size I0 I1 I5 I2 I3 I6 I4)) (cwV 2 (lwC_X4_set hts0) lwG_X4_set rfl rfl rfl (by decide +kernel) ⟨Nat.le_of_ble_eq_true rfl, Nat.le_of_ble_eq_true rfl⟩) ⟨fun a U g mk q => by obtain ⟨q0, q1, qP, qK, qD⟩ := q; exact ⟨q0, q1, qP, va_K.moved (u := U) (U := U.calling g mk a) (Vm.Alike.refl U.vm) qK, qD⟩, kx_rc4 hKc hPc (q0 := 0) rfl, fun U hU hW => ⟨rfl, by rw [hU], by rw [hU]; exact hPc, va_K.moved hW.alike hKc, hDc.weaken (fun _ _ _ _ => trivial)⟩⟩ rfl rfl hl.1 rfl (lv_room (Nat.le_of_ble_eq_true rfl)) dL_law_332 (lw_fitJ hj hL (Nat.le_of_ble_eq_true rfl) (Nat.le_of_ble_eq_true rfl))) hS (fun q _ h => hFc q h) hFc (fun r_5 u t H1 locs ht hvm w_5 hB hz1 hk1 hS => ?_)
  obtain ⟨o_6, o_7, o_8, o_9, o_10, o_11, o_12, o_13, o_14, o_15, o_16, o_17, o_18, o_19, o_20, o_21⟩ := u
  dsimp only at w_5 hB
  obtain ⟨hP1, hK1, hD1⟩ := hB
  rw [ht] at hP1
  have hK1 := va_K.moved hvm.symm hK1
  obtain ⟨hP, hD⟩ := kx_joinM (w2 := [kx_4 xm_ xq_row xq_t xt_ xh0 xk0 xw_ xz_ slots o_6, kx_2 xq_t xq_row xq_joined xq_from xq_to xq_size xq_lossOf xq_lessBy xq_value xq_number o_7 o_8, kx_0 xq_row xq_cell len, kx_a xq_cell cyI 160 o_21, kx_a xq_from cyI 319 o_9, kx_a xq_to cyI 319 o_10, kx_a xq_size cyI 319 o_11, kx_a xq_lossOf cyI 319 o_12, kx_a xq_lessBy cyI 319 o_13, kx_a xq_value cyI 1914 o_14, kx_a xq_number cyI 1914 o_15, kx_3 xq_joined xj_v xj_n o_16 o_17 o_18, kx_a xj_v cyI 12 o_19, kx_a xj_n cyI 12 o_20, kx_3 xh0 xa_v xa_n vs lo le, kx_a xa_v cyI 12 fv, kx_a xa_n cyI 12 fn, kx_3 xk0 xkv xkn sb lb eb, kx_a xkv cyI 12 gb, kx_a xkn cyI 12 nb, kx_1 xt_ xt_k xt_o tk mo, kx_a xt_k cyI 160 fk, kx_a xt_o cyI 160 fq, kx_a xw_ cyI 160 fw, kx_a xz_ cyI 161 fz, kx_5 yh0 yg_row len slots u_thrown yg_many yg_loss yg_less yg_voteValue yg_voteNumber yg_allValue yg_allNumber u_allMany yg_nodeL yg_nodeR u_nodes yg_part u_partMany yg_wasMany yg_wasLoss yg_wasValue yg_wasNumber yg_path u_pathMany yg_heavyValue yg_heavyTimes u_heavyMany yg_fewest yg_which yg_met u_mostMet, kx_a yg_row cyI 160 f, kx_a yg_many cyI 324 u_many, kx_a yg_loss cyI 324 u_loss, kx_a yg_less cyI 324 u_less, kx_a yg_voteValue cyI 1944 u_voteValue, kx_a yg_voteNumber cyI 1944 u_voteNumber, kx_a yg_allValue cyI 12 u_allValue, kx_a yg_allNumber cyI 12 u_allNumber, kx_a yg_nodeL cyI 320 u_nodeL, kx_a yg_nodeR cyI 320 u_nodeR, kx_a yg_part cyI 320 u_part, kx_a yg_wasMany cyI 320 u_wasMany, kx_a yg_wasLoss cyI 320 u_wasLoss, kx_a yg_wasValue cyI 1920 u_wasValue, kx_a yg_wasNumber cyI 1920 u_wasNumber, kx_a yg_path cyI 12 u_path, kx_a yg_heavyValue cyI 160 u_heavyValue, kx_a yg_heavyTimes cyI 160 u_heavyTimes, kx_a yg_fewest cyI 161 u_fewest, kx_a yg_which cyI 160 u_which, kx_a yg_met cyI 160 u_met, (q_o, .inl (cyL, 1, .inr (.inl ol)))]) hP hD hP1 hD1 hk1 hFc [true, true, true, true, true, true, true, true, true, true, true, true, true, true, false, false, false, false, false, false, false, false, false, false, false, false, false, false, false, false, false, false, false, false, false, false, false, false, false, false, false, false, false, false, false, false, false, false] hCc rfl
  clear hP1 hD1 hK1 hk1 hz1 hFc hDc hPc hKc hCc
  generalize H1 = H at hP hS ⊢
  have w_5 : (((0 ≤ y_2.toInt ∧ y_2.toInt < len.toInt ∧ -32768 ≤ y_4.toInt ∧ y_4.toInt ≤ 32767) ∧ o_21 = upd f y_2.toNatClampNeg y_4) ∨ ((y_2.toInt < 0 ∨ len.toInt ≤ y_2.toInt ∨ y_4.toInt < -32768 ∨ 32767 < y_4.toInt) ∧ o_21 = f ∧ r_5 = -1)) ∧ shorts o_21 ∧ laidX o_6 slots o_8 o_21 o_9 o_10 o_11 o_12 o_13 o_14 o_15 o_7 len ∧ sixes o_11 := w_5
  refine lv_pop hx hb dL_law_335 rfl ?_
  refine lv_aload_n hx hb dL_law_336 rfl (lv_at hl 2 rfl) ?_
  refine lv_aload_n hx hb dL_law_337 rfl (lv_at hl 4 rfl) ?_
  refine lv_iload hx hb dL_law_338 (lv_at hl 0 rfl) ?_
  refine lv_iconst (v := 1) hx hb dL_law_340 (by decide) ?_
  refine lv_iadd hx hb dL_law_341 ?_
  refine lv_topi (fun y_22 ey_22 => ?_)
  have i_22 : y_22.toInt = ix.toInt + 1 := ki_add ey_22 rfl rfl (om_568 hix hj0) (om_569 hix hjI hLI)
  refine va_sld hx hb hX hbl hbA hS (i := y_22) (ki_in (om_570 hix hj0 i_22) (om_571 hix hjI i_22)) dL_law_342 ?_
  refine lv_topi (fun y_23 ey_23 => ?_)
  have qy_23 : y_2 = y_23 := by rw [ey_2, ey_23, ki_nateq (show y_1.toInt = y_22.toInt from (om_576 i_1 i_22))]
  subst qy_23
  refine lv_aload_n hx hb dL_law_343 rfl (lv_at hl 4 rfl) ?_
  refine lv_iload hx hb dL_law_344 (lv_at hl 0 rfl) ?_
  refine lv_iconst (v := 2) hx hb dL_law_346 (by decide) ?_
  refine lv_iadd hx hb dL_law_347 ?_
  refine lv_topi (fun y_24 ey_24 => ?_)
  have i_24 : y_24.toInt = ix.toInt + 2 := ki_add ey_24 rfl rfl (om_572 hix hj0) (om_573 hix hjI hLI)
  refine va_sld hx hb hX hbl hbA hS (i := y_24) (ki_in (om_574 hix hj0 i_24) (om_575 hix hjI i_24)) dL_law_348 ?_
  refine lv_topi (fun y_25 ey_25 => ?_)
  have qy_25 : y_4 = y_25 := by rw [ey_4, ey_25, ki_nateq (show y_3.toInt = y_24.toInt from (om_577 i_3 i_24))]
  subst qy_25
  obtain ⟨hPc, hDc, hFc, hCc⟩ := kx_preM (wc := [kx_5 yh0 yg_row len slots u_thrown yg_many yg_loss yg_less yg_voteValue yg_voteNumber yg_allValue yg_allNumber u_allMany yg_nodeL yg_nodeR u_nodes yg_part u_partMany yg_wasMany yg_wasLoss yg_wasValue yg_wasNumber yg_path u_pathMany yg_heavyValue yg_heavyTimes u_heavyMany yg_fewest yg_which yg_met u_mostMet, kx_a yg_row cyI 160 f, kx_a yg_many cyI 324 u_many, kx_a yg_loss cyI 324 u_loss, kx_a yg_less cyI 324 u_less, kx_a yg_voteValue cyI 1944 u_voteValue, kx_a yg_voteNumber cyI 1944 u_voteNumber, kx_a yg_allValue cyI 12 u_allValue, kx_a yg_allNumber cyI 12 u_allNumber, kx_a yg_nodeL cyI 320 u_nodeL, kx_a yg_nodeR cyI 320 u_nodeR, kx_a yg_wasMany cyI 320 u_wasMany, kx_a yg_wasLoss cyI 320 u_wasLoss, kx_a yg_wasValue cyI 1920 u_wasValue, kx_a yg_wasNumber cyI 1920 u_wasNumber]) hP hD hS hA [false, false, false, false, false, false, false, false, false, false, false, false, false, false, false, false, false, false, false, false, false, false, false, false, false, true, true, true, true, true, true, true, true, true, true, true, false, true, true, true, true, false, false, false, false, false, false, false] rfl
  have hKc := hK.sub (tys' := [(cyI, .int)]) [0] rfl
  refine va_calli (va_runV (As := [.int y_2, .int y_4]) (rest := []) ⟨hx, hb, hml, hown, (lwC_X5_set hts0)⟩ (kx_un (c_X5_set l dC dI yh0 yg_row yg_many yg_loss yg_less yg_voteValue yg_voteNumber yg_allValue yg_allNumber yg_nodeL yg_nodeR yg_part yg_wasMany yg_wasLoss yg_wasValue yg_wasNumber yg_path yg_heavyValue yg_heavyTimes yg_fewest yg_which yg_met len slots u_thrown u_allMany u_nodes u_partMany u_pathMany u_heavyMany u_mostMet cyI u_many u_loss u_less u_voteValue u_voteNumber f u_allValue u_allNumber u_nodeL u_nodeR u_wasMany u_wasLoss u_wasValue u_wasNumber y_2 y_4 H.size I0 I1 I2 I3 I7 I4)) (cwV 2 (lwC_X5_set hts0) lwG_X5_set rfl rfl rfl (by decide +kernel) ⟨Nat.le_of_ble_eq_true rfl, Nat.le_of_ble_eq_true rfl⟩) ⟨fun a U g mk q => by obtain ⟨q0, q1, qP, qK, qD⟩ := q; exact ⟨q0, q1, qP, va_K.moved (u := U) (U := U.calling g mk a) (Vm.Alike.refl U.vm) qK, qD⟩, kx_rc5 hKc hPc (q0 := 0) rfl, fun U hU hW => ⟨rfl, by rw [hU], by rw [hU]; exact hPc, va_K.moved hW.alike hKc, hDc.weaken (fun _ _ _ _ => trivial)⟩⟩ rfl rfl hl.1 rfl (lv_room (Nat.le_of_ble_eq_true rfl)) dL_law_349 (lw_fitJ hj hL (Nat.le_of_ble_eq_true rfl) (Nat.le_of_ble_eq_true rfl))) hS (fun q _ h => hFc q h) hFc (fun r_26 u t H1 locs ht hvm w_26 hB hz1 hk1 hS => ?_)
  obtain ⟨o_27, o_28, o_29, o_30, o_31, o_32, o_33, o_34, o_35, o_36, o_37, o_38, o_39, o_40, o_41, o_42⟩ := u
  dsimp only at w_26 hB
  obtain ⟨hP1, hK1, hD1⟩ := hB
  rw [ht] at hP1
  have hK1 := va_K.moved hvm.symm hK1
  obtain ⟨hP, hD⟩ := kx_joinM (w2 := [kx_4 xm_ xq_row xq_t xt_ xh0 xk0 xw_ xz_ slots o_6, kx_2 xq_t xq_row xq_joined xq_from xq_to xq_size xq_lossOf xq_lessBy xq_value xq_number o_7 o_8, kx_0 xq_row xq_cell len, kx_a xq_cell cyI 160 o_21, kx_a xq_from cyI 319 o_9, kx_a xq_to cyI 319 o_10, kx_a xq_size cyI 319 o_11, kx_a xq_lossOf cyI 319 o_12, kx_a xq_lessBy cyI 319 o_13, kx_a xq_value cyI 1914 o_14, kx_a xq_number cyI 1914 o_15, kx_3 xq_joined xj_v xj_n o_16 o_17 o_18, kx_a xj_v cyI 12 o_19, kx_a xj_n cyI 12 o_20, kx_3 xh0 xa_v xa_n vs lo le, kx_a xa_v cyI 12 fv, kx_a xa_n cyI 12 fn, kx_3 xk0 xkv xkn sb lb eb, kx_a xkv cyI 12 gb, kx_a xkn cyI 12 nb, kx_1 xt_ xt_k xt_o tk mo, kx_a xt_k cyI 160 fk, kx_a xt_o cyI 160 fq, kx_a xw_ cyI 160 fw, kx_a xz_ cyI 161 fz, kx_5 yh0 yg_row len slots 0 yg_many yg_loss yg_less yg_voteValue yg_voteNumber yg_allValue yg_allNumber o_28 yg_nodeL yg_nodeR o_27 yg_part u_partMany yg_wasMany yg_wasLoss yg_wasValue yg_wasNumber yg_path u_pathMany yg_heavyValue yg_heavyTimes u_heavyMany yg_fewest yg_which yg_met u_mostMet, kx_a yg_row cyI 160 o_42, kx_a yg_many cyI 324 o_29, kx_a yg_loss cyI 324 o_30, kx_a yg_less cyI 324 o_31, kx_a yg_voteValue cyI 1944 o_32, kx_a yg_voteNumber cyI 1944 o_33, kx_a yg_allValue cyI 12 o_34, kx_a yg_allNumber cyI 12 o_35, kx_a yg_nodeL cyI 320 o_36, kx_a yg_nodeR cyI 320 o_37, kx_a yg_part cyI 320 u_part, kx_a yg_wasMany cyI 320 o_38, kx_a yg_wasLoss cyI 320 o_39, kx_a yg_wasValue cyI 1920 o_40, kx_a yg_wasNumber cyI 1920 o_41, kx_a yg_path cyI 12 u_path, kx_a yg_heavyValue cyI 160 u_heavyValue, kx_a yg_heavyTimes cyI 160 u_heavyTimes, kx_a yg_fewest cyI 161 u_fewest, kx_a yg_which cyI 160 u_which, kx_a yg_met cyI 160 u_met, (q_o, .inl (cyL, 1, .inr (.inl ol)))]) hP hD hP1 hD1 hk1 hFc [false, false, false, false, false, false, false, false, false, false, false, false, false, false, false, false, false, false, false, false, false, false, false, false, false, true, true, true, true, true, true, true, true, true, true, true, false, true, true, true, true, false, false, false, false, false, false, false] hCc rfl
  clear hP1 hD1 hK1 hk1 hz1 hFc hDc hPc hKc hCc
  generalize H1 = H at hP hS ⊢
  have w_26 : (((0 ≤ y_2.toInt ∧ y_2.toInt < len.toInt ∧ -32768 ≤ y_4.toInt ∧ y_4.toInt ≤ 32767) ∧ o_42 = upd f y_2.toNatClampNeg y_4) ∨ ((y_2.toInt < 0 ∨ len.toInt ≤ y_2.toInt ∨ y_4.toInt < -32768 ∨ 32767 < y_4.toInt) ∧ o_42 = f ∧ r_26 = -1)) ∧ shorts o_42 ∧ six4 o_29 := w_26
  refine lv_pop hx hb dL_law_352 rfl ?_
  refine lv_goto (tgt := 2288) hx hb dL_law_353 (by decide) ?_
  obtain ⟨x_43, ex_43⟩ : ∃ y : Int32, y = ix + 8 := ⟨_, rfl⟩
  have i_43 : x_43.toInt = ix.toInt + 8 := ki_add ex_43 rfl rfl (om_578 hix hj0) (om_579 hix hjI hLI)
  refine lv_iinc (v := x_43) (lv' := [(4, .int x_43), (3, .ref q_o), (2, .ref yh0), (1, .ref xm_), (0, .ref b)]) hx hb dL_law_2288 hl (k := 0) rfl (by rw [ex_43]; rfl) (by decide) rfl (fun ls hl => ?_)
  refine lv_goto (tgt := 23) hx hb dL_law_2291 (by decide) ?_
  have hEq : o_42 = o_21 := by
    rcases w_5.1 with ⟨a1, a2⟩ | ⟨a1, a2, a3⟩ <;> rcases w_26.1 with ⟨b1, b2⟩ | ⟨b1, b2, b3⟩
    · rw [a2, b2]
    · exfalso; omega
    · exfalso; omega
    · rw [a2, b2]
  rw [hEq] at hP hD
  obtain ⟨hP, hD⟩ := kx_re (w2 := [kx_4 xm_ xq_row xq_t xt_ xh0 xk0 xw_ xz_ slots o_6, kx_2 xq_t xq_row xq_joined xq_from xq_to xq_size xq_lossOf xq_lessBy xq_value xq_number o_7 o_8, kx_0 xq_row xq_cell len, kx_a xq_cell cyI 160 o_21, kx_a xq_from cyI 319 o_9, kx_a xq_to cyI 319 o_10, kx_a xq_size cyI 319 o_11, kx_a xq_lossOf cyI 319 o_12, kx_a xq_lessBy cyI 319 o_13, kx_a xq_value cyI 1914 o_14, kx_a xq_number cyI 1914 o_15, kx_3 xq_joined xj_v xj_n o_16 o_17 o_18, kx_a xj_v cyI 12 o_19, kx_a xj_n cyI 12 o_20, kx_3 xh0 xa_v xa_n vs lo le, kx_a xa_v cyI 12 fv, kx_a xa_n cyI 12 fn, kx_3 xk0 xkv xkn sb lb eb, kx_a xkv cyI 12 gb, kx_a xkn cyI 12 nb, kx_1 xt_ xt_k xt_o tk mo, kx_a xt_k cyI 160 fk, kx_a xt_o cyI 160 fq, kx_a xw_ cyI 160 fw, kx_a xz_ cyI 161 fz, kx_5 yh0 yg_row len slots 0 yg_many yg_loss yg_less yg_voteValue yg_voteNumber yg_allValue yg_allNumber o_28 yg_nodeL yg_nodeR o_27 yg_part u_partMany yg_wasMany yg_wasLoss yg_wasValue yg_wasNumber yg_path u_pathMany yg_heavyValue yg_heavyTimes u_heavyMany yg_fewest yg_which yg_met u_mostMet, kx_a yg_row cyI 160 o_21, kx_a yg_many cyI 324 o_29, kx_a yg_loss cyI 324 o_30, kx_a yg_less cyI 324 o_31, kx_a yg_voteValue cyI 1944 o_32, kx_a yg_voteNumber cyI 1944 o_33, kx_a yg_allValue cyI 12 o_34, kx_a yg_allNumber cyI 12 o_35, kx_a yg_nodeL cyI 320 o_36, kx_a yg_nodeR cyI 320 o_37, kx_a yg_part cyI 320 u_part, kx_a yg_wasMany cyI 320 o_38, kx_a yg_wasLoss cyI 320 o_39, kx_a yg_wasValue cyI 1920 o_40, kx_a yg_wasNumber cyI 1920 o_41, kx_a yg_path cyI 12 u_path, kx_a yg_heavyValue cyI 160 u_heavyValue, kx_a yg_heavyTimes cyI 160 u_heavyTimes, kx_a yg_fewest cyI 161 u_fewest, kx_a yg_which cyI 160 u_which, kx_a yg_met cyI 160 u_met, (q_o, .inl (cyL, 1, .inr (.inl ol)))]) hP hD rfl
  refine W.widen (k := 60 + 2 * (j + 1)) (n := 20000 + 12 * (j + 1)) (lw_wdC (k := 0) (Nat.le_of_ble_eq_true rfl)) (lw_wdS (k := 0) (Nat.le_of_ble_eq_true rfl)) ?_
  have k_44 : (0 : Int32).toInt = 0 := rfl
  exact ih len slots o_6 o_7 o_8 o_16 o_17 o_18 vs lo le sb lb eb tk mo 0 o_28 o_27 u_partMany u_pathMany u_heavyMany u_mostMet o_21 o_9 o_10 o_11 o_12 o_13 o_14 o_15 o_19 o_20 fv fn gb nb fk fq fw fz o_29 o_30 o_31 o_32 o_33 o_34 o_35 o_36 o_37 u_part o_38 o_39 o_40 o_41 u_path u_heavyValue u_heavyTimes u_fewest u_which u_met ol x_43 (om_ix i_43 hix) I0 I1 I2 I3 w_5.2.1 w_5.2.2.2 w_5.2.2.1 w_26.2.2 I8 _ _ ls hP hD hS (lv_sub hl [0, 1, 2, 3, 4] rfl)

set_option maxHeartbeats 4000000 in
set_option maxRecDepth 100000 in
theorem lc_4 {p : Program} {l : Launch} {e : Env} {s : State} {m : MethodId} {below : List Frame} {meth : Method} {c : Code} {dC : Nat → ClassId} {dI : Nat → Nat → Nat} {b : Nat} {xs : Nat → Int32} (hl0 : l.stackTraces = false) {L j : Nat} (hL : L ≤ 4096) (hj : 8 * j + 8 ≤ L) (C0 : lw_At p s m meth c b L xs) (hth : ki_ThA (fun q : Nat => s.heap.size ≤ q) s) {cyI cyL : ClassId} {xm_ xq_t xq_row xq_cell xq_from xq_to xq_size xq_lossOf xq_lessBy xq_value xq_number xq_joined xj_v xj_n xh0 xa_v xa_n xk0 xkv xkn xt_ xt_k xt_o xw_ xz_ yh0 yg_row yg_many yg_loss yg_less yg_voteValue yg_voteNumber yg_allValue yg_allNumber yg_nodeL yg_nodeR yg_part yg_wasMany yg_wasLoss yg_wasValue yg_wasNumber yg_path yg_heavyValue yg_heavyTimes yg_fewest yg_which yg_met q_o : Nat} (hK : va_K (dC, dI) vwCl [(cyI, .int), (cyL, .long)] s) (ih : lw_G p l e s m below meth c b dC dI cyI cyL xm_ xq_t xq_row xq_cell xq_from xq_to xq_size xq_lossOf xq_lessBy xq_value xq_number xq_joined xj_v xj_n xh0 xa_v xa_n xk0 xkv xkn xt_ xt_k xt_o xw_ xz_ yh0 yg_row yg_many yg_loss yg_less yg_voteValue yg_voteNumber yg_allValue yg_allNumber yg_nodeL yg_nodeR yg_part yg_wasMany yg_wasLoss yg_wasValue yg_wasNumber yg_path yg_heavyValue yg_heavyTimes yg_fewest yg_which yg_met q_o (j + 1)) {len slots old nodes here js jl je vs lo le sb lb eb tk mo u_thrown u_allMany u_nodes u_partMany u_pathMany u_heavyMany u_mostMet ix : Int32} {f ff ft fs fo fe uv un jv jn fv fn gb nb fk fq fw fz u_many u_loss u_less u_voteValue u_voteNumber u_allValue u_allNumber u_nodeL u_nodeR u_part u_wasMany u_wasLoss u_wasValue u_wasNumber u_path u_heavyValue u_heavyTimes u_fewest u_which u_met : Nat → Int32} {ol : Nat → Int64} (hix : ix.toInt = 8 * (j : Int)) (I0 : 0 ≤ len.toInt) (I1 : len.toInt ≤ 160) (I2 : 1 ≤ slots.toInt) (I3 : slots.toInt ≤ 6) (I4 : shorts f) (I5 : sixes fs) (I6 : laidX old slots here f ff ft fs fo fe uv un nodes len) (I7 : six4 u_many) (I8 : parts320 u_part) {H : Heap} {locs : List Loc} (hP : va_P (dC, dI) vwCl [kx_4 xm_ xq_row xq_t xt_ xh0 xk0 xw_ xz_ slots old, kx_2 xq_t xq_row xq_joined xq_from xq_to xq_size xq_lossOf xq_lessBy xq_value xq_number nodes here, kx_0 xq_row xq_cell len, kx_a xq_cell cyI 160 f, kx_a xq_from cyI 319 ff, kx_a xq_to cyI 319 ft, kx_a xq_size cyI 319 fs, kx_a xq_lossOf cyI 319 fo, kx_a xq_lessBy cyI 319 fe, kx_a xq_value cyI 1914 uv, kx_a xq_number cyI 1914 un, kx_3 xq_joined xj_v xj_n js jl je, kx_a xj_v cyI 12 jv, kx_a xj_n cyI 12 jn, kx_3 xh0 xa_v xa_n vs lo le, kx_a xa_v cyI 12 fv, kx_a xa_n cyI 12 fn, kx_3 xk0 xkv xkn sb lb eb, kx_a xkv cyI 12 gb, kx_a xkn cyI 12 nb, kx_1 xt_ xt_k xt_o tk mo, kx_a xt_k cyI 160 fk, kx_a xt_o cyI 160 fq, kx_a xw_ cyI 160 fw, kx_a xz_ cyI 161 fz, kx_5 yh0 yg_row len slots u_thrown yg_many yg_loss yg_less yg_voteValue yg_voteNumber yg_allValue yg_allNumber u_allMany yg_nodeL yg_nodeR u_nodes yg_part u_partMany yg_wasMany yg_wasLoss yg_wasValue yg_wasNumber yg_path u_pathMany yg_heavyValue yg_heavyTimes u_heavyMany yg_fewest yg_which yg_met u_mostMet, kx_a yg_row cyI 160 f, kx_a yg_many cyI 324 u_many, kx_a yg_loss cyI 324 u_loss, kx_a yg_less cyI 324 u_less, kx_a yg_voteValue cyI 1944 u_voteValue, kx_a yg_voteNumber cyI 1944 u_voteNumber, kx_a yg_allValue cyI 12 u_allValue, kx_a yg_allNumber cyI 12 u_allNumber, kx_a yg_nodeL cyI 320 u_nodeL, kx_a yg_nodeR cyI 320 u_nodeR, kx_a yg_part cyI 320 u_part, kx_a yg_wasMany cyI 320 u_wasMany, kx_a yg_wasLoss cyI 320 u_wasLoss, kx_a yg_wasValue cyI 1920 u_wasValue, kx_a yg_wasNumber cyI 1920 u_wasNumber, kx_a yg_path cyI 12 u_path, kx_a yg_heavyValue cyI 160 u_heavyValue, kx_a yg_heavyTimes cyI 160 u_heavyTimes, kx_a yg_fewest cyI 161 u_fewest, kx_a yg_which cyI 160 u_which, kx_a yg_met cyI 160 u_met, (q_o, .inl (cyL, 1, .inr (.inl ol)))] H) (hD : va_D (fun q : Nat => s.heap.size ≤ q) [kx_4 xm_ xq_row xq_t xt_ xh0 xk0 xw_ xz_ slots old, kx_2 xq_t xq_row xq_joined xq_from xq_to xq_size xq_lossOf xq_lessBy xq_value xq_number nodes here, kx_0 xq_row xq_cell len, kx_a xq_cell cyI 160 f, kx_a xq_from cyI 319 ff, kx_a xq_to cyI 319 ft, kx_a xq_size cyI 319 fs, kx_a xq_lossOf cyI 319 fo, kx_a xq_lessBy cyI 319 fe, kx_a xq_value cyI 1914 uv, kx_a xq_number cyI 1914 un, kx_3 xq_joined xj_v xj_n js jl je, kx_a xj_v cyI 12 jv, kx_a xj_n cyI 12 jn, kx_3 xh0 xa_v xa_n vs lo le, kx_a xa_v cyI 12 fv, kx_a xa_n cyI 12 fn, kx_3 xk0 xkv xkn sb lb eb, kx_a xkv cyI 12 gb, kx_a xkn cyI 12 nb, kx_1 xt_ xt_k xt_o tk mo, kx_a xt_k cyI 160 fk, kx_a xt_o cyI 160 fq, kx_a xw_ cyI 160 fw, kx_a xz_ cyI 161 fz, kx_5 yh0 yg_row len slots u_thrown yg_many yg_loss yg_less yg_voteValue yg_voteNumber yg_allValue yg_allNumber u_allMany yg_nodeL yg_nodeR u_nodes yg_part u_partMany yg_wasMany yg_wasLoss yg_wasValue yg_wasNumber yg_path u_pathMany yg_heavyValue yg_heavyTimes u_heavyMany yg_fewest yg_which yg_met u_mostMet, kx_a yg_row cyI 160 f, kx_a yg_many cyI 324 u_many, kx_a yg_loss cyI 324 u_loss, kx_a yg_less cyI 324 u_less, kx_a yg_voteValue cyI 1944 u_voteValue, kx_a yg_voteNumber cyI 1944 u_voteNumber, kx_a yg_allValue cyI 12 u_allValue, kx_a yg_allNumber cyI 12 u_allNumber, kx_a yg_nodeL cyI 320 u_nodeL, kx_a yg_nodeR cyI 320 u_nodeR, kx_a yg_part cyI 320 u_part, kx_a yg_wasMany cyI 320 u_wasMany, kx_a yg_wasLoss cyI 320 u_wasLoss, kx_a yg_wasValue cyI 1920 u_wasValue, kx_a yg_wasNumber cyI 1920 u_wasNumber, kx_a yg_path cyI 12 u_path, kx_a yg_heavyValue cyI 160 u_heavyValue, kx_a yg_heavyTimes cyI 160 u_heavyTimes, kx_a yg_fewest cyI 161 u_fewest, kx_a yg_which cyI 160 u_which, kx_a yg_met cyI 160 u_met, (q_o, .inl (cyL, 1, .inr (.inl ol)))]) (hS : va_S (fun q : Nat => s.heap.size ≤ q) s.heap H locs) {ls : Array Slot} (hl : lv_has ls 7 [(4, .int ix), (3, .ref q_o), (2, .ref yh0), (1, .ref xm_), (0, .ref b)]) : W p l e room_1 s m #[Value.ref b] below meth c H locs (60 + 2 * j) (20000 + 12 * j) (lw_Z below #[Value.ref b] s) (F0 m 356 ls []) := by
  obtain ⟨hx, hb, hr, hml, hown, hts0, hX, hbl, hlocks, hgv⟩ := id C0
  have hts := hts0
  have hA : ∀ q : Nat, s.heap.size ≤ q → (fun q : Nat => s.heap.size ≤ q) q := fun _ h => h
  have hbA : ¬ (fun q : Nat => s.heap.size ≤ q) b := Nat.not_le.mpr hbl
  have hown : s.vm.findClass RL = some m.cls := hown
  have hb : c.code = cL_law := hb
  have hj0 : 0 ≤ (j : Int) := Int.natCast_nonneg j
  have hjI : 8 * (j : Int) + 8 ≤ (L : Int) := lw_jI hj
  have hLI : (L : Int) ≤ 4096 := lw_LI hL
  refine lv_aload_n hx hb dL_law_356 rfl (lv_at hl 3 rfl) ?_
  refine lv_aload_n hx hb dL_law_357 rfl (lv_at hl 4 rfl) ?_
  refine lv_iload hx hb dL_law_358 (lv_at hl 0 rfl) ?_
  refine lv_iconst (v := 1) hx hb dL_law_360 (by decide) ?_
  refine lv_iadd hx hb dL_law_361 ?_
  refine lv_topi (fun y_1 ey_1 => ?_)
  have i_1 : y_1.toInt = ix.toInt + 1 := ki_add ey_1 rfl rfl (om_568 hix hj0) (om_569 hix hjI hLI)
  refine va_sld hx hb hX hbl hbA hS (i := y_1) (ki_in (om_570 hix hj0 i_1) (om_571 hix hjI i_1)) dL_law_362 ?_
  refine lv_topi (fun y_2 ey_2 => ?_)
  refine lv_aload_n hx hb dL_law_363 rfl (lv_at hl 4 rfl) ?_
  refine lv_iload hx hb dL_law_364 (lv_at hl 0 rfl) ?_
  refine lv_iconst (v := 2) hx hb dL_law_366 (by decide) ?_
  refine lv_iadd hx hb dL_law_367 ?_
  refine lv_topi (fun y_3 ey_3 => ?_)
  have i_3 : y_3.toInt = ix.toInt + 2 := ki_add ey_3 rfl rfl (om_572 hix hj0) (om_573 hix hjI hLI)
  refine va_sld hx hb hX hbl hbA hS (i := y_3) (ki_in (om_574 hix hj0 i_3) (om_575 hix hjI i_3)) dL_law_368 ?_
  refine lv_topi (fun y_4 ey_4 => ?_)
  refine lv_aload_n hx hb dL_law_369 rfl (lv_at hl 4 rfl) ?_
  refine lv_iload hx hb dL_law_370 (lv_at hl 0 rfl) ?_
  refine lv_iconst (v := 3) hx hb dL_law_372 (by decide) ?_
  refine lv_iadd hx hb dL_law_373 ?_
  refine lv_topi (fun y_5 ey_5 => ?_)
  have i_5 : y_5.toInt = ix.toInt + 3 := ki_add ey_5 rfl rfl (om_580 hix hj0) (om_581 hix hjI hLI)
  refine va_sld hx hb hX hbl hbA hS (i := y_5) (ki_in (om_582 hix hj0 i_5) (om_583 hix hjI i_5)) dL_law_374 ?_
  refine lv_topi (fun y_6 ey_6 => ?_)
  obtain ⟨hPc, hDc, hFc, hCc⟩ := kx_preM (wc := [kx_4 xm_ xq_row xq_t xt_ xh0 xk0 xw_ xz_ slots old, kx_2 xq_t xq_row xq_joined xq_from xq_to xq_size xq_lossOf xq_lessBy xq_value xq_number nodes here, kx_0 xq_row xq_cell len, kx_a xq_cell cyI 160 f, kx_a xq_from cyI 319 ff, kx_a xq_to cyI 319 ft, kx_a xq_size cyI 319 fs, kx_a xq_lossOf cyI 319 fo, kx_a xq_lessBy cyI 319 fe, kx_a xq_value cyI 1914 uv, kx_a xq_number cyI 1914 un, kx_3 xq_joined xj_v xj_n js jl je, kx_a xj_v cyI 12 jv, kx_a xj_n cyI 12 jn]) hP hD hS hA [true, true, true, true, true, true, true, true, true, true, true, true, true, true, false, false, false, false, false, false, false, false, false, false, false, false, false, false, false, false, false, false, false, false, false, false, false, false, false, false, false, false, false, false, false, false, false, false] rfl
  have hKc := hK.sub (tys' := [(cyI, .int)]) [0] rfl
  refine va_calli (va_runV (As := [.int y_2, .int y_4, .int y_6]) (rest := []) ⟨hx, hb, hml, hown, (lwC_X4_fill hts0)⟩ (kx_un (c_X4_fill_X l dC dI xm_ xq_row xq_t xt_ xh0 xk0 xw_ xz_ slots old xq_joined xq_from xq_to xq_size xq_lossOf xq_lessBy xq_value xq_number nodes here xq_cell cyI len f ff ft fs fo uv un fe xj_v xj_n js jl je jv jn y_2 y_4 y_6 H.size I0 I1 I5 I2 I3 I6 I4)) (cwV 3 (lwC_X4_fill hts0) lwG_X4_fill rfl rfl rfl (by decide +kernel) ⟨Nat.le_of_ble_eq_true rfl, Nat.le_of_ble_eq_true rfl⟩) ⟨fun a U g mk q => by obtain ⟨q0, q1, qP, qK, qD⟩ := q; exact ⟨q0, q1, qP, va_K.moved (u := U) (U := U.calling g mk a) (Vm.Alike.refl U.vm) qK, qD⟩, kx_rc4 hKc hPc (q0 := 0) rfl, fun U hU hW => ⟨rfl, by rw [hU], by rw [hU]; exact hPc, va_K.moved hW.alike hKc, hDc.weaken (fun _ _ _ _ => trivial)⟩⟩ rfl rfl hl.1 rfl (lv_room (Nat.le_of_ble_eq_true rfl)) dL_law_375 (lw_fitJ hj hL (Nat.le_of_ble_eq_true rfl) (Nat.le_of_ble_eq_true rfl))) hS (fun q _ h => hFc q h) hFc (fun r_7 u t H1 locs ht hvm w_7 hB hz1 hk1 hS => ?_)
  obtain ⟨o_8, o_9, o_10, o_11, o_12, o_13, o_14, o_15, o_16, o_17, o_18, o_19, o_20, o_21, o_22, o_23⟩ := u
  dsimp only at w_7 hB
  obtain ⟨hP1, hK1, hD1⟩ := hB
  rw [ht] at hP1
  have hK1 := va_K.moved hvm.symm hK1
  obtain ⟨hP, hD⟩ := kx_joinM (w2 := [kx_4 xm_ xq_row xq_t xt_ xh0 xk0 xw_ xz_ slots o_8, kx_2 xq_t xq_row xq_joined xq_from xq_to xq_size xq_lossOf xq_lessBy xq_value xq_number o_9 o_10, kx_0 xq_row xq_cell len, kx_a xq_cell cyI 160 o_23, kx_a xq_from cyI 319 o_11, kx_a xq_to cyI 319 o_12, kx_a xq_size cyI 319 o_13, kx_a xq_lossOf cyI 319 o_14, kx_a xq_lessBy cyI 319 o_15, kx_a xq_value cyI 1914 o_16, kx_a xq_number cyI 1914 o_17, kx_3 xq_joined xj_v xj_n o_18 o_19 o_20, kx_a xj_v cyI 12 o_21, kx_a xj_n cyI 12 o_22, kx_3 xh0 xa_v xa_n vs lo le, kx_a xa_v cyI 12 fv, kx_a xa_n cyI 12 fn, kx_3 xk0 xkv xkn sb lb eb, kx_a xkv cyI 12 gb, kx_a xkn cyI 12 nb, kx_1 xt_ xt_k xt_o tk mo, kx_a xt_k cyI 160 fk, kx_a xt_o cyI 160 fq, kx_a xw_ cyI 160 fw, kx_a xz_ cyI 161 fz, kx_5 yh0 yg_row len slots u_thrown yg_many yg_loss yg_less yg_voteValue yg_voteNumber yg_allValue yg_allNumber u_allMany yg_nodeL yg_nodeR u_nodes yg_part u_partMany yg_wasMany yg_wasLoss yg_wasValue yg_wasNumber yg_path u_pathMany yg_heavyValue yg_heavyTimes u_heavyMany yg_fewest yg_which yg_met u_mostMet, kx_a yg_row cyI 160 f, kx_a yg_many cyI 324 u_many, kx_a yg_loss cyI 324 u_loss, kx_a yg_less cyI 324 u_less, kx_a yg_voteValue cyI 1944 u_voteValue, kx_a yg_voteNumber cyI 1944 u_voteNumber, kx_a yg_allValue cyI 12 u_allValue, kx_a yg_allNumber cyI 12 u_allNumber, kx_a yg_nodeL cyI 320 u_nodeL, kx_a yg_nodeR cyI 320 u_nodeR, kx_a yg_part cyI 320 u_part, kx_a yg_wasMany cyI 320 u_wasMany, kx_a yg_wasLoss cyI 320 u_wasLoss, kx_a yg_wasValue cyI 1920 u_wasValue, kx_a yg_wasNumber cyI 1920 u_wasNumber, kx_a yg_path cyI 12 u_path, kx_a yg_heavyValue cyI 160 u_heavyValue, kx_a yg_heavyTimes cyI 160 u_heavyTimes, kx_a yg_fewest cyI 161 u_fewest, kx_a yg_which cyI 160 u_which, kx_a yg_met cyI 160 u_met, (q_o, .inl (cyL, 1, .inr (.inl ol)))]) hP hD hP1 hD1 hk1 hFc [true, true, true, true, true, true, true, true, true, true, true, true, true, true, false, false, false, false, false, false, false, false, false, false, false, false, false, false, false, false, false, false, false, false, false, false, false, false, false, false, false, false, false, false, false, false, false, false] hCc rfl
  clear hP1 hD1 hK1 hk1 hz1 hFc hDc hPc hKc hCc
  generalize H1 = H at hP hS ⊢
  have w_7 : (((0 ≤ y_2.toInt ∧ y_2.toInt < y_4.toInt ∧ y_4.toInt ≤ len.toInt ∧ -32768 ≤ y_6.toInt ∧ y_6.toInt ≤ 32767) ∧ o_23 = mj_fill f y_2.toNatClampNeg y_4.toNatClampNeg y_6) ∨ ((y_2.toInt < 0 ∨ y_4.toInt ≤ y_2.toInt ∨ len.toInt < y_4.toInt ∨ y_6.toInt < -32768 ∨ 32767 < y_6.toInt) ∧ o_23 = f ∧ r_7 = -1)) ∧ shorts o_23 ∧ laidX o_8 slots o_10 o_23 o_11 o_12 o_13 o_14 o_15 o_16 o_17 o_9 len ∧ sixes o_13 := w_7
  refine lv_pop hx hb dL_law_378 rfl ?_
  refine lv_aload_n hx hb dL_law_379 rfl (lv_at hl 2 rfl) ?_
  refine lv_aload_n hx hb dL_law_380 rfl (lv_at hl 4 rfl) ?_
  refine lv_iload hx hb dL_law_381 (lv_at hl 0 rfl) ?_
  refine lv_iconst (v := 1) hx hb dL_law_383 (by decide) ?_
  refine lv_iadd hx hb dL_law_384 ?_
  refine lv_topi (fun y_24 ey_24 => ?_)
  have i_24 : y_24.toInt = ix.toInt + 1 := ki_add ey_24 rfl rfl (om_568 hix hj0) (om_569 hix hjI hLI)
  refine va_sld hx hb hX hbl hbA hS (i := y_24) (ki_in (om_570 hix hj0 i_24) (om_571 hix hjI i_24)) dL_law_385 ?_
  refine lv_topi (fun y_25 ey_25 => ?_)
  have qy_25 : y_2 = y_25 := by rw [ey_2, ey_25, ki_nateq (show y_1.toInt = y_24.toInt from (om_576 i_1 i_24))]
  subst qy_25
  refine lv_aload_n hx hb dL_law_386 rfl (lv_at hl 4 rfl) ?_
  refine lv_iload hx hb dL_law_387 (lv_at hl 0 rfl) ?_
  refine lv_iconst (v := 2) hx hb dL_law_389 (by decide) ?_
  refine lv_iadd hx hb dL_law_390 ?_
  refine lv_topi (fun y_26 ey_26 => ?_)
  have i_26 : y_26.toInt = ix.toInt + 2 := ki_add ey_26 rfl rfl (om_572 hix hj0) (om_573 hix hjI hLI)
  refine va_sld hx hb hX hbl hbA hS (i := y_26) (ki_in (om_574 hix hj0 i_26) (om_575 hix hjI i_26)) dL_law_391 ?_
  refine lv_topi (fun y_27 ey_27 => ?_)
  have qy_27 : y_4 = y_27 := by rw [ey_4, ey_27, ki_nateq (show y_3.toInt = y_26.toInt from (om_577 i_3 i_26))]
  subst qy_27
  refine lv_aload_n hx hb dL_law_392 rfl (lv_at hl 4 rfl) ?_
  refine lv_iload hx hb dL_law_393 (lv_at hl 0 rfl) ?_
  refine lv_iconst (v := 3) hx hb dL_law_395 (by decide) ?_
  refine lv_iadd hx hb dL_law_396 ?_
  refine lv_topi (fun y_28 ey_28 => ?_)
  have i_28 : y_28.toInt = ix.toInt + 3 := ki_add ey_28 rfl rfl (om_580 hix hj0) (om_581 hix hjI hLI)
  refine va_sld hx hb hX hbl hbA hS (i := y_28) (ki_in (om_582 hix hj0 i_28) (om_583 hix hjI i_28)) dL_law_397 ?_
  refine lv_topi (fun y_29 ey_29 => ?_)
  have qy_29 : y_6 = y_29 := by rw [ey_6, ey_29, ki_nateq (show y_5.toInt = y_28.toInt from (om_584 i_5 i_28))]
  subst qy_29
  obtain ⟨hPc, hDc, hFc, hCc⟩ := kx_preM (wc := [kx_5 yh0 yg_row len slots u_thrown yg_many yg_loss yg_less yg_voteValue yg_voteNumber yg_allValue yg_allNumber u_allMany yg_nodeL yg_nodeR u_nodes yg_part u_partMany yg_wasMany yg_wasLoss yg_wasValue yg_wasNumber yg_path u_pathMany yg_heavyValue yg_heavyTimes u_heavyMany yg_fewest yg_which yg_met u_mostMet, kx_a yg_row cyI 160 f, kx_a yg_many cyI 324 u_many, kx_a yg_loss cyI 324 u_loss, kx_a yg_less cyI 324 u_less, kx_a yg_voteValue cyI 1944 u_voteValue, kx_a yg_voteNumber cyI 1944 u_voteNumber, kx_a yg_allValue cyI 12 u_allValue, kx_a yg_allNumber cyI 12 u_allNumber, kx_a yg_nodeL cyI 320 u_nodeL, kx_a yg_nodeR cyI 320 u_nodeR, kx_a yg_wasMany cyI 320 u_wasMany, kx_a yg_wasLoss cyI 320 u_wasLoss, kx_a yg_wasValue cyI 1920 u_wasValue, kx_a yg_wasNumber cyI 1920 u_wasNumber]) hP hD hS hA [false, false, false, false, false, false, false, false, false, false, false, false, false, false, false, false, false, false, false, false, false, false, false, false, false, true, true, true, true, true, true, true, true, true, true, true, false, true, true, true, true, false, false, false, false, false, false, false] rfl
  have hKc := hK.sub (tys' := [(cyI, .int)]) [0] rfl
  refine va_calli (va_runV (As := [.int y_2, .int y_4, .int y_6]) (rest := []) ⟨hx, hb, hml, hown, (lwC_X5_fill hts0)⟩ (kx_un (c_X5_fill l dC dI yh0 yg_row yg_many yg_loss yg_less yg_voteValue yg_voteNumber yg_allValue yg_allNumber yg_nodeL yg_nodeR yg_part yg_wasMany yg_wasLoss yg_wasValue yg_wasNumber yg_path yg_heavyValue yg_heavyTimes yg_fewest yg_which yg_met len slots u_thrown u_allMany u_nodes u_partMany u_pathMany u_heavyMany u_mostMet cyI u_many u_loss u_less u_voteValue u_voteNumber f u_allValue u_allNumber u_nodeL u_nodeR u_wasMany u_wasLoss u_wasValue u_wasNumber y_2 y_4 y_6 H.size I0 I1 I2 I3 I7 I4)) (cwV 3 (lwC_X5_fill hts0) lwG_X5_fill rfl rfl rfl (by decide +kernel) ⟨Nat.le_of_ble_eq_true rfl, Nat.le_of_ble_eq_true rfl⟩) ⟨fun a U g mk q => by obtain ⟨q0, q1, qP, qK, qD⟩ := q; exact ⟨q0, q1, qP, va_K.moved (u := U) (U := U.calling g mk a) (Vm.Alike.refl U.vm) qK, qD⟩, kx_rc5 hKc hPc (q0 := 0) rfl, fun U hU hW => ⟨rfl, by rw [hU], by rw [hU]; exact hPc, va_K.moved hW.alike hKc, hDc.weaken (fun _ _ _ _ => trivial)⟩⟩ rfl rfl hl.1 rfl (lv_room (Nat.le_of_ble_eq_true rfl)) dL_law_398 (lw_fitJ hj hL (Nat.le_of_ble_eq_true rfl) (Nat.le_of_ble_eq_true rfl))) hS (fun q _ h => hFc q h) hFc (fun r_30 u t H1 locs ht hvm w_30 hB hz1 hk1 hS => ?_)
  obtain ⟨o_31, o_32, o_33, o_34, o_35, o_36, o_37, o_38, o_39, o_40, o_41, o_42, o_43, o_44, o_45, o_46⟩ := u
  dsimp only at w_30 hB
  obtain ⟨hP1, hK1, hD1⟩ := hB
  rw [ht] at hP1
  have hK1 := va_K.moved hvm.symm hK1
  obtain ⟨hP, hD⟩ := kx_joinM (w2 := [kx_4 xm_ xq_row xq_t xt_ xh0 xk0 xw_ xz_ slots o_8, kx_2 xq_t xq_row xq_joined xq_from xq_to xq_size xq_lossOf xq_lessBy xq_value xq_number o_9 o_10, kx_0 xq_row xq_cell len, kx_a xq_cell cyI 160 o_23, kx_a xq_from cyI 319 o_11, kx_a xq_to cyI 319 o_12, kx_a xq_size cyI 319 o_13, kx_a xq_lossOf cyI 319 o_14, kx_a xq_lessBy cyI 319 o_15, kx_a xq_value cyI 1914 o_16, kx_a xq_number cyI 1914 o_17, kx_3 xq_joined xj_v xj_n o_18 o_19 o_20, kx_a xj_v cyI 12 o_21, kx_a xj_n cyI 12 o_22, kx_3 xh0 xa_v xa_n vs lo le, kx_a xa_v cyI 12 fv, kx_a xa_n cyI 12 fn, kx_3 xk0 xkv xkn sb lb eb, kx_a xkv cyI 12 gb, kx_a xkn cyI 12 nb, kx_1 xt_ xt_k xt_o tk mo, kx_a xt_k cyI 160 fk, kx_a xt_o cyI 160 fq, kx_a xw_ cyI 160 fw, kx_a xz_ cyI 161 fz, kx_5 yh0 yg_row len slots 0 yg_many yg_loss yg_less yg_voteValue yg_voteNumber yg_allValue yg_allNumber o_32 yg_nodeL yg_nodeR o_31 yg_part u_partMany yg_wasMany yg_wasLoss yg_wasValue yg_wasNumber yg_path u_pathMany yg_heavyValue yg_heavyTimes u_heavyMany yg_fewest yg_which yg_met u_mostMet, kx_a yg_row cyI 160 o_46, kx_a yg_many cyI 324 o_33, kx_a yg_loss cyI 324 o_34, kx_a yg_less cyI 324 o_35, kx_a yg_voteValue cyI 1944 o_36, kx_a yg_voteNumber cyI 1944 o_37, kx_a yg_allValue cyI 12 o_38, kx_a yg_allNumber cyI 12 o_39, kx_a yg_nodeL cyI 320 o_40, kx_a yg_nodeR cyI 320 o_41, kx_a yg_part cyI 320 u_part, kx_a yg_wasMany cyI 320 o_42, kx_a yg_wasLoss cyI 320 o_43, kx_a yg_wasValue cyI 1920 o_44, kx_a yg_wasNumber cyI 1920 o_45, kx_a yg_path cyI 12 u_path, kx_a yg_heavyValue cyI 160 u_heavyValue, kx_a yg_heavyTimes cyI 160 u_heavyTimes, kx_a yg_fewest cyI 161 u_fewest, kx_a yg_which cyI 160 u_which, kx_a yg_met cyI 160 u_met, (q_o, .inl (cyL, 1, .inr (.inl ol)))]) hP hD hP1 hD1 hk1 hFc [false, false, false, false, false, false, false, false, false, false, false, false, false, false, false, false, false, false, false, false, false, false, false, false, false, true, true, true, true, true, true, true, true, true, true, true, false, true, true, true, true, false, false, false, false, false, false, false] hCc rfl
  clear hP1 hD1 hK1 hk1 hz1 hFc hDc hPc hKc hCc
  generalize H1 = H at hP hS ⊢
  have w_30 : (((0 ≤ y_2.toInt ∧ y_2.toInt < y_4.toInt ∧ y_4.toInt ≤ len.toInt ∧ -32768 ≤ y_6.toInt ∧ y_6.toInt ≤ 32767) ∧ o_46 = mj_fill f y_2.toNatClampNeg y_4.toNatClampNeg y_6) ∨ ((y_2.toInt < 0 ∨ y_4.toInt ≤ y_2.toInt ∨ len.toInt < y_4.toInt ∨ y_6.toInt < -32768 ∨ 32767 < y_6.toInt) ∧ o_46 = f ∧ r_30 = -1)) ∧ shorts o_46 ∧ six4 o_33 := w_30
  refine lv_pop hx hb dL_law_401 rfl ?_
  refine lv_goto (tgt := 2288) hx hb dL_law_402 (by decide) ?_
  obtain ⟨x_47, ex_47⟩ : ∃ y : Int32, y = ix + 8 := ⟨_, rfl⟩
  have i_47 : x_47.toInt = ix.toInt + 8 := ki_add ex_47 rfl rfl (om_578 hix hj0) (om_579 hix hjI hLI)
  refine lv_iinc (v := x_47) (lv' := [(4, .int x_47), (3, .ref q_o), (2, .ref yh0), (1, .ref xm_), (0, .ref b)]) hx hb dL_law_2288 hl (k := 0) rfl (by rw [ex_47]; rfl) (by decide) rfl (fun ls hl => ?_)
  refine lv_goto (tgt := 23) hx hb dL_law_2291 (by decide) ?_
  have hEq : o_46 = o_23 := by
    rcases w_7.1 with ⟨a1, a2⟩ | ⟨a1, a2, a3⟩ <;> rcases w_30.1 with ⟨b1, b2⟩ | ⟨b1, b2, b3⟩
    · rw [a2, b2]
    · exfalso; omega
    · exfalso; omega
    · rw [a2, b2]
  rw [hEq] at hP hD
  obtain ⟨hP, hD⟩ := kx_re (w2 := [kx_4 xm_ xq_row xq_t xt_ xh0 xk0 xw_ xz_ slots o_8, kx_2 xq_t xq_row xq_joined xq_from xq_to xq_size xq_lossOf xq_lessBy xq_value xq_number o_9 o_10, kx_0 xq_row xq_cell len, kx_a xq_cell cyI 160 o_23, kx_a xq_from cyI 319 o_11, kx_a xq_to cyI 319 o_12, kx_a xq_size cyI 319 o_13, kx_a xq_lossOf cyI 319 o_14, kx_a xq_lessBy cyI 319 o_15, kx_a xq_value cyI 1914 o_16, kx_a xq_number cyI 1914 o_17, kx_3 xq_joined xj_v xj_n o_18 o_19 o_20, kx_a xj_v cyI 12 o_21, kx_a xj_n cyI 12 o_22, kx_3 xh0 xa_v xa_n vs lo le, kx_a xa_v cyI 12 fv, kx_a xa_n cyI 12 fn, kx_3 xk0 xkv xkn sb lb eb, kx_a xkv cyI 12 gb, kx_a xkn cyI 12 nb, kx_1 xt_ xt_k xt_o tk mo, kx_a xt_k cyI 160 fk, kx_a xt_o cyI 160 fq, kx_a xw_ cyI 160 fw, kx_a xz_ cyI 161 fz, kx_5 yh0 yg_row len slots 0 yg_many yg_loss yg_less yg_voteValue yg_voteNumber yg_allValue yg_allNumber o_32 yg_nodeL yg_nodeR o_31 yg_part u_partMany yg_wasMany yg_wasLoss yg_wasValue yg_wasNumber yg_path u_pathMany yg_heavyValue yg_heavyTimes u_heavyMany yg_fewest yg_which yg_met u_mostMet, kx_a yg_row cyI 160 o_23, kx_a yg_many cyI 324 o_33, kx_a yg_loss cyI 324 o_34, kx_a yg_less cyI 324 o_35, kx_a yg_voteValue cyI 1944 o_36, kx_a yg_voteNumber cyI 1944 o_37, kx_a yg_allValue cyI 12 o_38, kx_a yg_allNumber cyI 12 o_39, kx_a yg_nodeL cyI 320 o_40, kx_a yg_nodeR cyI 320 o_41, kx_a yg_part cyI 320 u_part, kx_a yg_wasMany cyI 320 o_42, kx_a yg_wasLoss cyI 320 o_43, kx_a yg_wasValue cyI 1920 o_44, kx_a yg_wasNumber cyI 1920 o_45, kx_a yg_path cyI 12 u_path, kx_a yg_heavyValue cyI 160 u_heavyValue, kx_a yg_heavyTimes cyI 160 u_heavyTimes, kx_a yg_fewest cyI 161 u_fewest, kx_a yg_which cyI 160 u_which, kx_a yg_met cyI 160 u_met, (q_o, .inl (cyL, 1, .inr (.inl ol)))]) hP hD rfl
  refine W.widen (k := 60 + 2 * (j + 1)) (n := 20000 + 12 * (j + 1)) (lw_wdC (k := 0) (Nat.le_of_ble_eq_true rfl)) (lw_wdS (k := 0) (Nat.le_of_ble_eq_true rfl)) ?_
  have k_48 : (0 : Int32).toInt = 0 := rfl
  exact ih len slots o_8 o_9 o_10 o_18 o_19 o_20 vs lo le sb lb eb tk mo 0 o_32 o_31 u_partMany u_pathMany u_heavyMany u_mostMet o_23 o_11 o_12 o_13 o_14 o_15 o_16 o_17 o_21 o_22 fv fn gb nb fk fq fw fz o_33 o_34 o_35 o_36 o_37 o_38 o_39 o_40 o_41 u_part o_42 o_43 o_44 o_45 u_path u_heavyValue u_heavyTimes u_fewest u_which u_met ol x_47 (om_ix i_47 hix) I0 I1 I2 I3 w_7.2.1 w_7.2.2.2 w_7.2.2.1 w_30.2.2 I8 _ _ ls hP hD hS (lv_sub hl [0, 1, 2, 3, 4] rfl)

set_option maxHeartbeats 4000000 in
set_option maxRecDepth 100000 in
theorem lc_5 {p : Program} {l : Launch} {e : Env} {s : State} {m : MethodId} {below : List Frame} {meth : Method} {c : Code} {dC : Nat → ClassId} {dI : Nat → Nat → Nat} {b : Nat} {xs : Nat → Int32} (hl0 : l.stackTraces = false) {L j : Nat} (hL : L ≤ 4096) (hj : 8 * j + 8 ≤ L) (C0 : lw_At p s m meth c b L xs) (hth : ki_ThA (fun q : Nat => s.heap.size ≤ q) s) {cyI cyL : ClassId} {xm_ xq_t xq_row xq_cell xq_from xq_to xq_size xq_lossOf xq_lessBy xq_value xq_number xq_joined xj_v xj_n xh0 xa_v xa_n xk0 xkv xkn xt_ xt_k xt_o xw_ xz_ yh0 yg_row yg_many yg_loss yg_less yg_voteValue yg_voteNumber yg_allValue yg_allNumber yg_nodeL yg_nodeR yg_part yg_wasMany yg_wasLoss yg_wasValue yg_wasNumber yg_path yg_heavyValue yg_heavyTimes yg_fewest yg_which yg_met q_o : Nat} (hK : va_K (dC, dI) vwCl [(cyI, .int), (cyL, .long)] s) (ih : lw_G p l e s m below meth c b dC dI cyI cyL xm_ xq_t xq_row xq_cell xq_from xq_to xq_size xq_lossOf xq_lessBy xq_value xq_number xq_joined xj_v xj_n xh0 xa_v xa_n xk0 xkv xkn xt_ xt_k xt_o xw_ xz_ yh0 yg_row yg_many yg_loss yg_less yg_voteValue yg_voteNumber yg_allValue yg_allNumber yg_nodeL yg_nodeR yg_part yg_wasMany yg_wasLoss yg_wasValue yg_wasNumber yg_path yg_heavyValue yg_heavyTimes yg_fewest yg_which yg_met q_o (j + 1)) {len slots old nodes here js jl je vs lo le sb lb eb tk mo u_thrown u_allMany u_nodes u_partMany u_pathMany u_heavyMany u_mostMet ix : Int32} {f ff ft fs fo fe uv un jv jn fv fn gb nb fk fq fw fz u_many u_loss u_less u_voteValue u_voteNumber u_allValue u_allNumber u_nodeL u_nodeR u_part u_wasMany u_wasLoss u_wasValue u_wasNumber u_path u_heavyValue u_heavyTimes u_fewest u_which u_met : Nat → Int32} {ol : Nat → Int64} (hix : ix.toInt = 8 * (j : Int)) (I0 : 0 ≤ len.toInt) (I1 : len.toInt ≤ 160) (I2 : 1 ≤ slots.toInt) (I3 : slots.toInt ≤ 6) (I4 : shorts f) (I5 : sixes fs) (I6 : laidX old slots here f ff ft fs fo fe uv un nodes len) (I7 : six4 u_many) (I8 : parts320 u_part) {H : Heap} {locs : List Loc} (hP : va_P (dC, dI) vwCl [kx_4 xm_ xq_row xq_t xt_ xh0 xk0 xw_ xz_ slots old, kx_2 xq_t xq_row xq_joined xq_from xq_to xq_size xq_lossOf xq_lessBy xq_value xq_number nodes here, kx_0 xq_row xq_cell len, kx_a xq_cell cyI 160 f, kx_a xq_from cyI 319 ff, kx_a xq_to cyI 319 ft, kx_a xq_size cyI 319 fs, kx_a xq_lossOf cyI 319 fo, kx_a xq_lessBy cyI 319 fe, kx_a xq_value cyI 1914 uv, kx_a xq_number cyI 1914 un, kx_3 xq_joined xj_v xj_n js jl je, kx_a xj_v cyI 12 jv, kx_a xj_n cyI 12 jn, kx_3 xh0 xa_v xa_n vs lo le, kx_a xa_v cyI 12 fv, kx_a xa_n cyI 12 fn, kx_3 xk0 xkv xkn sb lb eb, kx_a xkv cyI 12 gb, kx_a xkn cyI 12 nb, kx_1 xt_ xt_k xt_o tk mo, kx_a xt_k cyI 160 fk, kx_a xt_o cyI 160 fq, kx_a xw_ cyI 160 fw, kx_a xz_ cyI 161 fz, kx_5 yh0 yg_row len slots u_thrown yg_many yg_loss yg_less yg_voteValue yg_voteNumber yg_allValue yg_allNumber u_allMany yg_nodeL yg_nodeR u_nodes yg_part u_partMany yg_wasMany yg_wasLoss yg_wasValue yg_wasNumber yg_path u_pathMany yg_heavyValue yg_heavyTimes u_heavyMany yg_fewest yg_which yg_met u_mostMet, kx_a yg_row cyI 160 f, kx_a yg_many cyI 324 u_many, kx_a yg_loss cyI 324 u_loss, kx_a yg_less cyI 324 u_less, kx_a yg_voteValue cyI 1944 u_voteValue, kx_a yg_voteNumber cyI 1944 u_voteNumber, kx_a yg_allValue cyI 12 u_allValue, kx_a yg_allNumber cyI 12 u_allNumber, kx_a yg_nodeL cyI 320 u_nodeL, kx_a yg_nodeR cyI 320 u_nodeR, kx_a yg_part cyI 320 u_part, kx_a yg_wasMany cyI 320 u_wasMany, kx_a yg_wasLoss cyI 320 u_wasLoss, kx_a yg_wasValue cyI 1920 u_wasValue, kx_a yg_wasNumber cyI 1920 u_wasNumber, kx_a yg_path cyI 12 u_path, kx_a yg_heavyValue cyI 160 u_heavyValue, kx_a yg_heavyTimes cyI 160 u_heavyTimes, kx_a yg_fewest cyI 161 u_fewest, kx_a yg_which cyI 160 u_which, kx_a yg_met cyI 160 u_met, (q_o, .inl (cyL, 1, .inr (.inl ol)))] H) (hD : va_D (fun q : Nat => s.heap.size ≤ q) [kx_4 xm_ xq_row xq_t xt_ xh0 xk0 xw_ xz_ slots old, kx_2 xq_t xq_row xq_joined xq_from xq_to xq_size xq_lossOf xq_lessBy xq_value xq_number nodes here, kx_0 xq_row xq_cell len, kx_a xq_cell cyI 160 f, kx_a xq_from cyI 319 ff, kx_a xq_to cyI 319 ft, kx_a xq_size cyI 319 fs, kx_a xq_lossOf cyI 319 fo, kx_a xq_lessBy cyI 319 fe, kx_a xq_value cyI 1914 uv, kx_a xq_number cyI 1914 un, kx_3 xq_joined xj_v xj_n js jl je, kx_a xj_v cyI 12 jv, kx_a xj_n cyI 12 jn, kx_3 xh0 xa_v xa_n vs lo le, kx_a xa_v cyI 12 fv, kx_a xa_n cyI 12 fn, kx_3 xk0 xkv xkn sb lb eb, kx_a xkv cyI 12 gb, kx_a xkn cyI 12 nb, kx_1 xt_ xt_k xt_o tk mo, kx_a xt_k cyI 160 fk, kx_a xt_o cyI 160 fq, kx_a xw_ cyI 160 fw, kx_a xz_ cyI 161 fz, kx_5 yh0 yg_row len slots u_thrown yg_many yg_loss yg_less yg_voteValue yg_voteNumber yg_allValue yg_allNumber u_allMany yg_nodeL yg_nodeR u_nodes yg_part u_partMany yg_wasMany yg_wasLoss yg_wasValue yg_wasNumber yg_path u_pathMany yg_heavyValue yg_heavyTimes u_heavyMany yg_fewest yg_which yg_met u_mostMet, kx_a yg_row cyI 160 f, kx_a yg_many cyI 324 u_many, kx_a yg_loss cyI 324 u_loss, kx_a yg_less cyI 324 u_less, kx_a yg_voteValue cyI 1944 u_voteValue, kx_a yg_voteNumber cyI 1944 u_voteNumber, kx_a yg_allValue cyI 12 u_allValue, kx_a yg_allNumber cyI 12 u_allNumber, kx_a yg_nodeL cyI 320 u_nodeL, kx_a yg_nodeR cyI 320 u_nodeR, kx_a yg_part cyI 320 u_part, kx_a yg_wasMany cyI 320 u_wasMany, kx_a yg_wasLoss cyI 320 u_wasLoss, kx_a yg_wasValue cyI 1920 u_wasValue, kx_a yg_wasNumber cyI 1920 u_wasNumber, kx_a yg_path cyI 12 u_path, kx_a yg_heavyValue cyI 160 u_heavyValue, kx_a yg_heavyTimes cyI 160 u_heavyTimes, kx_a yg_fewest cyI 161 u_fewest, kx_a yg_which cyI 160 u_which, kx_a yg_met cyI 160 u_met, (q_o, .inl (cyL, 1, .inr (.inl ol)))]) (hS : va_S (fun q : Nat => s.heap.size ≤ q) s.heap H locs) {ls : Array Slot} (hl : lv_has ls 7 [(4, .int ix), (3, .ref q_o), (2, .ref yh0), (1, .ref xm_), (0, .ref b)]) : W p l e room_1 s m #[Value.ref b] below meth c H locs (60 + 2 * j) (20000 + 12 * j) (lw_Z below #[Value.ref b] s) (F0 m 405 ls []) := by
  obtain ⟨hx, hb, hr, hml, hown, hts0, hX, hbl, hlocks, hgv⟩ := id C0
  have hts := hts0
  have hA : ∀ q : Nat, s.heap.size ≤ q → (fun q : Nat => s.heap.size ≤ q) q := fun _ h => h
  have hbA : ¬ (fun q : Nat => s.heap.size ≤ q) b := Nat.not_le.mpr hbl
  have hown : s.vm.findClass RL = some m.cls := hown
  have hb : c.code = cL_law := hb
  have hj0 : 0 ≤ (j : Int) := Int.natCast_nonneg j
  have hjI : 8 * (j : Int) + 8 ≤ (L : Int) := lw_jI hj
  have hLI : (L : Int) ≤ 4096 := lw_LI hL
  refine lv_aload_n hx hb dL_law_405 rfl (lv_at hl 3 rfl) ?_
  refine lv_aload_n hx hb dL_law_406 rfl (lv_at hl 4 rfl) ?_
  refine lv_iload hx hb dL_law_407 (lv_at hl 0 rfl) ?_
  refine lv_iconst (v := 1) hx hb dL_law_409 (by decide) ?_
  refine lv_iadd hx hb dL_law_410 ?_
  refine lv_topi (fun y_1 ey_1 => ?_)
  have i_1 : y_1.toInt = ix.toInt + 1 := ki_add ey_1 rfl rfl (om_568 hix hj0) (om_569 hix hjI hLI)
  refine va_sld hx hb hX hbl hbA hS (i := y_1) (ki_in (om_570 hix hj0 i_1) (om_571 hix hjI i_1)) dL_law_411 ?_
  refine lv_topi (fun y_2 ey_2 => ?_)
  refine lv_aload_n hx hb dL_law_412 rfl (lv_at hl 4 rfl) ?_
  refine lv_iload hx hb dL_law_413 (lv_at hl 0 rfl) ?_
  refine lv_iconst (v := 2) hx hb dL_law_415 (by decide) ?_
  refine lv_iadd hx hb dL_law_416 ?_
  refine lv_topi (fun y_3 ey_3 => ?_)
  have i_3 : y_3.toInt = ix.toInt + 2 := ki_add ey_3 rfl rfl (om_572 hix hj0) (om_573 hix hjI hLI)
  refine va_sld hx hb hX hbl hbA hS (i := y_3) (ki_in (om_574 hix hj0 i_3) (om_575 hix hjI i_3)) dL_law_417 ?_
  refine lv_topi (fun y_4 ey_4 => ?_)
  obtain ⟨hPc, hDc, hFc, hCc⟩ := kx_preM (wc := [kx_4 xm_ xq_row xq_t xt_ xh0 xk0 xw_ xz_ slots old, kx_2 xq_t xq_row xq_joined xq_from xq_to xq_size xq_lossOf xq_lessBy xq_value xq_number nodes here, kx_0 xq_row xq_cell len, kx_a xq_cell cyI 160 f, kx_a xq_from cyI 319 ff, kx_a xq_to cyI 319 ft, kx_a xq_size cyI 319 fs, kx_a xq_lossOf cyI 319 fo, kx_a xq_lessBy cyI 319 fe, kx_a xq_value cyI 1914 uv, kx_a xq_number cyI 1914 un, kx_3 xq_joined xj_v xj_n js jl je, kx_a xj_v cyI 12 jv, kx_a xj_n cyI 12 jn]) hP hD hS hA [true, true, true, true, true, true, true, true, true, true, true, true, true, true, false, false, false, false, false, false, false, false, false, false, false, false, false, false, false, false, false, false, false, false, false, false, false, false, false, false, false, false, false, false, false, false, false, false] rfl
  have hKc := hK.sub (tys' := [(cyI, .int)]) [0] rfl
  refine va_calli (va_runV (As := [.int y_2, .int y_4]) (rest := []) ⟨hx, hb, hml, hown, (lwC_X4_turn hts0)⟩ (kx_un (c_X4_turn_X l dC dI xm_ xq_row xq_t xt_ xh0 xk0 xw_ xz_ slots old xq_joined xq_from xq_to xq_size xq_lossOf xq_lessBy xq_value xq_number nodes here xq_cell cyI len f ff ft fs fo uv un fe xj_v xj_n js jl je jv jn y_2 y_4 H.size I0 I1 I5 I2 I3 I6 I4)) (cwV 2 (lwC_X4_turn hts0) lwG_X4_turn rfl rfl rfl (by decide +kernel) ⟨Nat.le_of_ble_eq_true rfl, Nat.le_of_ble_eq_true rfl⟩) ⟨fun a U g mk q => by obtain ⟨q0, q1, qP, qK, qD⟩ := q; exact ⟨q0, q1, qP, va_K.moved (u := U) (U := U.calling g mk a) (Vm.Alike.refl U.vm) qK, qD⟩, kx_rc4 hKc hPc (q0 := 0) rfl, fun U hU hW => ⟨rfl, by rw [hU], by rw [hU]; exact hPc, va_K.moved hW.alike hKc, hDc.weaken (fun _ _ _ _ => trivial)⟩⟩ rfl rfl hl.1 rfl (lv_room (Nat.le_of_ble_eq_true rfl)) dL_law_418 (lw_fitJ hj hL (Nat.le_of_ble_eq_true rfl) (Nat.le_of_ble_eq_true rfl))) hS (fun q _ h => hFc q h) hFc (fun r_5 u t H1 locs ht hvm w_5 hB hz1 hk1 hS => ?_)
  obtain ⟨o_6, o_7, o_8, o_9, o_10, o_11, o_12, o_13, o_14, o_15, o_16, o_17, o_18, o_19, o_20, o_21⟩ := u
  dsimp only at w_5 hB
  obtain ⟨hP1, hK1, hD1⟩ := hB
  rw [ht] at hP1
  have hK1 := va_K.moved hvm.symm hK1
  obtain ⟨hP, hD⟩ := kx_joinM (w2 := [kx_4 xm_ xq_row xq_t xt_ xh0 xk0 xw_ xz_ slots o_6, kx_2 xq_t xq_row xq_joined xq_from xq_to xq_size xq_lossOf xq_lessBy xq_value xq_number o_7 o_8, kx_0 xq_row xq_cell len, kx_a xq_cell cyI 160 o_21, kx_a xq_from cyI 319 o_9, kx_a xq_to cyI 319 o_10, kx_a xq_size cyI 319 o_11, kx_a xq_lossOf cyI 319 o_12, kx_a xq_lessBy cyI 319 o_13, kx_a xq_value cyI 1914 o_14, kx_a xq_number cyI 1914 o_15, kx_3 xq_joined xj_v xj_n o_16 o_17 o_18, kx_a xj_v cyI 12 o_19, kx_a xj_n cyI 12 o_20, kx_3 xh0 xa_v xa_n vs lo le, kx_a xa_v cyI 12 fv, kx_a xa_n cyI 12 fn, kx_3 xk0 xkv xkn sb lb eb, kx_a xkv cyI 12 gb, kx_a xkn cyI 12 nb, kx_1 xt_ xt_k xt_o tk mo, kx_a xt_k cyI 160 fk, kx_a xt_o cyI 160 fq, kx_a xw_ cyI 160 fw, kx_a xz_ cyI 161 fz, kx_5 yh0 yg_row len slots u_thrown yg_many yg_loss yg_less yg_voteValue yg_voteNumber yg_allValue yg_allNumber u_allMany yg_nodeL yg_nodeR u_nodes yg_part u_partMany yg_wasMany yg_wasLoss yg_wasValue yg_wasNumber yg_path u_pathMany yg_heavyValue yg_heavyTimes u_heavyMany yg_fewest yg_which yg_met u_mostMet, kx_a yg_row cyI 160 f, kx_a yg_many cyI 324 u_many, kx_a yg_loss cyI 324 u_loss, kx_a yg_less cyI 324 u_less, kx_a yg_voteValue cyI 1944 u_voteValue, kx_a yg_voteNumber cyI 1944 u_voteNumber, kx_a yg_allValue cyI 12 u_allValue, kx_a yg_allNumber cyI 12 u_allNumber, kx_a yg_nodeL cyI 320 u_nodeL, kx_a yg_nodeR cyI 320 u_nodeR, kx_a yg_part cyI 320 u_part, kx_a yg_wasMany cyI 320 u_wasMany, kx_a yg_wasLoss cyI 320 u_wasLoss, kx_a yg_wasValue cyI 1920 u_wasValue, kx_a yg_wasNumber cyI 1920 u_wasNumber, kx_a yg_path cyI 12 u_path, kx_a yg_heavyValue cyI 160 u_heavyValue, kx_a yg_heavyTimes cyI 160 u_heavyTimes, kx_a yg_fewest cyI 161 u_fewest, kx_a yg_which cyI 160 u_which, kx_a yg_met cyI 160 u_met, (q_o, .inl (cyL, 1, .inr (.inl ol)))]) hP hD hP1 hD1 hk1 hFc [true, true, true, true, true, true, true, true, true, true, true, true, true, true, false, false, false, false, false, false, false, false, false, false, false, false, false, false, false, false, false, false, false, false, false, false, false, false, false, false, false, false, false, false, false, false, false, false] hCc rfl
  clear hP1 hD1 hK1 hk1 hz1 hFc hDc hPc hKc hCc
  generalize H1 = H at hP hS ⊢
  have w_5 : (((0 ≤ y_2.toInt ∧ y_2.toInt < y_4.toInt ∧ y_4.toInt ≤ len.toInt) ∧ o_21 = mj_turn f y_2.toNatClampNeg y_4.toNatClampNeg) ∨ ((y_2.toInt < 0 ∨ y_4.toInt ≤ y_2.toInt ∨ len.toInt < y_4.toInt) ∧ o_21 = f ∧ r_5 = -1)) ∧ shorts o_21 ∧ laidX o_6 slots o_8 o_21 o_9 o_10 o_11 o_12 o_13 o_14 o_15 o_7 len ∧ sixes o_11 := w_5
  refine lv_pop hx hb dL_law_421 rfl ?_
  refine lv_aload_n hx hb dL_law_422 rfl (lv_at hl 2 rfl) ?_
  refine lv_aload_n hx hb dL_law_423 rfl (lv_at hl 4 rfl) ?_
  refine lv_iload hx hb dL_law_424 (lv_at hl 0 rfl) ?_
  refine lv_iconst (v := 1) hx hb dL_law_426 (by decide) ?_
  refine lv_iadd hx hb dL_law_427 ?_
  refine lv_topi (fun y_22 ey_22 => ?_)
  have i_22 : y_22.toInt = ix.toInt + 1 := ki_add ey_22 rfl rfl (om_568 hix hj0) (om_569 hix hjI hLI)
  refine va_sld hx hb hX hbl hbA hS (i := y_22) (ki_in (om_570 hix hj0 i_22) (om_571 hix hjI i_22)) dL_law_428 ?_
  refine lv_topi (fun y_23 ey_23 => ?_)
  have qy_23 : y_2 = y_23 := by rw [ey_2, ey_23, ki_nateq (show y_1.toInt = y_22.toInt from (om_576 i_1 i_22))]
  subst qy_23
  refine lv_aload_n hx hb dL_law_429 rfl (lv_at hl 4 rfl) ?_
  refine lv_iload hx hb dL_law_430 (lv_at hl 0 rfl) ?_
  refine lv_iconst (v := 2) hx hb dL_law_432 (by decide) ?_
  refine lv_iadd hx hb dL_law_433 ?_
  refine lv_topi (fun y_24 ey_24 => ?_)
  have i_24 : y_24.toInt = ix.toInt + 2 := ki_add ey_24 rfl rfl (om_572 hix hj0) (om_573 hix hjI hLI)
  refine va_sld hx hb hX hbl hbA hS (i := y_24) (ki_in (om_574 hix hj0 i_24) (om_575 hix hjI i_24)) dL_law_434 ?_
  refine lv_topi (fun y_25 ey_25 => ?_)
  have qy_25 : y_4 = y_25 := by rw [ey_4, ey_25, ki_nateq (show y_3.toInt = y_24.toInt from (om_577 i_3 i_24))]
  subst qy_25
  obtain ⟨hPc, hDc, hFc, hCc⟩ := kx_preM (wc := [kx_5 yh0 yg_row len slots u_thrown yg_many yg_loss yg_less yg_voteValue yg_voteNumber yg_allValue yg_allNumber u_allMany yg_nodeL yg_nodeR u_nodes yg_part u_partMany yg_wasMany yg_wasLoss yg_wasValue yg_wasNumber yg_path u_pathMany yg_heavyValue yg_heavyTimes u_heavyMany yg_fewest yg_which yg_met u_mostMet, kx_a yg_row cyI 160 f, kx_a yg_many cyI 324 u_many, kx_a yg_loss cyI 324 u_loss, kx_a yg_less cyI 324 u_less, kx_a yg_voteValue cyI 1944 u_voteValue, kx_a yg_voteNumber cyI 1944 u_voteNumber, kx_a yg_allValue cyI 12 u_allValue, kx_a yg_allNumber cyI 12 u_allNumber, kx_a yg_nodeL cyI 320 u_nodeL, kx_a yg_nodeR cyI 320 u_nodeR, kx_a yg_wasMany cyI 320 u_wasMany, kx_a yg_wasLoss cyI 320 u_wasLoss, kx_a yg_wasValue cyI 1920 u_wasValue, kx_a yg_wasNumber cyI 1920 u_wasNumber]) hP hD hS hA [false, false, false, false, false, false, false, false, false, false, false, false, false, false, false, false, false, false, false, false, false, false, false, false, false, true, true, true, true, true, true, true, true, true, true, true, false, true, true, true, true, false, false, false, false, false, false, false] rfl
  have hKc := hK.sub (tys' := [(cyI, .int)]) [0] rfl
  refine va_calli (va_runV (As := [.int y_2, .int y_4]) (rest := []) ⟨hx, hb, hml, hown, (lwC_X5_turn hts0)⟩ (kx_un (c_X5_turn l dC dI yh0 yg_row yg_many yg_loss yg_less yg_voteValue yg_voteNumber yg_allValue yg_allNumber yg_nodeL yg_nodeR yg_part yg_wasMany yg_wasLoss yg_wasValue yg_wasNumber yg_path yg_heavyValue yg_heavyTimes yg_fewest yg_which yg_met len slots u_thrown u_allMany u_nodes u_partMany u_pathMany u_heavyMany u_mostMet cyI u_many u_loss u_less u_voteValue u_voteNumber f u_allValue u_allNumber u_nodeL u_nodeR u_wasMany u_wasLoss u_wasValue u_wasNumber y_2 y_4 H.size I0 I1 I2 I3 I7 I4)) (cwV 2 (lwC_X5_turn hts0) lwG_X5_turn rfl rfl rfl (by decide +kernel) ⟨Nat.le_of_ble_eq_true rfl, Nat.le_of_ble_eq_true rfl⟩) ⟨fun a U g mk q => by obtain ⟨q0, q1, qP, qK, qD⟩ := q; exact ⟨q0, q1, qP, va_K.moved (u := U) (U := U.calling g mk a) (Vm.Alike.refl U.vm) qK, qD⟩, kx_rc5 hKc hPc (q0 := 0) rfl, fun U hU hW => ⟨rfl, by rw [hU], by rw [hU]; exact hPc, va_K.moved hW.alike hKc, hDc.weaken (fun _ _ _ _ => trivial)⟩⟩ rfl rfl hl.1 rfl (lv_room (Nat.le_of_ble_eq_true rfl)) dL_law_435 (lw_fitJ hj hL (Nat.le_of_ble_eq_true rfl) (Nat.le_of_ble_eq_true rfl))) hS (fun q _ h => hFc q h) hFc (fun r_26 u t H1 locs ht hvm w_26 hB hz1 hk1 hS => ?_)
  obtain ⟨o_27, o_28, o_29, o_30, o_31, o_32, o_33, o_34, o_35, o_36, o_37, o_38, o_39, o_40, o_41, o_42⟩ := u
  dsimp only at w_26 hB
  obtain ⟨hP1, hK1, hD1⟩ := hB
  rw [ht] at hP1
  have hK1 := va_K.moved hvm.symm hK1
  obtain ⟨hP, hD⟩ := kx_joinM (w2 := [kx_4 xm_ xq_row xq_t xt_ xh0 xk0 xw_ xz_ slots o_6, kx_2 xq_t xq_row xq_joined xq_from xq_to xq_size xq_lossOf xq_lessBy xq_value xq_number o_7 o_8, kx_0 xq_row xq_cell len, kx_a xq_cell cyI 160 o_21, kx_a xq_from cyI 319 o_9, kx_a xq_to cyI 319 o_10, kx_a xq_size cyI 319 o_11, kx_a xq_lossOf cyI 319 o_12, kx_a xq_lessBy cyI 319 o_13, kx_a xq_value cyI 1914 o_14, kx_a xq_number cyI 1914 o_15, kx_3 xq_joined xj_v xj_n o_16 o_17 o_18, kx_a xj_v cyI 12 o_19, kx_a xj_n cyI 12 o_20, kx_3 xh0 xa_v xa_n vs lo le, kx_a xa_v cyI 12 fv, kx_a xa_n cyI 12 fn, kx_3 xk0 xkv xkn sb lb eb, kx_a xkv cyI 12 gb, kx_a xkn cyI 12 nb, kx_1 xt_ xt_k xt_o tk mo, kx_a xt_k cyI 160 fk, kx_a xt_o cyI 160 fq, kx_a xw_ cyI 160 fw, kx_a xz_ cyI 161 fz, kx_5 yh0 yg_row len slots 0 yg_many yg_loss yg_less yg_voteValue yg_voteNumber yg_allValue yg_allNumber o_28 yg_nodeL yg_nodeR o_27 yg_part u_partMany yg_wasMany yg_wasLoss yg_wasValue yg_wasNumber yg_path u_pathMany yg_heavyValue yg_heavyTimes u_heavyMany yg_fewest yg_which yg_met u_mostMet, kx_a yg_row cyI 160 o_42, kx_a yg_many cyI 324 o_29, kx_a yg_loss cyI 324 o_30, kx_a yg_less cyI 324 o_31, kx_a yg_voteValue cyI 1944 o_32, kx_a yg_voteNumber cyI 1944 o_33, kx_a yg_allValue cyI 12 o_34, kx_a yg_allNumber cyI 12 o_35, kx_a yg_nodeL cyI 320 o_36, kx_a yg_nodeR cyI 320 o_37, kx_a yg_part cyI 320 u_part, kx_a yg_wasMany cyI 320 o_38, kx_a yg_wasLoss cyI 320 o_39, kx_a yg_wasValue cyI 1920 o_40, kx_a yg_wasNumber cyI 1920 o_41, kx_a yg_path cyI 12 u_path, kx_a yg_heavyValue cyI 160 u_heavyValue, kx_a yg_heavyTimes cyI 160 u_heavyTimes, kx_a yg_fewest cyI 161 u_fewest, kx_a yg_which cyI 160 u_which, kx_a yg_met cyI 160 u_met, (q_o, .inl (cyL, 1, .inr (.inl ol)))]) hP hD hP1 hD1 hk1 hFc [false, false, false, false, false, false, false, false, false, false, false, false, false, false, false, false, false, false, false, false, false, false, false, false, false, true, true, true, true, true, true, true, true, true, true, true, false, true, true, true, true, false, false, false, false, false, false, false] hCc rfl
  clear hP1 hD1 hK1 hk1 hz1 hFc hDc hPc hKc hCc
  generalize H1 = H at hP hS ⊢
  have w_26 : (((0 ≤ y_2.toInt ∧ y_2.toInt < y_4.toInt ∧ y_4.toInt ≤ len.toInt) ∧ o_42 = mj_turn f y_2.toNatClampNeg y_4.toNatClampNeg) ∨ ((y_2.toInt < 0 ∨ y_4.toInt ≤ y_2.toInt ∨ len.toInt < y_4.toInt) ∧ o_42 = f ∧ r_26 = -1)) ∧ shorts o_42 ∧ six4 o_29 := w_26
  refine lv_pop hx hb dL_law_438 rfl ?_
  refine lv_goto (tgt := 2288) hx hb dL_law_439 (by decide) ?_
  obtain ⟨x_43, ex_43⟩ : ∃ y : Int32, y = ix + 8 := ⟨_, rfl⟩
  have i_43 : x_43.toInt = ix.toInt + 8 := ki_add ex_43 rfl rfl (om_578 hix hj0) (om_579 hix hjI hLI)
  refine lv_iinc (v := x_43) (lv' := [(4, .int x_43), (3, .ref q_o), (2, .ref yh0), (1, .ref xm_), (0, .ref b)]) hx hb dL_law_2288 hl (k := 0) rfl (by rw [ex_43]; rfl) (by decide) rfl (fun ls hl => ?_)
  refine lv_goto (tgt := 23) hx hb dL_law_2291 (by decide) ?_
  have hEq : o_42 = o_21 := by
    rcases w_5.1 with ⟨a1, a2⟩ | ⟨a1, a2, a3⟩ <;> rcases w_26.1 with ⟨b1, b2⟩ | ⟨b1, b2, b3⟩
    · rw [a2, b2]
    · exfalso; omega
    · exfalso; omega
    · rw [a2, b2]
  rw [hEq] at hP hD
  obtain ⟨hP, hD⟩ := kx_re (w2 := [kx_4 xm_ xq_row xq_t xt_ xh0 xk0 xw_ xz_ slots o_6, kx_2 xq_t xq_row xq_joined xq_from xq_to xq_size xq_lossOf xq_lessBy xq_value xq_number o_7 o_8, kx_0 xq_row xq_cell len, kx_a xq_cell cyI 160 o_21, kx_a xq_from cyI 319 o_9, kx_a xq_to cyI 319 o_10, kx_a xq_size cyI 319 o_11, kx_a xq_lossOf cyI 319 o_12, kx_a xq_lessBy cyI 319 o_13, kx_a xq_value cyI 1914 o_14, kx_a xq_number cyI 1914 o_15, kx_3 xq_joined xj_v xj_n o_16 o_17 o_18, kx_a xj_v cyI 12 o_19, kx_a xj_n cyI 12 o_20, kx_3 xh0 xa_v xa_n vs lo le, kx_a xa_v cyI 12 fv, kx_a xa_n cyI 12 fn, kx_3 xk0 xkv xkn sb lb eb, kx_a xkv cyI 12 gb, kx_a xkn cyI 12 nb, kx_1 xt_ xt_k xt_o tk mo, kx_a xt_k cyI 160 fk, kx_a xt_o cyI 160 fq, kx_a xw_ cyI 160 fw, kx_a xz_ cyI 161 fz, kx_5 yh0 yg_row len slots 0 yg_many yg_loss yg_less yg_voteValue yg_voteNumber yg_allValue yg_allNumber o_28 yg_nodeL yg_nodeR o_27 yg_part u_partMany yg_wasMany yg_wasLoss yg_wasValue yg_wasNumber yg_path u_pathMany yg_heavyValue yg_heavyTimes u_heavyMany yg_fewest yg_which yg_met u_mostMet, kx_a yg_row cyI 160 o_21, kx_a yg_many cyI 324 o_29, kx_a yg_loss cyI 324 o_30, kx_a yg_less cyI 324 o_31, kx_a yg_voteValue cyI 1944 o_32, kx_a yg_voteNumber cyI 1944 o_33, kx_a yg_allValue cyI 12 o_34, kx_a yg_allNumber cyI 12 o_35, kx_a yg_nodeL cyI 320 o_36, kx_a yg_nodeR cyI 320 o_37, kx_a yg_part cyI 320 u_part, kx_a yg_wasMany cyI 320 o_38, kx_a yg_wasLoss cyI 320 o_39, kx_a yg_wasValue cyI 1920 o_40, kx_a yg_wasNumber cyI 1920 o_41, kx_a yg_path cyI 12 u_path, kx_a yg_heavyValue cyI 160 u_heavyValue, kx_a yg_heavyTimes cyI 160 u_heavyTimes, kx_a yg_fewest cyI 161 u_fewest, kx_a yg_which cyI 160 u_which, kx_a yg_met cyI 160 u_met, (q_o, .inl (cyL, 1, .inr (.inl ol)))]) hP hD rfl
  refine W.widen (k := 60 + 2 * (j + 1)) (n := 20000 + 12 * (j + 1)) (lw_wdC (k := 0) (Nat.le_of_ble_eq_true rfl)) (lw_wdS (k := 0) (Nat.le_of_ble_eq_true rfl)) ?_
  have k_44 : (0 : Int32).toInt = 0 := rfl
  exact ih len slots o_6 o_7 o_8 o_16 o_17 o_18 vs lo le sb lb eb tk mo 0 o_28 o_27 u_partMany u_pathMany u_heavyMany u_mostMet o_21 o_9 o_10 o_11 o_12 o_13 o_14 o_15 o_19 o_20 fv fn gb nb fk fq fw fz o_29 o_30 o_31 o_32 o_33 o_34 o_35 o_36 o_37 u_part o_38 o_39 o_40 o_41 u_path u_heavyValue u_heavyTimes u_fewest u_which u_met ol x_43 (om_ix i_43 hix) I0 I1 I2 I3 w_5.2.1 w_5.2.2.2 w_5.2.2.1 w_26.2.2 I8 _ _ ls hP hD hS (lv_sub hl [0, 1, 2, 3, 4] rfl)

set_option maxHeartbeats 4000000 in
set_option maxRecDepth 100000 in
theorem lc_6 {p : Program} {l : Launch} {e : Env} {s : State} {m : MethodId} {below : List Frame} {meth : Method} {c : Code} {dC : Nat → ClassId} {dI : Nat → Nat → Nat} {b : Nat} {xs : Nat → Int32} (hl0 : l.stackTraces = false) {L j : Nat} (hL : L ≤ 4096) (hj : 8 * j + 8 ≤ L) (C0 : lw_At p s m meth c b L xs) (hth : ki_ThA (fun q : Nat => s.heap.size ≤ q) s) {cyI cyL : ClassId} {xm_ xq_t xq_row xq_cell xq_from xq_to xq_size xq_lossOf xq_lessBy xq_value xq_number xq_joined xj_v xj_n xh0 xa_v xa_n xk0 xkv xkn xt_ xt_k xt_o xw_ xz_ yh0 yg_row yg_many yg_loss yg_less yg_voteValue yg_voteNumber yg_allValue yg_allNumber yg_nodeL yg_nodeR yg_part yg_wasMany yg_wasLoss yg_wasValue yg_wasNumber yg_path yg_heavyValue yg_heavyTimes yg_fewest yg_which yg_met q_o : Nat} (hK : va_K (dC, dI) vwCl [(cyI, .int), (cyL, .long)] s) (ih : lw_G p l e s m below meth c b dC dI cyI cyL xm_ xq_t xq_row xq_cell xq_from xq_to xq_size xq_lossOf xq_lessBy xq_value xq_number xq_joined xj_v xj_n xh0 xa_v xa_n xk0 xkv xkn xt_ xt_k xt_o xw_ xz_ yh0 yg_row yg_many yg_loss yg_less yg_voteValue yg_voteNumber yg_allValue yg_allNumber yg_nodeL yg_nodeR yg_part yg_wasMany yg_wasLoss yg_wasValue yg_wasNumber yg_path yg_heavyValue yg_heavyTimes yg_fewest yg_which yg_met q_o (j + 1)) {len slots old nodes here js jl je vs lo le sb lb eb tk mo u_thrown u_allMany u_nodes u_partMany u_pathMany u_heavyMany u_mostMet ix : Int32} {f ff ft fs fo fe uv un jv jn fv fn gb nb fk fq fw fz u_many u_loss u_less u_voteValue u_voteNumber u_allValue u_allNumber u_nodeL u_nodeR u_part u_wasMany u_wasLoss u_wasValue u_wasNumber u_path u_heavyValue u_heavyTimes u_fewest u_which u_met : Nat → Int32} {ol : Nat → Int64} (hix : ix.toInt = 8 * (j : Int)) (I0 : 0 ≤ len.toInt) (I1 : len.toInt ≤ 160) (I2 : 1 ≤ slots.toInt) (I3 : slots.toInt ≤ 6) (I4 : shorts f) (I5 : sixes fs) (I6 : laidX old slots here f ff ft fs fo fe uv un nodes len) (I7 : six4 u_many) (I8 : parts320 u_part) {H : Heap} {locs : List Loc} (hP : va_P (dC, dI) vwCl [kx_4 xm_ xq_row xq_t xt_ xh0 xk0 xw_ xz_ slots old, kx_2 xq_t xq_row xq_joined xq_from xq_to xq_size xq_lossOf xq_lessBy xq_value xq_number nodes here, kx_0 xq_row xq_cell len, kx_a xq_cell cyI 160 f, kx_a xq_from cyI 319 ff, kx_a xq_to cyI 319 ft, kx_a xq_size cyI 319 fs, kx_a xq_lossOf cyI 319 fo, kx_a xq_lessBy cyI 319 fe, kx_a xq_value cyI 1914 uv, kx_a xq_number cyI 1914 un, kx_3 xq_joined xj_v xj_n js jl je, kx_a xj_v cyI 12 jv, kx_a xj_n cyI 12 jn, kx_3 xh0 xa_v xa_n vs lo le, kx_a xa_v cyI 12 fv, kx_a xa_n cyI 12 fn, kx_3 xk0 xkv xkn sb lb eb, kx_a xkv cyI 12 gb, kx_a xkn cyI 12 nb, kx_1 xt_ xt_k xt_o tk mo, kx_a xt_k cyI 160 fk, kx_a xt_o cyI 160 fq, kx_a xw_ cyI 160 fw, kx_a xz_ cyI 161 fz, kx_5 yh0 yg_row len slots u_thrown yg_many yg_loss yg_less yg_voteValue yg_voteNumber yg_allValue yg_allNumber u_allMany yg_nodeL yg_nodeR u_nodes yg_part u_partMany yg_wasMany yg_wasLoss yg_wasValue yg_wasNumber yg_path u_pathMany yg_heavyValue yg_heavyTimes u_heavyMany yg_fewest yg_which yg_met u_mostMet, kx_a yg_row cyI 160 f, kx_a yg_many cyI 324 u_many, kx_a yg_loss cyI 324 u_loss, kx_a yg_less cyI 324 u_less, kx_a yg_voteValue cyI 1944 u_voteValue, kx_a yg_voteNumber cyI 1944 u_voteNumber, kx_a yg_allValue cyI 12 u_allValue, kx_a yg_allNumber cyI 12 u_allNumber, kx_a yg_nodeL cyI 320 u_nodeL, kx_a yg_nodeR cyI 320 u_nodeR, kx_a yg_part cyI 320 u_part, kx_a yg_wasMany cyI 320 u_wasMany, kx_a yg_wasLoss cyI 320 u_wasLoss, kx_a yg_wasValue cyI 1920 u_wasValue, kx_a yg_wasNumber cyI 1920 u_wasNumber, kx_a yg_path cyI 12 u_path, kx_a yg_heavyValue cyI 160 u_heavyValue, kx_a yg_heavyTimes cyI 160 u_heavyTimes, kx_a yg_fewest cyI 161 u_fewest, kx_a yg_which cyI 160 u_which, kx_a yg_met cyI 160 u_met, (q_o, .inl (cyL, 1, .inr (.inl ol)))] H) (hD : va_D (fun q : Nat => s.heap.size ≤ q) [kx_4 xm_ xq_row xq_t xt_ xh0 xk0 xw_ xz_ slots old, kx_2 xq_t xq_row xq_joined xq_from xq_to xq_size xq_lossOf xq_lessBy xq_value xq_number nodes here, kx_0 xq_row xq_cell len, kx_a xq_cell cyI 160 f, kx_a xq_from cyI 319 ff, kx_a xq_to cyI 319 ft, kx_a xq_size cyI 319 fs, kx_a xq_lossOf cyI 319 fo, kx_a xq_lessBy cyI 319 fe, kx_a xq_value cyI 1914 uv, kx_a xq_number cyI 1914 un, kx_3 xq_joined xj_v xj_n js jl je, kx_a xj_v cyI 12 jv, kx_a xj_n cyI 12 jn, kx_3 xh0 xa_v xa_n vs lo le, kx_a xa_v cyI 12 fv, kx_a xa_n cyI 12 fn, kx_3 xk0 xkv xkn sb lb eb, kx_a xkv cyI 12 gb, kx_a xkn cyI 12 nb, kx_1 xt_ xt_k xt_o tk mo, kx_a xt_k cyI 160 fk, kx_a xt_o cyI 160 fq, kx_a xw_ cyI 160 fw, kx_a xz_ cyI 161 fz, kx_5 yh0 yg_row len slots u_thrown yg_many yg_loss yg_less yg_voteValue yg_voteNumber yg_allValue yg_allNumber u_allMany yg_nodeL yg_nodeR u_nodes yg_part u_partMany yg_wasMany yg_wasLoss yg_wasValue yg_wasNumber yg_path u_pathMany yg_heavyValue yg_heavyTimes u_heavyMany yg_fewest yg_which yg_met u_mostMet, kx_a yg_row cyI 160 f, kx_a yg_many cyI 324 u_many, kx_a yg_loss cyI 324 u_loss, kx_a yg_less cyI 324 u_less, kx_a yg_voteValue cyI 1944 u_voteValue, kx_a yg_voteNumber cyI 1944 u_voteNumber, kx_a yg_allValue cyI 12 u_allValue, kx_a yg_allNumber cyI 12 u_allNumber, kx_a yg_nodeL cyI 320 u_nodeL, kx_a yg_nodeR cyI 320 u_nodeR, kx_a yg_part cyI 320 u_part, kx_a yg_wasMany cyI 320 u_wasMany, kx_a yg_wasLoss cyI 320 u_wasLoss, kx_a yg_wasValue cyI 1920 u_wasValue, kx_a yg_wasNumber cyI 1920 u_wasNumber, kx_a yg_path cyI 12 u_path, kx_a yg_heavyValue cyI 160 u_heavyValue, kx_a yg_heavyTimes cyI 160 u_heavyTimes, kx_a yg_fewest cyI 161 u_fewest, kx_a yg_which cyI 160 u_which, kx_a yg_met cyI 160 u_met, (q_o, .inl (cyL, 1, .inr (.inl ol)))]) (hS : va_S (fun q : Nat => s.heap.size ≤ q) s.heap H locs) {ls : Array Slot} (hl : lv_has ls 7 [(4, .int ix), (3, .ref q_o), (2, .ref yh0), (1, .ref xm_), (0, .ref b)]) : W p l e room_1 s m #[Value.ref b] below meth c H locs (60 + 2 * j) (20000 + 12 * j) (lw_Z below #[Value.ref b] s) (F0 m 442 ls []) := by
  obtain ⟨hx, hb, hr, hml, hown, hts0, hX, hbl, hlocks, hgv⟩ := id C0
  have hts := hts0
  have hA : ∀ q : Nat, s.heap.size ≤ q → (fun q : Nat => s.heap.size ≤ q) q := fun _ h => h
  have hbA : ¬ (fun q : Nat => s.heap.size ≤ q) b := Nat.not_le.mpr hbl
  have hown : s.vm.findClass RL = some m.cls := hown
  have hb : c.code = cL_law := hb
  have hj0 : 0 ≤ (j : Int) := Int.natCast_nonneg j
  have hjI : 8 * (j : Int) + 8 ≤ (L : Int) := lw_jI hj
  have hLI : (L : Int) ≤ 4096 := lw_LI hL
  refine lv_aload_n hx hb dL_law_442 rfl (lv_at hl 3 rfl) ?_
  refine lv_aload_n hx hb dL_law_443 rfl (lv_at hl 4 rfl) ?_
  refine lv_iload hx hb dL_law_444 (lv_at hl 0 rfl) ?_
  refine lv_iconst (v := 1) hx hb dL_law_446 (by decide) ?_
  refine lv_iadd hx hb dL_law_447 ?_
  refine lv_topi (fun y_1 ey_1 => ?_)
  have i_1 : y_1.toInt = ix.toInt + 1 := ki_add ey_1 rfl rfl (om_568 hix hj0) (om_569 hix hjI hLI)
  refine va_sld hx hb hX hbl hbA hS (i := y_1) (ki_in (om_570 hix hj0 i_1) (om_571 hix hjI i_1)) dL_law_448 ?_
  refine lv_topi (fun y_2 ey_2 => ?_)
  refine lv_aload_n hx hb dL_law_449 rfl (lv_at hl 4 rfl) ?_
  refine lv_iload hx hb dL_law_450 (lv_at hl 0 rfl) ?_
  refine lv_iconst (v := 2) hx hb dL_law_452 (by decide) ?_
  refine lv_iadd hx hb dL_law_453 ?_
  refine lv_topi (fun y_3 ey_3 => ?_)
  have i_3 : y_3.toInt = ix.toInt + 2 := ki_add ey_3 rfl rfl (om_572 hix hj0) (om_573 hix hjI hLI)
  refine va_sld hx hb hX hbl hbA hS (i := y_3) (ki_in (om_574 hix hj0 i_3) (om_575 hix hjI i_3)) dL_law_454 ?_
  refine lv_topi (fun y_4 ey_4 => ?_)
  obtain ⟨hPc, hDc, hFc, hCc⟩ := kx_preM (wc := [kx_4 xm_ xq_row xq_t xt_ xh0 xk0 xw_ xz_ slots old, kx_2 xq_t xq_row xq_joined xq_from xq_to xq_size xq_lossOf xq_lessBy xq_value xq_number nodes here, kx_0 xq_row xq_cell len, kx_a xq_cell cyI 160 f, kx_a xq_from cyI 319 ff, kx_a xq_to cyI 319 ft, kx_a xq_size cyI 319 fs, kx_a xq_lossOf cyI 319 fo, kx_a xq_lessBy cyI 319 fe, kx_a xq_value cyI 1914 uv, kx_a xq_number cyI 1914 un, kx_3 xq_joined xj_v xj_n js jl je, kx_a xj_v cyI 12 jv, kx_a xj_n cyI 12 jn]) hP hD hS hA [true, true, true, true, true, true, true, true, true, true, true, true, true, true, false, false, false, false, false, false, false, false, false, false, false, false, false, false, false, false, false, false, false, false, false, false, false, false, false, false, false, false, false, false, false, false, false, false] rfl
  have hKc := hK.sub (tys' := [(cyI, .int)]) [0] rfl
  refine va_calli (va_runV (As := [.int y_2, .int y_4]) (rest := []) ⟨hx, hb, hml, hown, (lwC_X4_swap hts0)⟩ (kx_un (c_X4_swap_X l dC dI xm_ xq_row xq_t xt_ xh0 xk0 xw_ xz_ slots old xq_joined xq_from xq_to xq_size xq_lossOf xq_lessBy xq_value xq_number nodes here xq_cell cyI len f ff ft fs fo uv un fe xj_v xj_n js jl je jv jn y_2 y_4 H.size I0 I1 I5 I2 I3 I6 I4)) (cwV 2 (lwC_X4_swap hts0) lwG_X4_swap rfl rfl rfl (by decide +kernel) ⟨Nat.le_of_ble_eq_true rfl, Nat.le_of_ble_eq_true rfl⟩) ⟨fun a U g mk q => by obtain ⟨q0, q1, qP, qK, qD⟩ := q; exact ⟨q0, q1, qP, va_K.moved (u := U) (U := U.calling g mk a) (Vm.Alike.refl U.vm) qK, qD⟩, kx_rc4 hKc hPc (q0 := 0) rfl, fun U hU hW => ⟨rfl, by rw [hU], by rw [hU]; exact hPc, va_K.moved hW.alike hKc, hDc.weaken (fun _ _ _ _ => trivial)⟩⟩ rfl rfl hl.1 rfl (lv_room (Nat.le_of_ble_eq_true rfl)) dL_law_455 (lw_fitJ hj hL (Nat.le_of_ble_eq_true rfl) (Nat.le_of_ble_eq_true rfl))) hS (fun q _ h => hFc q h) hFc (fun r_5 u t H1 locs ht hvm w_5 hB hz1 hk1 hS => ?_)
  obtain ⟨o_6, o_7, o_8, o_9, o_10, o_11, o_12, o_13, o_14, o_15, o_16, o_17, o_18, o_19, o_20, o_21⟩ := u
  dsimp only at w_5 hB
  obtain ⟨hP1, hK1, hD1⟩ := hB
  rw [ht] at hP1
  have hK1 := va_K.moved hvm.symm hK1
  obtain ⟨hP, hD⟩ := kx_joinM (w2 := [kx_4 xm_ xq_row xq_t xt_ xh0 xk0 xw_ xz_ slots o_6, kx_2 xq_t xq_row xq_joined xq_from xq_to xq_size xq_lossOf xq_lessBy xq_value xq_number o_7 o_8, kx_0 xq_row xq_cell len, kx_a xq_cell cyI 160 o_21, kx_a xq_from cyI 319 o_9, kx_a xq_to cyI 319 o_10, kx_a xq_size cyI 319 o_11, kx_a xq_lossOf cyI 319 o_12, kx_a xq_lessBy cyI 319 o_13, kx_a xq_value cyI 1914 o_14, kx_a xq_number cyI 1914 o_15, kx_3 xq_joined xj_v xj_n o_16 o_17 o_18, kx_a xj_v cyI 12 o_19, kx_a xj_n cyI 12 o_20, kx_3 xh0 xa_v xa_n vs lo le, kx_a xa_v cyI 12 fv, kx_a xa_n cyI 12 fn, kx_3 xk0 xkv xkn sb lb eb, kx_a xkv cyI 12 gb, kx_a xkn cyI 12 nb, kx_1 xt_ xt_k xt_o tk mo, kx_a xt_k cyI 160 fk, kx_a xt_o cyI 160 fq, kx_a xw_ cyI 160 fw, kx_a xz_ cyI 161 fz, kx_5 yh0 yg_row len slots u_thrown yg_many yg_loss yg_less yg_voteValue yg_voteNumber yg_allValue yg_allNumber u_allMany yg_nodeL yg_nodeR u_nodes yg_part u_partMany yg_wasMany yg_wasLoss yg_wasValue yg_wasNumber yg_path u_pathMany yg_heavyValue yg_heavyTimes u_heavyMany yg_fewest yg_which yg_met u_mostMet, kx_a yg_row cyI 160 f, kx_a yg_many cyI 324 u_many, kx_a yg_loss cyI 324 u_loss, kx_a yg_less cyI 324 u_less, kx_a yg_voteValue cyI 1944 u_voteValue, kx_a yg_voteNumber cyI 1944 u_voteNumber, kx_a yg_allValue cyI 12 u_allValue, kx_a yg_allNumber cyI 12 u_allNumber, kx_a yg_nodeL cyI 320 u_nodeL, kx_a yg_nodeR cyI 320 u_nodeR, kx_a yg_part cyI 320 u_part, kx_a yg_wasMany cyI 320 u_wasMany, kx_a yg_wasLoss cyI 320 u_wasLoss, kx_a yg_wasValue cyI 1920 u_wasValue, kx_a yg_wasNumber cyI 1920 u_wasNumber, kx_a yg_path cyI 12 u_path, kx_a yg_heavyValue cyI 160 u_heavyValue, kx_a yg_heavyTimes cyI 160 u_heavyTimes, kx_a yg_fewest cyI 161 u_fewest, kx_a yg_which cyI 160 u_which, kx_a yg_met cyI 160 u_met, (q_o, .inl (cyL, 1, .inr (.inl ol)))]) hP hD hP1 hD1 hk1 hFc [true, true, true, true, true, true, true, true, true, true, true, true, true, true, false, false, false, false, false, false, false, false, false, false, false, false, false, false, false, false, false, false, false, false, false, false, false, false, false, false, false, false, false, false, false, false, false, false] hCc rfl
  clear hP1 hD1 hK1 hk1 hz1 hFc hDc hPc hKc hCc
  generalize H1 = H at hP hS ⊢
  have w_5 : (((0 ≤ y_2.toInt ∧ y_2.toInt < len.toInt ∧ 0 ≤ y_4.toInt ∧ y_4.toInt < len.toInt) ∧ o_21 = mj_ex f y_2.toNatClampNeg y_4.toNatClampNeg) ∨ ((y_2.toInt < 0 ∨ len.toInt ≤ y_2.toInt ∨ y_4.toInt < 0 ∨ len.toInt ≤ y_4.toInt) ∧ o_21 = f ∧ r_5 = -1)) ∧ shorts o_21 ∧ laidX o_6 slots o_8 o_21 o_9 o_10 o_11 o_12 o_13 o_14 o_15 o_7 len ∧ sixes o_11 := w_5
  refine lv_pop hx hb dL_law_458 rfl ?_
  refine lv_aload_n hx hb dL_law_459 rfl (lv_at hl 2 rfl) ?_
  refine lv_aload_n hx hb dL_law_460 rfl (lv_at hl 4 rfl) ?_
  refine lv_iload hx hb dL_law_461 (lv_at hl 0 rfl) ?_
  refine lv_iconst (v := 1) hx hb dL_law_463 (by decide) ?_
  refine lv_iadd hx hb dL_law_464 ?_
  refine lv_topi (fun y_22 ey_22 => ?_)
  have i_22 : y_22.toInt = ix.toInt + 1 := ki_add ey_22 rfl rfl (om_568 hix hj0) (om_569 hix hjI hLI)
  refine va_sld hx hb hX hbl hbA hS (i := y_22) (ki_in (om_570 hix hj0 i_22) (om_571 hix hjI i_22)) dL_law_465 ?_
  refine lv_topi (fun y_23 ey_23 => ?_)
  have qy_23 : y_2 = y_23 := by rw [ey_2, ey_23, ki_nateq (show y_1.toInt = y_22.toInt from (om_576 i_1 i_22))]
  subst qy_23
  refine lv_aload_n hx hb dL_law_466 rfl (lv_at hl 4 rfl) ?_
  refine lv_iload hx hb dL_law_467 (lv_at hl 0 rfl) ?_
  refine lv_iconst (v := 2) hx hb dL_law_469 (by decide) ?_
  refine lv_iadd hx hb dL_law_470 ?_
  refine lv_topi (fun y_24 ey_24 => ?_)
  have i_24 : y_24.toInt = ix.toInt + 2 := ki_add ey_24 rfl rfl (om_572 hix hj0) (om_573 hix hjI hLI)
  refine va_sld hx hb hX hbl hbA hS (i := y_24) (ki_in (om_574 hix hj0 i_24) (om_575 hix hjI i_24)) dL_law_471 ?_
  refine lv_topi (fun y_25 ey_25 => ?_)
  have qy_25 : y_4 = y_25 := by rw [ey_4, ey_25, ki_nateq (show y_3.toInt = y_24.toInt from (om_577 i_3 i_24))]
  subst qy_25
  obtain ⟨hPc, hDc, hFc, hCc⟩ := kx_preM (wc := [kx_5 yh0 yg_row len slots u_thrown yg_many yg_loss yg_less yg_voteValue yg_voteNumber yg_allValue yg_allNumber u_allMany yg_nodeL yg_nodeR u_nodes yg_part u_partMany yg_wasMany yg_wasLoss yg_wasValue yg_wasNumber yg_path u_pathMany yg_heavyValue yg_heavyTimes u_heavyMany yg_fewest yg_which yg_met u_mostMet, kx_a yg_row cyI 160 f, kx_a yg_many cyI 324 u_many, kx_a yg_loss cyI 324 u_loss, kx_a yg_less cyI 324 u_less, kx_a yg_voteValue cyI 1944 u_voteValue, kx_a yg_voteNumber cyI 1944 u_voteNumber, kx_a yg_allValue cyI 12 u_allValue, kx_a yg_allNumber cyI 12 u_allNumber, kx_a yg_nodeL cyI 320 u_nodeL, kx_a yg_nodeR cyI 320 u_nodeR, kx_a yg_wasMany cyI 320 u_wasMany, kx_a yg_wasLoss cyI 320 u_wasLoss, kx_a yg_wasValue cyI 1920 u_wasValue, kx_a yg_wasNumber cyI 1920 u_wasNumber]) hP hD hS hA [false, false, false, false, false, false, false, false, false, false, false, false, false, false, false, false, false, false, false, false, false, false, false, false, false, true, true, true, true, true, true, true, true, true, true, true, false, true, true, true, true, false, false, false, false, false, false, false] rfl
  have hKc := hK.sub (tys' := [(cyI, .int)]) [0] rfl
  refine va_calli (va_runV (As := [.int y_2, .int y_4]) (rest := []) ⟨hx, hb, hml, hown, (lwC_X5_swap hts0)⟩ (kx_un (c_X5_swap l dC dI yh0 yg_row yg_many yg_loss yg_less yg_voteValue yg_voteNumber yg_allValue yg_allNumber yg_nodeL yg_nodeR yg_part yg_wasMany yg_wasLoss yg_wasValue yg_wasNumber yg_path yg_heavyValue yg_heavyTimes yg_fewest yg_which yg_met len slots u_thrown u_allMany u_nodes u_partMany u_pathMany u_heavyMany u_mostMet cyI u_many u_loss u_less u_voteValue u_voteNumber f u_allValue u_allNumber u_nodeL u_nodeR u_wasMany u_wasLoss u_wasValue u_wasNumber y_2 y_4 H.size I0 I1 I2 I3 I7 I4)) (cwV 2 (lwC_X5_swap hts0) lwG_X5_swap rfl rfl rfl (by decide +kernel) ⟨Nat.le_of_ble_eq_true rfl, Nat.le_of_ble_eq_true rfl⟩) ⟨fun a U g mk q => by obtain ⟨q0, q1, qP, qK, qD⟩ := q; exact ⟨q0, q1, qP, va_K.moved (u := U) (U := U.calling g mk a) (Vm.Alike.refl U.vm) qK, qD⟩, kx_rc5 hKc hPc (q0 := 0) rfl, fun U hU hW => ⟨rfl, by rw [hU], by rw [hU]; exact hPc, va_K.moved hW.alike hKc, hDc.weaken (fun _ _ _ _ => trivial)⟩⟩ rfl rfl hl.1 rfl (lv_room (Nat.le_of_ble_eq_true rfl)) dL_law_472 (lw_fitJ hj hL (Nat.le_of_ble_eq_true rfl) (Nat.le_of_ble_eq_true rfl))) hS (fun q _ h => hFc q h) hFc (fun r_26 u t H1 locs ht hvm w_26 hB hz1 hk1 hS => ?_)
  obtain ⟨o_27, o_28, o_29, o_30, o_31, o_32, o_33, o_34, o_35, o_36, o_37, o_38, o_39, o_40, o_41, o_42⟩ := u
  dsimp only at w_26 hB
  obtain ⟨hP1, hK1, hD1⟩ := hB
  rw [ht] at hP1
  have hK1 := va_K.moved hvm.symm hK1
  obtain ⟨hP, hD⟩ := kx_joinM (w2 := [kx_4 xm_ xq_row xq_t xt_ xh0 xk0 xw_ xz_ slots o_6, kx_2 xq_t xq_row xq_joined xq_from xq_to xq_size xq_lossOf xq_lessBy xq_value xq_number o_7 o_8, kx_0 xq_row xq_cell len, kx_a xq_cell cyI 160 o_21, kx_a xq_from cyI 319 o_9, kx_a xq_to cyI 319 o_10, kx_a xq_size cyI 319 o_11, kx_a xq_lossOf cyI 319 o_12, kx_a xq_lessBy cyI 319 o_13, kx_a xq_value cyI 1914 o_14, kx_a xq_number cyI 1914 o_15, kx_3 xq_joined xj_v xj_n o_16 o_17 o_18, kx_a xj_v cyI 12 o_19, kx_a xj_n cyI 12 o_20, kx_3 xh0 xa_v xa_n vs lo le, kx_a xa_v cyI 12 fv, kx_a xa_n cyI 12 fn, kx_3 xk0 xkv xkn sb lb eb, kx_a xkv cyI 12 gb, kx_a xkn cyI 12 nb, kx_1 xt_ xt_k xt_o tk mo, kx_a xt_k cyI 160 fk, kx_a xt_o cyI 160 fq, kx_a xw_ cyI 160 fw, kx_a xz_ cyI 161 fz, kx_5 yh0 yg_row len slots 0 yg_many yg_loss yg_less yg_voteValue yg_voteNumber yg_allValue yg_allNumber o_28 yg_nodeL yg_nodeR o_27 yg_part u_partMany yg_wasMany yg_wasLoss yg_wasValue yg_wasNumber yg_path u_pathMany yg_heavyValue yg_heavyTimes u_heavyMany yg_fewest yg_which yg_met u_mostMet, kx_a yg_row cyI 160 o_42, kx_a yg_many cyI 324 o_29, kx_a yg_loss cyI 324 o_30, kx_a yg_less cyI 324 o_31, kx_a yg_voteValue cyI 1944 o_32, kx_a yg_voteNumber cyI 1944 o_33, kx_a yg_allValue cyI 12 o_34, kx_a yg_allNumber cyI 12 o_35, kx_a yg_nodeL cyI 320 o_36, kx_a yg_nodeR cyI 320 o_37, kx_a yg_part cyI 320 u_part, kx_a yg_wasMany cyI 320 o_38, kx_a yg_wasLoss cyI 320 o_39, kx_a yg_wasValue cyI 1920 o_40, kx_a yg_wasNumber cyI 1920 o_41, kx_a yg_path cyI 12 u_path, kx_a yg_heavyValue cyI 160 u_heavyValue, kx_a yg_heavyTimes cyI 160 u_heavyTimes, kx_a yg_fewest cyI 161 u_fewest, kx_a yg_which cyI 160 u_which, kx_a yg_met cyI 160 u_met, (q_o, .inl (cyL, 1, .inr (.inl ol)))]) hP hD hP1 hD1 hk1 hFc [false, false, false, false, false, false, false, false, false, false, false, false, false, false, false, false, false, false, false, false, false, false, false, false, false, true, true, true, true, true, true, true, true, true, true, true, false, true, true, true, true, false, false, false, false, false, false, false] hCc rfl
  clear hP1 hD1 hK1 hk1 hz1 hFc hDc hPc hKc hCc
  generalize H1 = H at hP hS ⊢
  have w_26 : (((0 ≤ y_2.toInt ∧ y_2.toInt < len.toInt ∧ 0 ≤ y_4.toInt ∧ y_4.toInt < len.toInt) ∧ o_42 = mj_ex f y_2.toNatClampNeg y_4.toNatClampNeg) ∨ ((y_2.toInt < 0 ∨ len.toInt ≤ y_2.toInt ∨ y_4.toInt < 0 ∨ len.toInt ≤ y_4.toInt) ∧ o_42 = f ∧ r_26 = -1)) ∧ shorts o_42 ∧ six4 o_29 := w_26
  refine lv_pop hx hb dL_law_475 rfl ?_
  refine lv_goto (tgt := 2288) hx hb dL_law_476 (by decide) ?_
  obtain ⟨x_43, ex_43⟩ : ∃ y : Int32, y = ix + 8 := ⟨_, rfl⟩
  have i_43 : x_43.toInt = ix.toInt + 8 := ki_add ex_43 rfl rfl (om_578 hix hj0) (om_579 hix hjI hLI)
  refine lv_iinc (v := x_43) (lv' := [(4, .int x_43), (3, .ref q_o), (2, .ref yh0), (1, .ref xm_), (0, .ref b)]) hx hb dL_law_2288 hl (k := 0) rfl (by rw [ex_43]; rfl) (by decide) rfl (fun ls hl => ?_)
  refine lv_goto (tgt := 23) hx hb dL_law_2291 (by decide) ?_
  have hEq : o_42 = o_21 := by
    rcases w_5.1 with ⟨a1, a2⟩ | ⟨a1, a2, a3⟩ <;> rcases w_26.1 with ⟨b1, b2⟩ | ⟨b1, b2, b3⟩
    · rw [a2, b2]
    · exfalso; omega
    · exfalso; omega
    · rw [a2, b2]
  rw [hEq] at hP hD
  obtain ⟨hP, hD⟩ := kx_re (w2 := [kx_4 xm_ xq_row xq_t xt_ xh0 xk0 xw_ xz_ slots o_6, kx_2 xq_t xq_row xq_joined xq_from xq_to xq_size xq_lossOf xq_lessBy xq_value xq_number o_7 o_8, kx_0 xq_row xq_cell len, kx_a xq_cell cyI 160 o_21, kx_a xq_from cyI 319 o_9, kx_a xq_to cyI 319 o_10, kx_a xq_size cyI 319 o_11, kx_a xq_lossOf cyI 319 o_12, kx_a xq_lessBy cyI 319 o_13, kx_a xq_value cyI 1914 o_14, kx_a xq_number cyI 1914 o_15, kx_3 xq_joined xj_v xj_n o_16 o_17 o_18, kx_a xj_v cyI 12 o_19, kx_a xj_n cyI 12 o_20, kx_3 xh0 xa_v xa_n vs lo le, kx_a xa_v cyI 12 fv, kx_a xa_n cyI 12 fn, kx_3 xk0 xkv xkn sb lb eb, kx_a xkv cyI 12 gb, kx_a xkn cyI 12 nb, kx_1 xt_ xt_k xt_o tk mo, kx_a xt_k cyI 160 fk, kx_a xt_o cyI 160 fq, kx_a xw_ cyI 160 fw, kx_a xz_ cyI 161 fz, kx_5 yh0 yg_row len slots 0 yg_many yg_loss yg_less yg_voteValue yg_voteNumber yg_allValue yg_allNumber o_28 yg_nodeL yg_nodeR o_27 yg_part u_partMany yg_wasMany yg_wasLoss yg_wasValue yg_wasNumber yg_path u_pathMany yg_heavyValue yg_heavyTimes u_heavyMany yg_fewest yg_which yg_met u_mostMet, kx_a yg_row cyI 160 o_21, kx_a yg_many cyI 324 o_29, kx_a yg_loss cyI 324 o_30, kx_a yg_less cyI 324 o_31, kx_a yg_voteValue cyI 1944 o_32, kx_a yg_voteNumber cyI 1944 o_33, kx_a yg_allValue cyI 12 o_34, kx_a yg_allNumber cyI 12 o_35, kx_a yg_nodeL cyI 320 o_36, kx_a yg_nodeR cyI 320 o_37, kx_a yg_part cyI 320 u_part, kx_a yg_wasMany cyI 320 o_38, kx_a yg_wasLoss cyI 320 o_39, kx_a yg_wasValue cyI 1920 o_40, kx_a yg_wasNumber cyI 1920 o_41, kx_a yg_path cyI 12 u_path, kx_a yg_heavyValue cyI 160 u_heavyValue, kx_a yg_heavyTimes cyI 160 u_heavyTimes, kx_a yg_fewest cyI 161 u_fewest, kx_a yg_which cyI 160 u_which, kx_a yg_met cyI 160 u_met, (q_o, .inl (cyL, 1, .inr (.inl ol)))]) hP hD rfl
  refine W.widen (k := 60 + 2 * (j + 1)) (n := 20000 + 12 * (j + 1)) (lw_wdC (k := 0) (Nat.le_of_ble_eq_true rfl)) (lw_wdS (k := 0) (Nat.le_of_ble_eq_true rfl)) ?_
  have k_44 : (0 : Int32).toInt = 0 := rfl
  exact ih len slots o_6 o_7 o_8 o_16 o_17 o_18 vs lo le sb lb eb tk mo 0 o_28 o_27 u_partMany u_pathMany u_heavyMany u_mostMet o_21 o_9 o_10 o_11 o_12 o_13 o_14 o_15 o_19 o_20 fv fn gb nb fk fq fw fz o_29 o_30 o_31 o_32 o_33 o_34 o_35 o_36 o_37 u_part o_38 o_39 o_40 o_41 u_path u_heavyValue u_heavyTimes u_fewest u_which u_met ol x_43 (om_ix i_43 hix) I0 I1 I2 I3 w_5.2.1 w_5.2.2.2 w_5.2.2.1 w_26.2.2 I8 _ _ ls hP hD hS (lv_sub hl [0, 1, 2, 3, 4] rfl)

set_option maxHeartbeats 4000000 in
set_option maxRecDepth 100000 in
theorem lc_7 {p : Program} {l : Launch} {e : Env} {s : State} {m : MethodId} {below : List Frame} {meth : Method} {c : Code} {dC : Nat → ClassId} {dI : Nat → Nat → Nat} {b : Nat} {xs : Nat → Int32} (hl0 : l.stackTraces = false) {L j : Nat} (hL : L ≤ 4096) (hj : 8 * j + 8 ≤ L) (C0 : lw_At p s m meth c b L xs) (hth : ki_ThA (fun q : Nat => s.heap.size ≤ q) s) {cyI cyL : ClassId} {xm_ xq_t xq_row xq_cell xq_from xq_to xq_size xq_lossOf xq_lessBy xq_value xq_number xq_joined xj_v xj_n xh0 xa_v xa_n xk0 xkv xkn xt_ xt_k xt_o xw_ xz_ yh0 yg_row yg_many yg_loss yg_less yg_voteValue yg_voteNumber yg_allValue yg_allNumber yg_nodeL yg_nodeR yg_part yg_wasMany yg_wasLoss yg_wasValue yg_wasNumber yg_path yg_heavyValue yg_heavyTimes yg_fewest yg_which yg_met q_o : Nat} (hK : va_K (dC, dI) vwCl [(cyI, .int), (cyL, .long)] s) (ih : lw_G p l e s m below meth c b dC dI cyI cyL xm_ xq_t xq_row xq_cell xq_from xq_to xq_size xq_lossOf xq_lessBy xq_value xq_number xq_joined xj_v xj_n xh0 xa_v xa_n xk0 xkv xkn xt_ xt_k xt_o xw_ xz_ yh0 yg_row yg_many yg_loss yg_less yg_voteValue yg_voteNumber yg_allValue yg_allNumber yg_nodeL yg_nodeR yg_part yg_wasMany yg_wasLoss yg_wasValue yg_wasNumber yg_path yg_heavyValue yg_heavyTimes yg_fewest yg_which yg_met q_o (j + 1)) {len slots old nodes here js jl je vs lo le sb lb eb tk mo u_thrown u_allMany u_nodes u_partMany u_pathMany u_heavyMany u_mostMet ix : Int32} {f ff ft fs fo fe uv un jv jn fv fn gb nb fk fq fw fz u_many u_loss u_less u_voteValue u_voteNumber u_allValue u_allNumber u_nodeL u_nodeR u_part u_wasMany u_wasLoss u_wasValue u_wasNumber u_path u_heavyValue u_heavyTimes u_fewest u_which u_met : Nat → Int32} {ol : Nat → Int64} (hix : ix.toInt = 8 * (j : Int)) (I0 : 0 ≤ len.toInt) (I1 : len.toInt ≤ 160) (I2 : 1 ≤ slots.toInt) (I3 : slots.toInt ≤ 6) (I4 : shorts f) (I5 : sixes fs) (I6 : laidX old slots here f ff ft fs fo fe uv un nodes len) (I7 : six4 u_many) (I8 : parts320 u_part) {H : Heap} {locs : List Loc} (hP : va_P (dC, dI) vwCl [kx_4 xm_ xq_row xq_t xt_ xh0 xk0 xw_ xz_ slots old, kx_2 xq_t xq_row xq_joined xq_from xq_to xq_size xq_lossOf xq_lessBy xq_value xq_number nodes here, kx_0 xq_row xq_cell len, kx_a xq_cell cyI 160 f, kx_a xq_from cyI 319 ff, kx_a xq_to cyI 319 ft, kx_a xq_size cyI 319 fs, kx_a xq_lossOf cyI 319 fo, kx_a xq_lessBy cyI 319 fe, kx_a xq_value cyI 1914 uv, kx_a xq_number cyI 1914 un, kx_3 xq_joined xj_v xj_n js jl je, kx_a xj_v cyI 12 jv, kx_a xj_n cyI 12 jn, kx_3 xh0 xa_v xa_n vs lo le, kx_a xa_v cyI 12 fv, kx_a xa_n cyI 12 fn, kx_3 xk0 xkv xkn sb lb eb, kx_a xkv cyI 12 gb, kx_a xkn cyI 12 nb, kx_1 xt_ xt_k xt_o tk mo, kx_a xt_k cyI 160 fk, kx_a xt_o cyI 160 fq, kx_a xw_ cyI 160 fw, kx_a xz_ cyI 161 fz, kx_5 yh0 yg_row len slots u_thrown yg_many yg_loss yg_less yg_voteValue yg_voteNumber yg_allValue yg_allNumber u_allMany yg_nodeL yg_nodeR u_nodes yg_part u_partMany yg_wasMany yg_wasLoss yg_wasValue yg_wasNumber yg_path u_pathMany yg_heavyValue yg_heavyTimes u_heavyMany yg_fewest yg_which yg_met u_mostMet, kx_a yg_row cyI 160 f, kx_a yg_many cyI 324 u_many, kx_a yg_loss cyI 324 u_loss, kx_a yg_less cyI 324 u_less, kx_a yg_voteValue cyI 1944 u_voteValue, kx_a yg_voteNumber cyI 1944 u_voteNumber, kx_a yg_allValue cyI 12 u_allValue, kx_a yg_allNumber cyI 12 u_allNumber, kx_a yg_nodeL cyI 320 u_nodeL, kx_a yg_nodeR cyI 320 u_nodeR, kx_a yg_part cyI 320 u_part, kx_a yg_wasMany cyI 320 u_wasMany, kx_a yg_wasLoss cyI 320 u_wasLoss, kx_a yg_wasValue cyI 1920 u_wasValue, kx_a yg_wasNumber cyI 1920 u_wasNumber, kx_a yg_path cyI 12 u_path, kx_a yg_heavyValue cyI 160 u_heavyValue, kx_a yg_heavyTimes cyI 160 u_heavyTimes, kx_a yg_fewest cyI 161 u_fewest, kx_a yg_which cyI 160 u_which, kx_a yg_met cyI 160 u_met, (q_o, .inl (cyL, 1, .inr (.inl ol)))] H) (hD : va_D (fun q : Nat => s.heap.size ≤ q) [kx_4 xm_ xq_row xq_t xt_ xh0 xk0 xw_ xz_ slots old, kx_2 xq_t xq_row xq_joined xq_from xq_to xq_size xq_lossOf xq_lessBy xq_value xq_number nodes here, kx_0 xq_row xq_cell len, kx_a xq_cell cyI 160 f, kx_a xq_from cyI 319 ff, kx_a xq_to cyI 319 ft, kx_a xq_size cyI 319 fs, kx_a xq_lossOf cyI 319 fo, kx_a xq_lessBy cyI 319 fe, kx_a xq_value cyI 1914 uv, kx_a xq_number cyI 1914 un, kx_3 xq_joined xj_v xj_n js jl je, kx_a xj_v cyI 12 jv, kx_a xj_n cyI 12 jn, kx_3 xh0 xa_v xa_n vs lo le, kx_a xa_v cyI 12 fv, kx_a xa_n cyI 12 fn, kx_3 xk0 xkv xkn sb lb eb, kx_a xkv cyI 12 gb, kx_a xkn cyI 12 nb, kx_1 xt_ xt_k xt_o tk mo, kx_a xt_k cyI 160 fk, kx_a xt_o cyI 160 fq, kx_a xw_ cyI 160 fw, kx_a xz_ cyI 161 fz, kx_5 yh0 yg_row len slots u_thrown yg_many yg_loss yg_less yg_voteValue yg_voteNumber yg_allValue yg_allNumber u_allMany yg_nodeL yg_nodeR u_nodes yg_part u_partMany yg_wasMany yg_wasLoss yg_wasValue yg_wasNumber yg_path u_pathMany yg_heavyValue yg_heavyTimes u_heavyMany yg_fewest yg_which yg_met u_mostMet, kx_a yg_row cyI 160 f, kx_a yg_many cyI 324 u_many, kx_a yg_loss cyI 324 u_loss, kx_a yg_less cyI 324 u_less, kx_a yg_voteValue cyI 1944 u_voteValue, kx_a yg_voteNumber cyI 1944 u_voteNumber, kx_a yg_allValue cyI 12 u_allValue, kx_a yg_allNumber cyI 12 u_allNumber, kx_a yg_nodeL cyI 320 u_nodeL, kx_a yg_nodeR cyI 320 u_nodeR, kx_a yg_part cyI 320 u_part, kx_a yg_wasMany cyI 320 u_wasMany, kx_a yg_wasLoss cyI 320 u_wasLoss, kx_a yg_wasValue cyI 1920 u_wasValue, kx_a yg_wasNumber cyI 1920 u_wasNumber, kx_a yg_path cyI 12 u_path, kx_a yg_heavyValue cyI 160 u_heavyValue, kx_a yg_heavyTimes cyI 160 u_heavyTimes, kx_a yg_fewest cyI 161 u_fewest, kx_a yg_which cyI 160 u_which, kx_a yg_met cyI 160 u_met, (q_o, .inl (cyL, 1, .inr (.inl ol)))]) (hS : va_S (fun q : Nat => s.heap.size ≤ q) s.heap H locs) {ls : Array Slot} (hl : lv_has ls 7 [(4, .int ix), (3, .ref q_o), (2, .ref yh0), (1, .ref xm_), (0, .ref b)]) : W p l e room_1 s m #[Value.ref b] below meth c H locs (60 + 2 * j) (20000 + 12 * j) (lw_Z below #[Value.ref b] s) (F0 m 479 ls []) := by
  obtain ⟨hx, hb, hr, hml, hown, hts0, hX, hbl, hlocks, hgv⟩ := id C0
  have hts := hts0
  have hA : ∀ q : Nat, s.heap.size ≤ q → (fun q : Nat => s.heap.size ≤ q) q := fun _ h => h
  have hbA : ¬ (fun q : Nat => s.heap.size ≤ q) b := Nat.not_le.mpr hbl
  have hown : s.vm.findClass RL = some m.cls := hown
  have hb : c.code = cL_law := hb
  have hj0 : 0 ≤ (j : Int) := Int.natCast_nonneg j
  have hjI : 8 * (j : Int) + 8 ≤ (L : Int) := lw_jI hj
  have hLI : (L : Int) ≤ 4096 := lw_LI hL
  refine lv_aload_n hx hb dL_law_479 rfl (lv_at hl 3 rfl) ?_
  refine lv_aload_n hx hb dL_law_480 rfl (lv_at hl 4 rfl) ?_
  refine lv_iload hx hb dL_law_481 (lv_at hl 0 rfl) ?_
  refine lv_iconst (v := 1) hx hb dL_law_483 (by decide) ?_
  refine lv_iadd hx hb dL_law_484 ?_
  refine lv_topi (fun y_1 ey_1 => ?_)
  have i_1 : y_1.toInt = ix.toInt + 1 := ki_add ey_1 rfl rfl (om_568 hix hj0) (om_569 hix hjI hLI)
  refine va_sld hx hb hX hbl hbA hS (i := y_1) (ki_in (om_570 hix hj0 i_1) (om_571 hix hjI i_1)) dL_law_485 ?_
  refine lv_topi (fun y_2 ey_2 => ?_)
  refine lv_aload_n hx hb dL_law_486 rfl (lv_at hl 4 rfl) ?_
  refine lv_iload hx hb dL_law_487 (lv_at hl 0 rfl) ?_
  refine lv_iconst (v := 2) hx hb dL_law_489 (by decide) ?_
  refine lv_iadd hx hb dL_law_490 ?_
  refine lv_topi (fun y_3 ey_3 => ?_)
  have i_3 : y_3.toInt = ix.toInt + 2 := ki_add ey_3 rfl rfl (om_572 hix hj0) (om_573 hix hjI hLI)
  refine va_sld hx hb hX hbl hbA hS (i := y_3) (ki_in (om_574 hix hj0 i_3) (om_575 hix hjI i_3)) dL_law_491 ?_
  refine lv_topi (fun y_4 ey_4 => ?_)
  obtain ⟨hPc, hDc, hFc, hCc⟩ := kx_preM (wc := [kx_4 xm_ xq_row xq_t xt_ xh0 xk0 xw_ xz_ slots old, kx_0 xq_row xq_cell len, kx_a xq_cell cyI 160 f]) hP hD hS hA [true, false, true, true, false, false, false, false, false, false, false, false, false, false, false, false, false, false, false, false, false, false, false, false, false, false, false, false, false, false, false, false, false, false, false, false, false, false, false, false, false, false, false, false, false, false, false, false] rfl
  have hKc := hK.sub (tys' := [(cyI, .int)]) [0] rfl
  refine va_calli (va_runV (As := [.int y_2, .int y_4]) (rest := []) ⟨hx, hb, hml, hown, (lwC_X4_insert hts0)⟩ (kx_un (c_X4_insert l dC dI xm_ xq_row xq_t xt_ xh0 xk0 xw_ xz_ slots old xq_cell cyI len f y_2 y_4 H.size I0 I1 I4)) (cwV 2 (lwC_X4_insert hts0) lwG_X4_insert rfl rfl rfl (by decide +kernel) ⟨Nat.le_of_ble_eq_true rfl, Nat.le_of_ble_eq_true rfl⟩) ⟨fun a U g mk q => by obtain ⟨q0, q1, qP, qK, qD⟩ := q; exact ⟨q0, q1, qP, va_K.moved (u := U) (U := U.calling g mk a) (Vm.Alike.refl U.vm) qK, qD⟩, kx_rc4 hKc hPc (q0 := 0) rfl, fun U hU hW => ⟨rfl, by rw [hU], by rw [hU]; exact hPc, va_K.moved hW.alike hKc, hDc.weaken (fun _ _ _ _ => trivial)⟩⟩ rfl rfl hl.1 rfl (lv_room (Nat.le_of_ble_eq_true rfl)) dL_law_492 (lw_fitJ hj hL (Nat.le_of_ble_eq_true rfl) (Nat.le_of_ble_eq_true rfl))) hS (fun q _ h => hFc q h) hFc (fun r_5 u t H1 locs ht hvm w_5 hB hz1 hk1 hS => ?_)
  obtain ⟨o_6, o_7, o_8⟩ := u
  dsimp only at w_5 hB
  obtain ⟨hP1, hK1, hD1⟩ := hB
  rw [ht] at hP1
  have hK1 := va_K.moved hvm.symm hK1
  obtain ⟨hP, hD⟩ := kx_joinM (w2 := [kx_4 xm_ xq_row xq_t xt_ xh0 xk0 xw_ xz_ slots o_6, kx_2 xq_t xq_row xq_joined xq_from xq_to xq_size xq_lossOf xq_lessBy xq_value xq_number nodes here, kx_0 xq_row xq_cell o_7, kx_a xq_cell cyI 160 o_8, kx_a xq_from cyI 319 ff, kx_a xq_to cyI 319 ft, kx_a xq_size cyI 319 fs, kx_a xq_lossOf cyI 319 fo, kx_a xq_lessBy cyI 319 fe, kx_a xq_value cyI 1914 uv, kx_a xq_number cyI 1914 un, kx_3 xq_joined xj_v xj_n js jl je, kx_a xj_v cyI 12 jv, kx_a xj_n cyI 12 jn, kx_3 xh0 xa_v xa_n vs lo le, kx_a xa_v cyI 12 fv, kx_a xa_n cyI 12 fn, kx_3 xk0 xkv xkn sb lb eb, kx_a xkv cyI 12 gb, kx_a xkn cyI 12 nb, kx_1 xt_ xt_k xt_o tk mo, kx_a xt_k cyI 160 fk, kx_a xt_o cyI 160 fq, kx_a xw_ cyI 160 fw, kx_a xz_ cyI 161 fz, kx_5 yh0 yg_row len slots u_thrown yg_many yg_loss yg_less yg_voteValue yg_voteNumber yg_allValue yg_allNumber u_allMany yg_nodeL yg_nodeR u_nodes yg_part u_partMany yg_wasMany yg_wasLoss yg_wasValue yg_wasNumber yg_path u_pathMany yg_heavyValue yg_heavyTimes u_heavyMany yg_fewest yg_which yg_met u_mostMet, kx_a yg_row cyI 160 f, kx_a yg_many cyI 324 u_many, kx_a yg_loss cyI 324 u_loss, kx_a yg_less cyI 324 u_less, kx_a yg_voteValue cyI 1944 u_voteValue, kx_a yg_voteNumber cyI 1944 u_voteNumber, kx_a yg_allValue cyI 12 u_allValue, kx_a yg_allNumber cyI 12 u_allNumber, kx_a yg_nodeL cyI 320 u_nodeL, kx_a yg_nodeR cyI 320 u_nodeR, kx_a yg_part cyI 320 u_part, kx_a yg_wasMany cyI 320 u_wasMany, kx_a yg_wasLoss cyI 320 u_wasLoss, kx_a yg_wasValue cyI 1920 u_wasValue, kx_a yg_wasNumber cyI 1920 u_wasNumber, kx_a yg_path cyI 12 u_path, kx_a yg_heavyValue cyI 160 u_heavyValue, kx_a yg_heavyTimes cyI 160 u_heavyTimes, kx_a yg_fewest cyI 161 u_fewest, kx_a yg_which cyI 160 u_which, kx_a yg_met cyI 160 u_met, (q_o, .inl (cyL, 1, .inr (.inl ol)))]) hP hD hP1 hD1 hk1 hFc [true, false, true, true, false, false, false, false, false, false, false, false, false, false, false, false, false, false, false, false, false, false, false, false, false, false, false, false, false, false, false, false, false, false, false, false, false, false, false, false, false, false, false, false, false, false, false, false] hCc rfl
  clear hP1 hD1 hK1 hk1 hz1 hFc hDc hPc hKc hCc
  generalize H1 = H at hP hS ⊢
  have w_5 : ((0 ≤ y_2.toInt ∧ y_2.toInt ≤ len.toInt ∧ -32768 ≤ y_4.toInt ∧ y_4.toInt ≤ 32767 ∧ len.toInt < 160 ∧ r_5 = o_7 ∧ o_7.toInt = len.toInt + 1 ∧ o_6 = 1 ∧ o_8 = upd (shR f len.toNatClampNeg y_2.toNatClampNeg) y_2.toNatClampNeg y_4) ∨ ((y_2.toInt < 0 ∨ len.toInt < y_2.toInt ∨ y_4.toInt < -32768 ∨ 32767 < y_4.toInt ∨ 160 ≤ len.toInt) ∧ r_5 = -1 ∧ o_7 = len ∧ o_6 = old ∧ o_8 = f)) ∧ shorts o_8 := w_5
  refine lv_pop hx hb dL_law_495 rfl ?_
  refine lv_aload_n hx hb dL_law_496 rfl (lv_at hl 2 rfl) ?_
  refine lv_aload_n hx hb dL_law_497 rfl (lv_at hl 4 rfl) ?_
  refine lv_iload hx hb dL_law_498 (lv_at hl 0 rfl) ?_
  refine lv_iconst (v := 1) hx hb dL_law_500 (by decide) ?_
  refine lv_iadd hx hb dL_law_501 ?_
  refine lv_topi (fun y_9 ey_9 => ?_)
  have i_9 : y_9.toInt = ix.toInt + 1 := ki_add ey_9 rfl rfl (om_568 hix hj0) (om_569 hix hjI hLI)
  refine va_sld hx hb hX hbl hbA hS (i := y_9) (ki_in (om_570 hix hj0 i_9) (om_571 hix hjI i_9)) dL_law_502 ?_
  refine lv_topi (fun y_10 ey_10 => ?_)
  have qy_10 : y_2 = y_10 := by rw [ey_2, ey_10, ki_nateq (show y_1.toInt = y_9.toInt from (om_576 i_1 i_9))]
  subst qy_10
  refine lv_aload_n hx hb dL_law_503 rfl (lv_at hl 4 rfl) ?_
  refine lv_iload hx hb dL_law_504 (lv_at hl 0 rfl) ?_
  refine lv_iconst (v := 2) hx hb dL_law_506 (by decide) ?_
  refine lv_iadd hx hb dL_law_507 ?_
  refine lv_topi (fun y_11 ey_11 => ?_)
  have i_11 : y_11.toInt = ix.toInt + 2 := ki_add ey_11 rfl rfl (om_572 hix hj0) (om_573 hix hjI hLI)
  refine va_sld hx hb hX hbl hbA hS (i := y_11) (ki_in (om_574 hix hj0 i_11) (om_575 hix hjI i_11)) dL_law_508 ?_
  refine lv_topi (fun y_12 ey_12 => ?_)
  have qy_12 : y_4 = y_12 := by rw [ey_4, ey_12, ki_nateq (show y_3.toInt = y_11.toInt from (om_577 i_3 i_11))]
  subst qy_12
  obtain ⟨hPc, hDc, hFc, hCc⟩ := kx_preM (wc := [kx_5 yh0 yg_row len slots u_thrown yg_many yg_loss yg_less yg_voteValue yg_voteNumber yg_allValue yg_allNumber u_allMany yg_nodeL yg_nodeR u_nodes yg_part u_partMany yg_wasMany yg_wasLoss yg_wasValue yg_wasNumber yg_path u_pathMany yg_heavyValue yg_heavyTimes u_heavyMany yg_fewest yg_which yg_met u_mostMet, kx_a yg_row cyI 160 f]) hP hD hS hA [false, false, false, false, false, false, false, false, false, false, false, false, false, false, false, false, false, false, false, false, false, false, false, false, false, true, true, false, false, false, false, false, false, false, false, false, false, false, false, false, false, false, false, false, false, false, false, false] rfl
  have hKc := hK.sub (tys' := [(cyI, .int)]) [0] rfl
  refine va_calli (va_runV (As := [.int y_2, .int y_4]) (rest := []) ⟨hx, hb, hml, hown, (lwC_X5_insert hts0)⟩ (kx_un (c_X5_insert l dC dI yh0 yg_row yg_many yg_loss yg_less yg_voteValue yg_voteNumber yg_allValue yg_allNumber yg_nodeL yg_nodeR yg_part yg_wasMany yg_wasLoss yg_wasValue yg_wasNumber yg_path yg_heavyValue yg_heavyTimes yg_fewest yg_which yg_met len slots u_thrown u_allMany u_nodes u_partMany u_pathMany u_heavyMany u_mostMet cyI f y_2 y_4 H.size I0 I1 I4)) (cwV 2 (lwC_X5_insert hts0) lwG_X5_insert rfl rfl rfl (by decide +kernel) ⟨Nat.le_of_ble_eq_true rfl, Nat.le_of_ble_eq_true rfl⟩) ⟨fun a U g mk q => by obtain ⟨q0, q1, qP, qK, qD⟩ := q; exact ⟨q0, q1, qP, va_K.moved (u := U) (U := U.calling g mk a) (Vm.Alike.refl U.vm) qK, qD⟩, kx_rc5 hKc hPc (q0 := 0) rfl, fun U hU hW => ⟨rfl, by rw [hU], by rw [hU]; exact hPc, va_K.moved hW.alike hKc, hDc.weaken (fun _ _ _ _ => trivial)⟩⟩ rfl rfl hl.1 rfl (lv_room (Nat.le_of_ble_eq_true rfl)) dL_law_509 (lw_fitJ hj hL (Nat.le_of_ble_eq_true rfl) (Nat.le_of_ble_eq_true rfl))) hS (fun q _ h => hFc q h) hFc (fun r_13 u t H1 locs ht hvm w_13 hB hz1 hk1 hS => ?_)
  obtain ⟨o_14, o_15⟩ := u
  dsimp only at w_13 hB
  obtain ⟨hP1, hK1, hD1⟩ := hB
  rw [ht] at hP1
  have hK1 := va_K.moved hvm.symm hK1
  obtain ⟨hP, hD⟩ := kx_joinM (w2 := [kx_4 xm_ xq_row xq_t xt_ xh0 xk0 xw_ xz_ slots o_6, kx_2 xq_t xq_row xq_joined xq_from xq_to xq_size xq_lossOf xq_lessBy xq_value xq_number nodes here, kx_0 xq_row xq_cell o_7, kx_a xq_cell cyI 160 o_8, kx_a xq_from cyI 319 ff, kx_a xq_to cyI 319 ft, kx_a xq_size cyI 319 fs, kx_a xq_lossOf cyI 319 fo, kx_a xq_lessBy cyI 319 fe, kx_a xq_value cyI 1914 uv, kx_a xq_number cyI 1914 un, kx_3 xq_joined xj_v xj_n js jl je, kx_a xj_v cyI 12 jv, kx_a xj_n cyI 12 jn, kx_3 xh0 xa_v xa_n vs lo le, kx_a xa_v cyI 12 fv, kx_a xa_n cyI 12 fn, kx_3 xk0 xkv xkn sb lb eb, kx_a xkv cyI 12 gb, kx_a xkn cyI 12 nb, kx_1 xt_ xt_k xt_o tk mo, kx_a xt_k cyI 160 fk, kx_a xt_o cyI 160 fq, kx_a xw_ cyI 160 fw, kx_a xz_ cyI 161 fz, kx_5 yh0 yg_row o_14 slots 0 yg_many yg_loss yg_less yg_voteValue yg_voteNumber yg_allValue yg_allNumber u_allMany yg_nodeL yg_nodeR u_nodes yg_part u_partMany yg_wasMany yg_wasLoss yg_wasValue yg_wasNumber yg_path u_pathMany yg_heavyValue yg_heavyTimes u_heavyMany yg_fewest yg_which yg_met u_mostMet, kx_a yg_row cyI 160 o_15, kx_a yg_many cyI 324 u_many, kx_a yg_loss cyI 324 u_loss, kx_a yg_less cyI 324 u_less, kx_a yg_voteValue cyI 1944 u_voteValue, kx_a yg_voteNumber cyI 1944 u_voteNumber, kx_a yg_allValue cyI 12 u_allValue, kx_a yg_allNumber cyI 12 u_allNumber, kx_a yg_nodeL cyI 320 u_nodeL, kx_a yg_nodeR cyI 320 u_nodeR, kx_a yg_part cyI 320 u_part, kx_a yg_wasMany cyI 320 u_wasMany, kx_a yg_wasLoss cyI 320 u_wasLoss, kx_a yg_wasValue cyI 1920 u_wasValue, kx_a yg_wasNumber cyI 1920 u_wasNumber, kx_a yg_path cyI 12 u_path, kx_a yg_heavyValue cyI 160 u_heavyValue, kx_a yg_heavyTimes cyI 160 u_heavyTimes, kx_a yg_fewest cyI 161 u_fewest, kx_a yg_which cyI 160 u_which, kx_a yg_met cyI 160 u_met, (q_o, .inl (cyL, 1, .inr (.inl ol)))]) hP hD hP1 hD1 hk1 hFc [false, false, false, false, false, false, false, false, false, false, false, false, false, false, false, false, false, false, false, false, false, false, false, false, false, true, true, false, false, false, false, false, false, false, false, false, false, false, false, false, false, false, false, false, false, false, false, false] hCc rfl
  clear hP1 hD1 hK1 hk1 hz1 hFc hDc hPc hKc hCc
  generalize H1 = H at hP hS ⊢
  have w_13 : ((0 ≤ y_2.toInt ∧ y_2.toInt ≤ len.toInt ∧ -32768 ≤ y_4.toInt ∧ y_4.toInt ≤ 32767 ∧ len.toInt < 160 ∧ r_13 = o_14 ∧ o_14.toInt = len.toInt + 1 ∧ o_15 = upd (shR f len.toNatClampNeg y_2.toNatClampNeg) y_2.toNatClampNeg y_4) ∨ ((y_2.toInt < 0 ∨ len.toInt < y_2.toInt ∨ y_4.toInt < -32768 ∨ 32767 < y_4.toInt ∨ 160 ≤ len.toInt) ∧ r_13 = -1 ∧ o_14 = len ∧ o_15 = f)) ∧ shorts o_15 := w_13
  refine lv_pop hx hb dL_law_512 rfl ?_
  refine lv_goto (tgt := 2288) hx hb dL_law_513 (by decide) ?_
  obtain ⟨x_16, ex_16⟩ : ∃ y : Int32, y = ix + 8 := ⟨_, rfl⟩
  have i_16 : x_16.toInt = ix.toInt + 8 := ki_add ex_16 rfl rfl (om_578 hix hj0) (om_579 hix hjI hLI)
  refine lv_iinc (v := x_16) (lv' := [(4, .int x_16), (3, .ref q_o), (2, .ref yh0), (1, .ref xm_), (0, .ref b)]) hx hb dL_law_2288 hl (k := 0) rfl (by rw [ex_16]; rfl) (by decide) rfl (fun ls hl => ?_)
  refine lv_goto (tgt := 23) hx hb dL_law_2291 (by decide) ?_
  have hEq : o_14 = o_7 ∧ o_15 = o_8 ∧ (o_6 = 1 ∨ (o_6 = old ∧ o_7 = len)) := by
    rcases w_5.1 with ⟨a1, a2, a3, a4, a5, a6, a7, a8, a9⟩ | ⟨a1, a2, a3, a4, a5⟩ <;> rcases w_13.1 with ⟨b1, b2, b3, b4, b5, b6, b7, b8⟩ | ⟨b1, b2, b3, b4⟩
    · exact ⟨Int32.toInt_inj.mp (by omega), by rw [a9, b8], Or.inl a8⟩
    · exfalso; omega
    · exfalso; omega
    · exact ⟨by rw [a3, b3], by rw [a5, b4], Or.inr ⟨a4, a3⟩⟩
  have hLn : 0 ≤ o_7.toInt ∧ o_7.toInt ≤ 160 := by rcases w_5.1 with ⟨a1, a2, a3, a4, a5, a6, a7, a8, a9⟩ | ⟨a1, a2, a3, a4, a5⟩; exact ⟨by omega, by omega⟩; exact ⟨by rw [a3]; omega, by rw [a3]; omega⟩
  have hO6 : o_6 = 1 ∨ (o_6 = old ∧ o_7 = len ∧ o_8 = f ∧ slots = slots) := by rcases w_5.1 with ⟨a1, a2, a3, a4, a5, a6, a7, a8, a9⟩ | ⟨a1, a2, a3, a4, a5⟩; exact Or.inl a8; exact Or.inr ⟨a4, a3, a5, rfl⟩
  rw [hEq.1] at hP hD
  rw [hEq.2.1] at hP hD
  obtain ⟨hP, hD⟩ := kx_re (w2 := [kx_4 xm_ xq_row xq_t xt_ xh0 xk0 xw_ xz_ slots o_6, kx_2 xq_t xq_row xq_joined xq_from xq_to xq_size xq_lossOf xq_lessBy xq_value xq_number nodes here, kx_0 xq_row xq_cell o_7, kx_a xq_cell cyI 160 o_8, kx_a xq_from cyI 319 ff, kx_a xq_to cyI 319 ft, kx_a xq_size cyI 319 fs, kx_a xq_lossOf cyI 319 fo, kx_a xq_lessBy cyI 319 fe, kx_a xq_value cyI 1914 uv, kx_a xq_number cyI 1914 un, kx_3 xq_joined xj_v xj_n js jl je, kx_a xj_v cyI 12 jv, kx_a xj_n cyI 12 jn, kx_3 xh0 xa_v xa_n vs lo le, kx_a xa_v cyI 12 fv, kx_a xa_n cyI 12 fn, kx_3 xk0 xkv xkn sb lb eb, kx_a xkv cyI 12 gb, kx_a xkn cyI 12 nb, kx_1 xt_ xt_k xt_o tk mo, kx_a xt_k cyI 160 fk, kx_a xt_o cyI 160 fq, kx_a xw_ cyI 160 fw, kx_a xz_ cyI 161 fz, kx_5 yh0 yg_row o_7 slots 0 yg_many yg_loss yg_less yg_voteValue yg_voteNumber yg_allValue yg_allNumber u_allMany yg_nodeL yg_nodeR u_nodes yg_part u_partMany yg_wasMany yg_wasLoss yg_wasValue yg_wasNumber yg_path u_pathMany yg_heavyValue yg_heavyTimes u_heavyMany yg_fewest yg_which yg_met u_mostMet, kx_a yg_row cyI 160 o_8, kx_a yg_many cyI 324 u_many, kx_a yg_loss cyI 324 u_loss, kx_a yg_less cyI 324 u_less, kx_a yg_voteValue cyI 1944 u_voteValue, kx_a yg_voteNumber cyI 1944 u_voteNumber, kx_a yg_allValue cyI 12 u_allValue, kx_a yg_allNumber cyI 12 u_allNumber, kx_a yg_nodeL cyI 320 u_nodeL, kx_a yg_nodeR cyI 320 u_nodeR, kx_a yg_part cyI 320 u_part, kx_a yg_wasMany cyI 320 u_wasMany, kx_a yg_wasLoss cyI 320 u_wasLoss, kx_a yg_wasValue cyI 1920 u_wasValue, kx_a yg_wasNumber cyI 1920 u_wasNumber, kx_a yg_path cyI 12 u_path, kx_a yg_heavyValue cyI 160 u_heavyValue, kx_a yg_heavyTimes cyI 160 u_heavyTimes, kx_a yg_fewest cyI 161 u_fewest, kx_a yg_which cyI 160 u_which, kx_a yg_met cyI 160 u_met, (q_o, .inl (cyL, 1, .inr (.inl ol)))]) hP hD rfl
  refine W.widen (k := 60 + 2 * (j + 1)) (n := 20000 + 12 * (j + 1)) (lw_wdC (k := 0) (Nat.le_of_ble_eq_true rfl)) (lw_wdS (k := 0) (Nat.le_of_ble_eq_true rfl)) ?_
  have k_17 : (0 : Int32).toInt = 0 := rfl
  exact ih o_7 slots o_6 nodes here js jl je vs lo le sb lb eb tk mo 0 u_allMany u_nodes u_partMany u_pathMany u_heavyMany u_mostMet o_8 ff ft fs fo fe uv un jv jn fv fn gb nb fk fq fw fz u_many u_loss u_less u_voteValue u_voteNumber u_allValue u_allNumber u_nodeL u_nodeR u_part u_wasMany u_wasLoss u_wasValue u_wasNumber u_path u_heavyValue u_heavyTimes u_fewest u_which u_met ol x_16 (om_ix i_16 hix) hLn.1 hLn.2 I2 I3 w_5.2 I5 (laidX_new I6 hO6) I7 I8 _ _ ls hP hD hS (lv_sub hl [0, 1, 2, 3, 4] rfl)

set_option maxHeartbeats 4000000 in
set_option maxRecDepth 100000 in
theorem lc_8 {p : Program} {l : Launch} {e : Env} {s : State} {m : MethodId} {below : List Frame} {meth : Method} {c : Code} {dC : Nat → ClassId} {dI : Nat → Nat → Nat} {b : Nat} {xs : Nat → Int32} (hl0 : l.stackTraces = false) {L j : Nat} (hL : L ≤ 4096) (hj : 8 * j + 8 ≤ L) (C0 : lw_At p s m meth c b L xs) (hth : ki_ThA (fun q : Nat => s.heap.size ≤ q) s) {cyI cyL : ClassId} {xm_ xq_t xq_row xq_cell xq_from xq_to xq_size xq_lossOf xq_lessBy xq_value xq_number xq_joined xj_v xj_n xh0 xa_v xa_n xk0 xkv xkn xt_ xt_k xt_o xw_ xz_ yh0 yg_row yg_many yg_loss yg_less yg_voteValue yg_voteNumber yg_allValue yg_allNumber yg_nodeL yg_nodeR yg_part yg_wasMany yg_wasLoss yg_wasValue yg_wasNumber yg_path yg_heavyValue yg_heavyTimes yg_fewest yg_which yg_met q_o : Nat} (hK : va_K (dC, dI) vwCl [(cyI, .int), (cyL, .long)] s) (ih : lw_G p l e s m below meth c b dC dI cyI cyL xm_ xq_t xq_row xq_cell xq_from xq_to xq_size xq_lossOf xq_lessBy xq_value xq_number xq_joined xj_v xj_n xh0 xa_v xa_n xk0 xkv xkn xt_ xt_k xt_o xw_ xz_ yh0 yg_row yg_many yg_loss yg_less yg_voteValue yg_voteNumber yg_allValue yg_allNumber yg_nodeL yg_nodeR yg_part yg_wasMany yg_wasLoss yg_wasValue yg_wasNumber yg_path yg_heavyValue yg_heavyTimes yg_fewest yg_which yg_met q_o (j + 1)) {len slots old nodes here js jl je vs lo le sb lb eb tk mo u_thrown u_allMany u_nodes u_partMany u_pathMany u_heavyMany u_mostMet ix : Int32} {f ff ft fs fo fe uv un jv jn fv fn gb nb fk fq fw fz u_many u_loss u_less u_voteValue u_voteNumber u_allValue u_allNumber u_nodeL u_nodeR u_part u_wasMany u_wasLoss u_wasValue u_wasNumber u_path u_heavyValue u_heavyTimes u_fewest u_which u_met : Nat → Int32} {ol : Nat → Int64} (hix : ix.toInt = 8 * (j : Int)) (I0 : 0 ≤ len.toInt) (I1 : len.toInt ≤ 160) (I2 : 1 ≤ slots.toInt) (I3 : slots.toInt ≤ 6) (I4 : shorts f) (I5 : sixes fs) (I6 : laidX old slots here f ff ft fs fo fe uv un nodes len) (I7 : six4 u_many) (I8 : parts320 u_part) {H : Heap} {locs : List Loc} (hP : va_P (dC, dI) vwCl [kx_4 xm_ xq_row xq_t xt_ xh0 xk0 xw_ xz_ slots old, kx_2 xq_t xq_row xq_joined xq_from xq_to xq_size xq_lossOf xq_lessBy xq_value xq_number nodes here, kx_0 xq_row xq_cell len, kx_a xq_cell cyI 160 f, kx_a xq_from cyI 319 ff, kx_a xq_to cyI 319 ft, kx_a xq_size cyI 319 fs, kx_a xq_lossOf cyI 319 fo, kx_a xq_lessBy cyI 319 fe, kx_a xq_value cyI 1914 uv, kx_a xq_number cyI 1914 un, kx_3 xq_joined xj_v xj_n js jl je, kx_a xj_v cyI 12 jv, kx_a xj_n cyI 12 jn, kx_3 xh0 xa_v xa_n vs lo le, kx_a xa_v cyI 12 fv, kx_a xa_n cyI 12 fn, kx_3 xk0 xkv xkn sb lb eb, kx_a xkv cyI 12 gb, kx_a xkn cyI 12 nb, kx_1 xt_ xt_k xt_o tk mo, kx_a xt_k cyI 160 fk, kx_a xt_o cyI 160 fq, kx_a xw_ cyI 160 fw, kx_a xz_ cyI 161 fz, kx_5 yh0 yg_row len slots u_thrown yg_many yg_loss yg_less yg_voteValue yg_voteNumber yg_allValue yg_allNumber u_allMany yg_nodeL yg_nodeR u_nodes yg_part u_partMany yg_wasMany yg_wasLoss yg_wasValue yg_wasNumber yg_path u_pathMany yg_heavyValue yg_heavyTimes u_heavyMany yg_fewest yg_which yg_met u_mostMet, kx_a yg_row cyI 160 f, kx_a yg_many cyI 324 u_many, kx_a yg_loss cyI 324 u_loss, kx_a yg_less cyI 324 u_less, kx_a yg_voteValue cyI 1944 u_voteValue, kx_a yg_voteNumber cyI 1944 u_voteNumber, kx_a yg_allValue cyI 12 u_allValue, kx_a yg_allNumber cyI 12 u_allNumber, kx_a yg_nodeL cyI 320 u_nodeL, kx_a yg_nodeR cyI 320 u_nodeR, kx_a yg_part cyI 320 u_part, kx_a yg_wasMany cyI 320 u_wasMany, kx_a yg_wasLoss cyI 320 u_wasLoss, kx_a yg_wasValue cyI 1920 u_wasValue, kx_a yg_wasNumber cyI 1920 u_wasNumber, kx_a yg_path cyI 12 u_path, kx_a yg_heavyValue cyI 160 u_heavyValue, kx_a yg_heavyTimes cyI 160 u_heavyTimes, kx_a yg_fewest cyI 161 u_fewest, kx_a yg_which cyI 160 u_which, kx_a yg_met cyI 160 u_met, (q_o, .inl (cyL, 1, .inr (.inl ol)))] H) (hD : va_D (fun q : Nat => s.heap.size ≤ q) [kx_4 xm_ xq_row xq_t xt_ xh0 xk0 xw_ xz_ slots old, kx_2 xq_t xq_row xq_joined xq_from xq_to xq_size xq_lossOf xq_lessBy xq_value xq_number nodes here, kx_0 xq_row xq_cell len, kx_a xq_cell cyI 160 f, kx_a xq_from cyI 319 ff, kx_a xq_to cyI 319 ft, kx_a xq_size cyI 319 fs, kx_a xq_lossOf cyI 319 fo, kx_a xq_lessBy cyI 319 fe, kx_a xq_value cyI 1914 uv, kx_a xq_number cyI 1914 un, kx_3 xq_joined xj_v xj_n js jl je, kx_a xj_v cyI 12 jv, kx_a xj_n cyI 12 jn, kx_3 xh0 xa_v xa_n vs lo le, kx_a xa_v cyI 12 fv, kx_a xa_n cyI 12 fn, kx_3 xk0 xkv xkn sb lb eb, kx_a xkv cyI 12 gb, kx_a xkn cyI 12 nb, kx_1 xt_ xt_k xt_o tk mo, kx_a xt_k cyI 160 fk, kx_a xt_o cyI 160 fq, kx_a xw_ cyI 160 fw, kx_a xz_ cyI 161 fz, kx_5 yh0 yg_row len slots u_thrown yg_many yg_loss yg_less yg_voteValue yg_voteNumber yg_allValue yg_allNumber u_allMany yg_nodeL yg_nodeR u_nodes yg_part u_partMany yg_wasMany yg_wasLoss yg_wasValue yg_wasNumber yg_path u_pathMany yg_heavyValue yg_heavyTimes u_heavyMany yg_fewest yg_which yg_met u_mostMet, kx_a yg_row cyI 160 f, kx_a yg_many cyI 324 u_many, kx_a yg_loss cyI 324 u_loss, kx_a yg_less cyI 324 u_less, kx_a yg_voteValue cyI 1944 u_voteValue, kx_a yg_voteNumber cyI 1944 u_voteNumber, kx_a yg_allValue cyI 12 u_allValue, kx_a yg_allNumber cyI 12 u_allNumber, kx_a yg_nodeL cyI 320 u_nodeL, kx_a yg_nodeR cyI 320 u_nodeR, kx_a yg_part cyI 320 u_part, kx_a yg_wasMany cyI 320 u_wasMany, kx_a yg_wasLoss cyI 320 u_wasLoss, kx_a yg_wasValue cyI 1920 u_wasValue, kx_a yg_wasNumber cyI 1920 u_wasNumber, kx_a yg_path cyI 12 u_path, kx_a yg_heavyValue cyI 160 u_heavyValue, kx_a yg_heavyTimes cyI 160 u_heavyTimes, kx_a yg_fewest cyI 161 u_fewest, kx_a yg_which cyI 160 u_which, kx_a yg_met cyI 160 u_met, (q_o, .inl (cyL, 1, .inr (.inl ol)))]) (hS : va_S (fun q : Nat => s.heap.size ≤ q) s.heap H locs) {ls : Array Slot} (hl : lv_has ls 7 [(4, .int ix), (3, .ref q_o), (2, .ref yh0), (1, .ref xm_), (0, .ref b)]) : W p l e room_1 s m #[Value.ref b] below meth c H locs (60 + 2 * j) (20000 + 12 * j) (lw_Z below #[Value.ref b] s) (F0 m 516 ls []) := by
  obtain ⟨hx, hb, hr, hml, hown, hts0, hX, hbl, hlocks, hgv⟩ := id C0
  have hts := hts0
  have hA : ∀ q : Nat, s.heap.size ≤ q → (fun q : Nat => s.heap.size ≤ q) q := fun _ h => h
  have hbA : ¬ (fun q : Nat => s.heap.size ≤ q) b := Nat.not_le.mpr hbl
  have hown : s.vm.findClass RL = some m.cls := hown
  have hb : c.code = cL_law := hb
  have hj0 : 0 ≤ (j : Int) := Int.natCast_nonneg j
  have hjI : 8 * (j : Int) + 8 ≤ (L : Int) := lw_jI hj
  have hLI : (L : Int) ≤ 4096 := lw_LI hL
  refine lv_aload_n hx hb dL_law_516 rfl (lv_at hl 3 rfl) ?_
  refine lv_aload_n hx hb dL_law_517 rfl (lv_at hl 4 rfl) ?_
  refine lv_iload hx hb dL_law_518 (lv_at hl 0 rfl) ?_
  refine lv_iconst (v := 1) hx hb dL_law_520 (by decide) ?_
  refine lv_iadd hx hb dL_law_521 ?_
  refine lv_topi (fun y_1 ey_1 => ?_)
  have i_1 : y_1.toInt = ix.toInt + 1 := ki_add ey_1 rfl rfl (om_568 hix hj0) (om_569 hix hjI hLI)
  refine va_sld hx hb hX hbl hbA hS (i := y_1) (ki_in (om_570 hix hj0 i_1) (om_571 hix hjI i_1)) dL_law_522 ?_
  refine lv_topi (fun y_2 ey_2 => ?_)
  obtain ⟨hPc, hDc, hFc, hCc⟩ := kx_preM (wc := [kx_4 xm_ xq_row xq_t xt_ xh0 xk0 xw_ xz_ slots old, kx_0 xq_row xq_cell len, kx_a xq_cell cyI 160 f]) hP hD hS hA [true, false, true, true, false, false, false, false, false, false, false, false, false, false, false, false, false, false, false, false, false, false, false, false, false, false, false, false, false, false, false, false, false, false, false, false, false, false, false, false, false, false, false, false, false, false, false, false] rfl
  have hKc := hK.sub (tys' := [(cyI, .int)]) [0] rfl
  refine va_calli (va_runV (As := [.int y_2]) (rest := []) ⟨hx, hb, hml, hown, (lwC_X4_remove hts0)⟩ (kx_un (c_X4_remove l dC dI xm_ xq_row xq_t xt_ xh0 xk0 xw_ xz_ slots old xq_cell cyI len f y_2 H.size I0 I1 I4)) (cwV 1 (lwC_X4_remove hts0) lwG_X4_remove rfl rfl rfl (by decide +kernel) ⟨Nat.le_of_ble_eq_true rfl, Nat.le_of_ble_eq_true rfl⟩) ⟨fun a U g mk q => by obtain ⟨q0, q1, qP, qK, qD⟩ := q; exact ⟨q0, q1, qP, va_K.moved (u := U) (U := U.calling g mk a) (Vm.Alike.refl U.vm) qK, qD⟩, kx_rc4 hKc hPc (q0 := 0) rfl, fun U hU hW => ⟨rfl, by rw [hU], by rw [hU]; exact hPc, va_K.moved hW.alike hKc, hDc.weaken (fun _ _ _ _ => trivial)⟩⟩ rfl rfl hl.1 rfl (lv_room (Nat.le_of_ble_eq_true rfl)) dL_law_523 (lw_fitJ hj hL (Nat.le_of_ble_eq_true rfl) (Nat.le_of_ble_eq_true rfl))) hS (fun q _ h => hFc q h) hFc (fun r_3 u t H1 locs ht hvm w_3 hB hz1 hk1 hS => ?_)
  obtain ⟨o_4, o_5, o_6⟩ := u
  dsimp only at w_3 hB
  obtain ⟨hP1, hK1, hD1⟩ := hB
  rw [ht] at hP1
  have hK1 := va_K.moved hvm.symm hK1
  obtain ⟨hP, hD⟩ := kx_joinM (w2 := [kx_4 xm_ xq_row xq_t xt_ xh0 xk0 xw_ xz_ slots o_4, kx_2 xq_t xq_row xq_joined xq_from xq_to xq_size xq_lossOf xq_lessBy xq_value xq_number nodes here, kx_0 xq_row xq_cell o_5, kx_a xq_cell cyI 160 o_6, kx_a xq_from cyI 319 ff, kx_a xq_to cyI 319 ft, kx_a xq_size cyI 319 fs, kx_a xq_lossOf cyI 319 fo, kx_a xq_lessBy cyI 319 fe, kx_a xq_value cyI 1914 uv, kx_a xq_number cyI 1914 un, kx_3 xq_joined xj_v xj_n js jl je, kx_a xj_v cyI 12 jv, kx_a xj_n cyI 12 jn, kx_3 xh0 xa_v xa_n vs lo le, kx_a xa_v cyI 12 fv, kx_a xa_n cyI 12 fn, kx_3 xk0 xkv xkn sb lb eb, kx_a xkv cyI 12 gb, kx_a xkn cyI 12 nb, kx_1 xt_ xt_k xt_o tk mo, kx_a xt_k cyI 160 fk, kx_a xt_o cyI 160 fq, kx_a xw_ cyI 160 fw, kx_a xz_ cyI 161 fz, kx_5 yh0 yg_row len slots u_thrown yg_many yg_loss yg_less yg_voteValue yg_voteNumber yg_allValue yg_allNumber u_allMany yg_nodeL yg_nodeR u_nodes yg_part u_partMany yg_wasMany yg_wasLoss yg_wasValue yg_wasNumber yg_path u_pathMany yg_heavyValue yg_heavyTimes u_heavyMany yg_fewest yg_which yg_met u_mostMet, kx_a yg_row cyI 160 f, kx_a yg_many cyI 324 u_many, kx_a yg_loss cyI 324 u_loss, kx_a yg_less cyI 324 u_less, kx_a yg_voteValue cyI 1944 u_voteValue, kx_a yg_voteNumber cyI 1944 u_voteNumber, kx_a yg_allValue cyI 12 u_allValue, kx_a yg_allNumber cyI 12 u_allNumber, kx_a yg_nodeL cyI 320 u_nodeL, kx_a yg_nodeR cyI 320 u_nodeR, kx_a yg_part cyI 320 u_part, kx_a yg_wasMany cyI 320 u_wasMany, kx_a yg_wasLoss cyI 320 u_wasLoss, kx_a yg_wasValue cyI 1920 u_wasValue, kx_a yg_wasNumber cyI 1920 u_wasNumber, kx_a yg_path cyI 12 u_path, kx_a yg_heavyValue cyI 160 u_heavyValue, kx_a yg_heavyTimes cyI 160 u_heavyTimes, kx_a yg_fewest cyI 161 u_fewest, kx_a yg_which cyI 160 u_which, kx_a yg_met cyI 160 u_met, (q_o, .inl (cyL, 1, .inr (.inl ol)))]) hP hD hP1 hD1 hk1 hFc [true, false, true, true, false, false, false, false, false, false, false, false, false, false, false, false, false, false, false, false, false, false, false, false, false, false, false, false, false, false, false, false, false, false, false, false, false, false, false, false, false, false, false, false, false, false, false, false] hCc rfl
  clear hP1 hD1 hK1 hk1 hz1 hFc hDc hPc hKc hCc
  generalize H1 = H at hP hS ⊢
  have w_3 : ((0 ≤ y_2.toInt ∧ y_2.toInt < len.toInt ∧ r_3 = f y_2.toNatClampNeg ∧ o_5.toInt = len.toInt - 1 ∧ o_4 = 1 ∧ o_6 = shL f y_2.toNatClampNeg o_5.toNatClampNeg) ∨ ((y_2.toInt < 0 ∨ len.toInt ≤ y_2.toInt) ∧ r_3 = -40000 ∧ o_5 = len ∧ o_4 = old ∧ o_6 = f)) ∧ shorts o_6 := w_3
  refine lv_pop hx hb dL_law_526 rfl ?_
  refine lv_aload_n hx hb dL_law_527 rfl (lv_at hl 2 rfl) ?_
  refine lv_aload_n hx hb dL_law_528 rfl (lv_at hl 4 rfl) ?_
  refine lv_iload hx hb dL_law_529 (lv_at hl 0 rfl) ?_
  refine lv_iconst (v := 1) hx hb dL_law_531 (by decide) ?_
  refine lv_iadd hx hb dL_law_532 ?_
  refine lv_topi (fun y_7 ey_7 => ?_)
  have i_7 : y_7.toInt = ix.toInt + 1 := ki_add ey_7 rfl rfl (om_568 hix hj0) (om_569 hix hjI hLI)
  refine va_sld hx hb hX hbl hbA hS (i := y_7) (ki_in (om_570 hix hj0 i_7) (om_571 hix hjI i_7)) dL_law_533 ?_
  refine lv_topi (fun y_8 ey_8 => ?_)
  have qy_8 : y_2 = y_8 := by rw [ey_2, ey_8, ki_nateq (show y_1.toInt = y_7.toInt from (om_576 i_1 i_7))]
  subst qy_8
  obtain ⟨hPc, hDc, hFc, hCc⟩ := kx_preM (wc := [kx_5 yh0 yg_row len slots u_thrown yg_many yg_loss yg_less yg_voteValue yg_voteNumber yg_allValue yg_allNumber u_allMany yg_nodeL yg_nodeR u_nodes yg_part u_partMany yg_wasMany yg_wasLoss yg_wasValue yg_wasNumber yg_path u_pathMany yg_heavyValue yg_heavyTimes u_heavyMany yg_fewest yg_which yg_met u_mostMet, kx_a yg_row cyI 160 f]) hP hD hS hA [false, false, false, false, false, false, false, false, false, false, false, false, false, false, false, false, false, false, false, false, false, false, false, false, false, true, true, false, false, false, false, false, false, false, false, false, false, false, false, false, false, false, false, false, false, false, false, false] rfl
  have hKc := hK.sub (tys' := [(cyI, .int)]) [0] rfl
  refine va_calli (va_runV (As := [.int y_2]) (rest := []) ⟨hx, hb, hml, hown, (lwC_X5_remove hts0)⟩ (kx_un (c_X5_remove l dC dI yh0 yg_row yg_many yg_loss yg_less yg_voteValue yg_voteNumber yg_allValue yg_allNumber yg_nodeL yg_nodeR yg_part yg_wasMany yg_wasLoss yg_wasValue yg_wasNumber yg_path yg_heavyValue yg_heavyTimes yg_fewest yg_which yg_met len slots u_thrown u_allMany u_nodes u_partMany u_pathMany u_heavyMany u_mostMet cyI f y_2 H.size I0 I1 I4)) (cwV 1 (lwC_X5_remove hts0) lwG_X5_remove rfl rfl rfl (by decide +kernel) ⟨Nat.le_of_ble_eq_true rfl, Nat.le_of_ble_eq_true rfl⟩) ⟨fun a U g mk q => by obtain ⟨q0, q1, qP, qK, qD⟩ := q; exact ⟨q0, q1, qP, va_K.moved (u := U) (U := U.calling g mk a) (Vm.Alike.refl U.vm) qK, qD⟩, kx_rc5 hKc hPc (q0 := 0) rfl, fun U hU hW => ⟨rfl, by rw [hU], by rw [hU]; exact hPc, va_K.moved hW.alike hKc, hDc.weaken (fun _ _ _ _ => trivial)⟩⟩ rfl rfl hl.1 rfl (lv_room (Nat.le_of_ble_eq_true rfl)) dL_law_534 (lw_fitJ hj hL (Nat.le_of_ble_eq_true rfl) (Nat.le_of_ble_eq_true rfl))) hS (fun q _ h => hFc q h) hFc (fun r_9 u t H1 locs ht hvm w_9 hB hz1 hk1 hS => ?_)
  obtain ⟨o_10, o_11⟩ := u
  dsimp only at w_9 hB
  obtain ⟨hP1, hK1, hD1⟩ := hB
  rw [ht] at hP1
  have hK1 := va_K.moved hvm.symm hK1
  obtain ⟨hP, hD⟩ := kx_joinM (w2 := [kx_4 xm_ xq_row xq_t xt_ xh0 xk0 xw_ xz_ slots o_4, kx_2 xq_t xq_row xq_joined xq_from xq_to xq_size xq_lossOf xq_lessBy xq_value xq_number nodes here, kx_0 xq_row xq_cell o_5, kx_a xq_cell cyI 160 o_6, kx_a xq_from cyI 319 ff, kx_a xq_to cyI 319 ft, kx_a xq_size cyI 319 fs, kx_a xq_lossOf cyI 319 fo, kx_a xq_lessBy cyI 319 fe, kx_a xq_value cyI 1914 uv, kx_a xq_number cyI 1914 un, kx_3 xq_joined xj_v xj_n js jl je, kx_a xj_v cyI 12 jv, kx_a xj_n cyI 12 jn, kx_3 xh0 xa_v xa_n vs lo le, kx_a xa_v cyI 12 fv, kx_a xa_n cyI 12 fn, kx_3 xk0 xkv xkn sb lb eb, kx_a xkv cyI 12 gb, kx_a xkn cyI 12 nb, kx_1 xt_ xt_k xt_o tk mo, kx_a xt_k cyI 160 fk, kx_a xt_o cyI 160 fq, kx_a xw_ cyI 160 fw, kx_a xz_ cyI 161 fz, kx_5 yh0 yg_row o_10 slots 0 yg_many yg_loss yg_less yg_voteValue yg_voteNumber yg_allValue yg_allNumber u_allMany yg_nodeL yg_nodeR u_nodes yg_part u_partMany yg_wasMany yg_wasLoss yg_wasValue yg_wasNumber yg_path u_pathMany yg_heavyValue yg_heavyTimes u_heavyMany yg_fewest yg_which yg_met u_mostMet, kx_a yg_row cyI 160 o_11, kx_a yg_many cyI 324 u_many, kx_a yg_loss cyI 324 u_loss, kx_a yg_less cyI 324 u_less, kx_a yg_voteValue cyI 1944 u_voteValue, kx_a yg_voteNumber cyI 1944 u_voteNumber, kx_a yg_allValue cyI 12 u_allValue, kx_a yg_allNumber cyI 12 u_allNumber, kx_a yg_nodeL cyI 320 u_nodeL, kx_a yg_nodeR cyI 320 u_nodeR, kx_a yg_part cyI 320 u_part, kx_a yg_wasMany cyI 320 u_wasMany, kx_a yg_wasLoss cyI 320 u_wasLoss, kx_a yg_wasValue cyI 1920 u_wasValue, kx_a yg_wasNumber cyI 1920 u_wasNumber, kx_a yg_path cyI 12 u_path, kx_a yg_heavyValue cyI 160 u_heavyValue, kx_a yg_heavyTimes cyI 160 u_heavyTimes, kx_a yg_fewest cyI 161 u_fewest, kx_a yg_which cyI 160 u_which, kx_a yg_met cyI 160 u_met, (q_o, .inl (cyL, 1, .inr (.inl ol)))]) hP hD hP1 hD1 hk1 hFc [false, false, false, false, false, false, false, false, false, false, false, false, false, false, false, false, false, false, false, false, false, false, false, false, false, true, true, false, false, false, false, false, false, false, false, false, false, false, false, false, false, false, false, false, false, false, false, false] hCc rfl
  clear hP1 hD1 hK1 hk1 hz1 hFc hDc hPc hKc hCc
  generalize H1 = H at hP hS ⊢
  have w_9 : ((0 ≤ y_2.toInt ∧ y_2.toInt < len.toInt ∧ r_9 = f y_2.toNatClampNeg ∧ o_10.toInt = len.toInt - 1 ∧ o_11 = shL f y_2.toNatClampNeg o_10.toNatClampNeg) ∨ ((y_2.toInt < 0 ∨ len.toInt ≤ y_2.toInt) ∧ r_9 = -40000 ∧ o_10 = len ∧ o_11 = f)) ∧ shorts o_11 := w_9
  refine lv_pop hx hb dL_law_537 rfl ?_
  refine lv_goto (tgt := 2288) hx hb dL_law_538 (by decide) ?_
  obtain ⟨x_12, ex_12⟩ : ∃ y : Int32, y = ix + 8 := ⟨_, rfl⟩
  have i_12 : x_12.toInt = ix.toInt + 8 := ki_add ex_12 rfl rfl (om_578 hix hj0) (om_579 hix hjI hLI)
  refine lv_iinc (v := x_12) (lv' := [(4, .int x_12), (3, .ref q_o), (2, .ref yh0), (1, .ref xm_), (0, .ref b)]) hx hb dL_law_2288 hl (k := 0) rfl (by rw [ex_12]; rfl) (by decide) rfl (fun ls hl => ?_)
  refine lv_goto (tgt := 23) hx hb dL_law_2291 (by decide) ?_
  have hEn : o_10 = o_5 ∧ (o_4 = 1 ∨ (o_4 = old ∧ o_5 = len)) := by
    rcases w_3.1 with ⟨a1, a2, a3, a4, a5, a6⟩ | ⟨a1, a2, a3, a4, a5⟩ <;> rcases w_9.1 with ⟨b1, b2, b3, b4, b5⟩ | ⟨b1, b2, b3, b4⟩
    · exact ⟨Int32.toInt_inj.mp (by omega), Or.inl a5⟩
    · exfalso; omega
    · exfalso; omega
    · exact ⟨by rw [a3, b3], Or.inr ⟨a4, a3⟩⟩
  have hEq : o_10 = o_5 ∧ o_11 = o_6 ∧ (o_4 = 1 ∨ (o_4 = old ∧ o_5 = len)) := by
    rcases w_3.1 with ⟨a1, a2, a3, a4, a5, a6⟩ | ⟨a1, a2, a3, a4, a5⟩ <;> rcases w_9.1 with ⟨b1, b2, b3, b4, b5⟩ | ⟨b1, b2, b3, b4⟩
    · exact ⟨hEn.1, by rw [a6, b5, hEn.1], hEn.2⟩
    · exfalso; omega
    · exfalso; omega
    · exact ⟨hEn.1, by rw [a5, b4], hEn.2⟩
  have hLn : 0 ≤ o_5.toInt ∧ o_5.toInt ≤ 160 := by rcases w_3.1 with ⟨a1, a2, a3, a4, a5, a6⟩ | ⟨a1, a2, a3, a4, a5⟩; exact ⟨by omega, by omega⟩; exact ⟨by rw [a3]; omega, by rw [a3]; omega⟩
  have hO6 : o_4 = 1 ∨ (o_4 = old ∧ o_5 = len ∧ o_6 = f ∧ slots = slots) := by rcases w_3.1 with ⟨a1, a2, a3, a4, a5, a6⟩ | ⟨a1, a2, a3, a4, a5⟩; exact Or.inl a5; exact Or.inr ⟨a4, a3, a5, rfl⟩
  rw [hEq.1] at hP hD
  rw [hEq.2.1] at hP hD
  obtain ⟨hP, hD⟩ := kx_re (w2 := [kx_4 xm_ xq_row xq_t xt_ xh0 xk0 xw_ xz_ slots o_4, kx_2 xq_t xq_row xq_joined xq_from xq_to xq_size xq_lossOf xq_lessBy xq_value xq_number nodes here, kx_0 xq_row xq_cell o_5, kx_a xq_cell cyI 160 o_6, kx_a xq_from cyI 319 ff, kx_a xq_to cyI 319 ft, kx_a xq_size cyI 319 fs, kx_a xq_lossOf cyI 319 fo, kx_a xq_lessBy cyI 319 fe, kx_a xq_value cyI 1914 uv, kx_a xq_number cyI 1914 un, kx_3 xq_joined xj_v xj_n js jl je, kx_a xj_v cyI 12 jv, kx_a xj_n cyI 12 jn, kx_3 xh0 xa_v xa_n vs lo le, kx_a xa_v cyI 12 fv, kx_a xa_n cyI 12 fn, kx_3 xk0 xkv xkn sb lb eb, kx_a xkv cyI 12 gb, kx_a xkn cyI 12 nb, kx_1 xt_ xt_k xt_o tk mo, kx_a xt_k cyI 160 fk, kx_a xt_o cyI 160 fq, kx_a xw_ cyI 160 fw, kx_a xz_ cyI 161 fz, kx_5 yh0 yg_row o_5 slots 0 yg_many yg_loss yg_less yg_voteValue yg_voteNumber yg_allValue yg_allNumber u_allMany yg_nodeL yg_nodeR u_nodes yg_part u_partMany yg_wasMany yg_wasLoss yg_wasValue yg_wasNumber yg_path u_pathMany yg_heavyValue yg_heavyTimes u_heavyMany yg_fewest yg_which yg_met u_mostMet, kx_a yg_row cyI 160 o_6, kx_a yg_many cyI 324 u_many, kx_a yg_loss cyI 324 u_loss, kx_a yg_less cyI 324 u_less, kx_a yg_voteValue cyI 1944 u_voteValue, kx_a yg_voteNumber cyI 1944 u_voteNumber, kx_a yg_allValue cyI 12 u_allValue, kx_a yg_allNumber cyI 12 u_allNumber, kx_a yg_nodeL cyI 320 u_nodeL, kx_a yg_nodeR cyI 320 u_nodeR, kx_a yg_part cyI 320 u_part, kx_a yg_wasMany cyI 320 u_wasMany, kx_a yg_wasLoss cyI 320 u_wasLoss, kx_a yg_wasValue cyI 1920 u_wasValue, kx_a yg_wasNumber cyI 1920 u_wasNumber, kx_a yg_path cyI 12 u_path, kx_a yg_heavyValue cyI 160 u_heavyValue, kx_a yg_heavyTimes cyI 160 u_heavyTimes, kx_a yg_fewest cyI 161 u_fewest, kx_a yg_which cyI 160 u_which, kx_a yg_met cyI 160 u_met, (q_o, .inl (cyL, 1, .inr (.inl ol)))]) hP hD rfl
  refine W.widen (k := 60 + 2 * (j + 1)) (n := 20000 + 12 * (j + 1)) (lw_wdC (k := 0) (Nat.le_of_ble_eq_true rfl)) (lw_wdS (k := 0) (Nat.le_of_ble_eq_true rfl)) ?_
  have k_13 : (0 : Int32).toInt = 0 := rfl
  exact ih o_5 slots o_4 nodes here js jl je vs lo le sb lb eb tk mo 0 u_allMany u_nodes u_partMany u_pathMany u_heavyMany u_mostMet o_6 ff ft fs fo fe uv un jv jn fv fn gb nb fk fq fw fz u_many u_loss u_less u_voteValue u_voteNumber u_allValue u_allNumber u_nodeL u_nodeR u_part u_wasMany u_wasLoss u_wasValue u_wasNumber u_path u_heavyValue u_heavyTimes u_fewest u_which u_met ol x_12 (om_ix i_12 hix) hLn.1 hLn.2 I2 I3 w_3.2 I5 (laidX_new I6 hO6) I7 I8 _ _ ls hP hD hS (lv_sub hl [0, 1, 2, 3, 4] rfl)

set_option maxHeartbeats 4000000 in
set_option maxRecDepth 100000 in
theorem lc_9 {p : Program} {l : Launch} {e : Env} {s : State} {m : MethodId} {below : List Frame} {meth : Method} {c : Code} {dC : Nat → ClassId} {dI : Nat → Nat → Nat} {b : Nat} {xs : Nat → Int32} (hl0 : l.stackTraces = false) {L j : Nat} (hL : L ≤ 4096) (hj : 8 * j + 8 ≤ L) (C0 : lw_At p s m meth c b L xs) (hth : ki_ThA (fun q : Nat => s.heap.size ≤ q) s) {cyI cyL : ClassId} {xm_ xq_t xq_row xq_cell xq_from xq_to xq_size xq_lossOf xq_lessBy xq_value xq_number xq_joined xj_v xj_n xh0 xa_v xa_n xk0 xkv xkn xt_ xt_k xt_o xw_ xz_ yh0 yg_row yg_many yg_loss yg_less yg_voteValue yg_voteNumber yg_allValue yg_allNumber yg_nodeL yg_nodeR yg_part yg_wasMany yg_wasLoss yg_wasValue yg_wasNumber yg_path yg_heavyValue yg_heavyTimes yg_fewest yg_which yg_met q_o : Nat} (hK : va_K (dC, dI) vwCl [(cyI, .int), (cyL, .long)] s) (ih : lw_G p l e s m below meth c b dC dI cyI cyL xm_ xq_t xq_row xq_cell xq_from xq_to xq_size xq_lossOf xq_lessBy xq_value xq_number xq_joined xj_v xj_n xh0 xa_v xa_n xk0 xkv xkn xt_ xt_k xt_o xw_ xz_ yh0 yg_row yg_many yg_loss yg_less yg_voteValue yg_voteNumber yg_allValue yg_allNumber yg_nodeL yg_nodeR yg_part yg_wasMany yg_wasLoss yg_wasValue yg_wasNumber yg_path yg_heavyValue yg_heavyTimes yg_fewest yg_which yg_met q_o (j + 1)) {len slots old nodes here js jl je vs lo le sb lb eb tk mo u_thrown u_allMany u_nodes u_partMany u_pathMany u_heavyMany u_mostMet ix : Int32} {f ff ft fs fo fe uv un jv jn fv fn gb nb fk fq fw fz u_many u_loss u_less u_voteValue u_voteNumber u_allValue u_allNumber u_nodeL u_nodeR u_part u_wasMany u_wasLoss u_wasValue u_wasNumber u_path u_heavyValue u_heavyTimes u_fewest u_which u_met : Nat → Int32} {ol : Nat → Int64} (hix : ix.toInt = 8 * (j : Int)) (I0 : 0 ≤ len.toInt) (I1 : len.toInt ≤ 160) (I2 : 1 ≤ slots.toInt) (I3 : slots.toInt ≤ 6) (I4 : shorts f) (I5 : sixes fs) (I6 : laidX old slots here f ff ft fs fo fe uv un nodes len) (I7 : six4 u_many) (I8 : parts320 u_part) {H : Heap} {locs : List Loc} (hP : va_P (dC, dI) vwCl [kx_4 xm_ xq_row xq_t xt_ xh0 xk0 xw_ xz_ slots old, kx_2 xq_t xq_row xq_joined xq_from xq_to xq_size xq_lossOf xq_lessBy xq_value xq_number nodes here, kx_0 xq_row xq_cell len, kx_a xq_cell cyI 160 f, kx_a xq_from cyI 319 ff, kx_a xq_to cyI 319 ft, kx_a xq_size cyI 319 fs, kx_a xq_lossOf cyI 319 fo, kx_a xq_lessBy cyI 319 fe, kx_a xq_value cyI 1914 uv, kx_a xq_number cyI 1914 un, kx_3 xq_joined xj_v xj_n js jl je, kx_a xj_v cyI 12 jv, kx_a xj_n cyI 12 jn, kx_3 xh0 xa_v xa_n vs lo le, kx_a xa_v cyI 12 fv, kx_a xa_n cyI 12 fn, kx_3 xk0 xkv xkn sb lb eb, kx_a xkv cyI 12 gb, kx_a xkn cyI 12 nb, kx_1 xt_ xt_k xt_o tk mo, kx_a xt_k cyI 160 fk, kx_a xt_o cyI 160 fq, kx_a xw_ cyI 160 fw, kx_a xz_ cyI 161 fz, kx_5 yh0 yg_row len slots u_thrown yg_many yg_loss yg_less yg_voteValue yg_voteNumber yg_allValue yg_allNumber u_allMany yg_nodeL yg_nodeR u_nodes yg_part u_partMany yg_wasMany yg_wasLoss yg_wasValue yg_wasNumber yg_path u_pathMany yg_heavyValue yg_heavyTimes u_heavyMany yg_fewest yg_which yg_met u_mostMet, kx_a yg_row cyI 160 f, kx_a yg_many cyI 324 u_many, kx_a yg_loss cyI 324 u_loss, kx_a yg_less cyI 324 u_less, kx_a yg_voteValue cyI 1944 u_voteValue, kx_a yg_voteNumber cyI 1944 u_voteNumber, kx_a yg_allValue cyI 12 u_allValue, kx_a yg_allNumber cyI 12 u_allNumber, kx_a yg_nodeL cyI 320 u_nodeL, kx_a yg_nodeR cyI 320 u_nodeR, kx_a yg_part cyI 320 u_part, kx_a yg_wasMany cyI 320 u_wasMany, kx_a yg_wasLoss cyI 320 u_wasLoss, kx_a yg_wasValue cyI 1920 u_wasValue, kx_a yg_wasNumber cyI 1920 u_wasNumber, kx_a yg_path cyI 12 u_path, kx_a yg_heavyValue cyI 160 u_heavyValue, kx_a yg_heavyTimes cyI 160 u_heavyTimes, kx_a yg_fewest cyI 161 u_fewest, kx_a yg_which cyI 160 u_which, kx_a yg_met cyI 160 u_met, (q_o, .inl (cyL, 1, .inr (.inl ol)))] H) (hD : va_D (fun q : Nat => s.heap.size ≤ q) [kx_4 xm_ xq_row xq_t xt_ xh0 xk0 xw_ xz_ slots old, kx_2 xq_t xq_row xq_joined xq_from xq_to xq_size xq_lossOf xq_lessBy xq_value xq_number nodes here, kx_0 xq_row xq_cell len, kx_a xq_cell cyI 160 f, kx_a xq_from cyI 319 ff, kx_a xq_to cyI 319 ft, kx_a xq_size cyI 319 fs, kx_a xq_lossOf cyI 319 fo, kx_a xq_lessBy cyI 319 fe, kx_a xq_value cyI 1914 uv, kx_a xq_number cyI 1914 un, kx_3 xq_joined xj_v xj_n js jl je, kx_a xj_v cyI 12 jv, kx_a xj_n cyI 12 jn, kx_3 xh0 xa_v xa_n vs lo le, kx_a xa_v cyI 12 fv, kx_a xa_n cyI 12 fn, kx_3 xk0 xkv xkn sb lb eb, kx_a xkv cyI 12 gb, kx_a xkn cyI 12 nb, kx_1 xt_ xt_k xt_o tk mo, kx_a xt_k cyI 160 fk, kx_a xt_o cyI 160 fq, kx_a xw_ cyI 160 fw, kx_a xz_ cyI 161 fz, kx_5 yh0 yg_row len slots u_thrown yg_many yg_loss yg_less yg_voteValue yg_voteNumber yg_allValue yg_allNumber u_allMany yg_nodeL yg_nodeR u_nodes yg_part u_partMany yg_wasMany yg_wasLoss yg_wasValue yg_wasNumber yg_path u_pathMany yg_heavyValue yg_heavyTimes u_heavyMany yg_fewest yg_which yg_met u_mostMet, kx_a yg_row cyI 160 f, kx_a yg_many cyI 324 u_many, kx_a yg_loss cyI 324 u_loss, kx_a yg_less cyI 324 u_less, kx_a yg_voteValue cyI 1944 u_voteValue, kx_a yg_voteNumber cyI 1944 u_voteNumber, kx_a yg_allValue cyI 12 u_allValue, kx_a yg_allNumber cyI 12 u_allNumber, kx_a yg_nodeL cyI 320 u_nodeL, kx_a yg_nodeR cyI 320 u_nodeR, kx_a yg_part cyI 320 u_part, kx_a yg_wasMany cyI 320 u_wasMany, kx_a yg_wasLoss cyI 320 u_wasLoss, kx_a yg_wasValue cyI 1920 u_wasValue, kx_a yg_wasNumber cyI 1920 u_wasNumber, kx_a yg_path cyI 12 u_path, kx_a yg_heavyValue cyI 160 u_heavyValue, kx_a yg_heavyTimes cyI 160 u_heavyTimes, kx_a yg_fewest cyI 161 u_fewest, kx_a yg_which cyI 160 u_which, kx_a yg_met cyI 160 u_met, (q_o, .inl (cyL, 1, .inr (.inl ol)))]) (hS : va_S (fun q : Nat => s.heap.size ≤ q) s.heap H locs) {ls : Array Slot} (hl : lv_has ls 7 [(4, .int ix), (3, .ref q_o), (2, .ref yh0), (1, .ref xm_), (0, .ref b)]) : W p l e room_1 s m #[Value.ref b] below meth c H locs (60 + 2 * j) (20000 + 12 * j) (lw_Z below #[Value.ref b] s) (F0 m 541 ls []) := by
  obtain ⟨hx, hb, hr, hml, hown, hts0, hX, hbl, hlocks, hgv⟩ := id C0
  have hts := hts0
  have hA : ∀ q : Nat, s.heap.size ≤ q → (fun q : Nat => s.heap.size ≤ q) q := fun _ h => h
  have hbA : ¬ (fun q : Nat => s.heap.size ≤ q) b := Nat.not_le.mpr hbl
  have hown : s.vm.findClass RL = some m.cls := hown
  have hb : c.code = cL_law := hb
  have hj0 : 0 ≤ (j : Int) := Int.natCast_nonneg j
  have hjI : 8 * (j : Int) + 8 ≤ (L : Int) := lw_jI hj
  have hLI : (L : Int) ≤ 4096 := lw_LI hL
  refine lv_aload_n hx hb dL_law_541 rfl (lv_at hl 3 rfl) ?_
  refine lv_aload_n hx hb dL_law_542 rfl (lv_at hl 4 rfl) ?_
  refine lv_iload hx hb dL_law_543 (lv_at hl 0 rfl) ?_
  refine lv_iconst (v := 1) hx hb dL_law_545 (by decide) ?_
  refine lv_iadd hx hb dL_law_546 ?_
  refine lv_topi (fun y_1 ey_1 => ?_)
  have i_1 : y_1.toInt = ix.toInt + 1 := ki_add ey_1 rfl rfl (om_568 hix hj0) (om_569 hix hjI hLI)
  refine va_sld hx hb hX hbl hbA hS (i := y_1) (ki_in (om_570 hix hj0 i_1) (om_571 hix hjI i_1)) dL_law_547 ?_
  refine lv_topi (fun y_2 ey_2 => ?_)
  refine lv_aload_n hx hb dL_law_548 rfl (lv_at hl 1 rfl) ?_
  have hPc := hP.sub (ws' := [kx_4 xm_ xq_row xq_t xt_ xh0 xk0 xw_ xz_ slots old, kx_0 xq_row xq_cell len, kx_a xq_cell cyI 160 f, (q_o, .inl (cyL, 1, .inr (.inl ol)))]) [0, 2, 3, 47] rfl
  have hKc := hK.sub (tys' := [(cyI, .int), (cyL, .long)]) [0, 1] rfl
  have hDc := hD.sub (ws' := [kx_4 xm_ xq_row xq_t xt_ xh0 xk0 xw_ xz_ slots old, kx_0 xq_row xq_cell len, kx_a xq_cell cyI 160 f, (q_o, .inl (cyL, 1, .inr (.inl ol)))]) [0, 2, 3, 47] (by decide) rfl
  have hFc := va_free (wc := [kx_4 xm_ xq_row xq_t xt_ xh0 xk0 xw_ xz_ slots old, kx_0 xq_row xq_cell len, kx_a xq_cell cyI 160 f, (q_o, .inl (cyL, 1, .inr (.inl ol)))]) hD hS hA [0, 2, 3, 47] rfl
  refine va_calli (vx_runSW (As := [.ref xm_, .int y_2, .ref q_o]) (rest := []) ⟨hx, hb, hml, hown, (lwC_L_at hts0)⟩ (c_L_at l hl0 dC dI xm_ xq_row xq_t xt_ xh0 xk0 xw_ xz_ slots old xq_cell cyI len f y_2 cyL q_o ol H.size I0 I1) (vx_cwSW 3 (lwC_L_at hts0) lwG_L_at rfl rfl rfl (by decide +kernel) ⟨Nat.le_of_ble_eq_true rfl, Nat.le_of_ble_eq_true rfl⟩) ⟨fun a U g mk q => by obtain ⟨q0, q1, qP, qK, qD, qT⟩ := q; exact ⟨q0, q1, qP, va_K.moved (u := U) (U := U.calling g mk a) (Vm.Alike.refl U.vm) qK, qD, qT.call g mk a⟩, fun U hU hW => ⟨rfl, by rw [hU], by rw [hU]; exact hPc, va_K.moved hW.alike hKc, hDc.weaken (fun _ _ _ _ => trivial), hth.from hS hU hW hFc⟩⟩ rfl rfl hl.1 rfl (lv_room (Nat.le_of_ble_eq_true rfl)) dL_law_549 (lw_fitJ hj hL (Nat.le_of_ble_eq_true rfl) (Nat.le_of_ble_eq_true rfl))) hS (fun q _ h => hFc q h) hFc (fun r_3 u t H1 locs ht hvm w_3 hB hz1 hk1 hS => ?_)
  obtain ⟨o_4, o_5⟩ := u
  dsimp only at w_3 hB
  obtain ⟨hP1, hK1, hD1⟩ := hB
  rw [ht] at hP1
  have hK1 := va_K.moved hvm.symm hK1
  obtain ⟨hP, hD⟩ := va_join (wr := [kx_2 xq_t xq_row xq_joined xq_from xq_to xq_size xq_lossOf xq_lessBy xq_value xq_number nodes here, kx_a xq_from cyI 319 ff, kx_a xq_to cyI 319 ft, kx_a xq_size cyI 319 fs, kx_a xq_lossOf cyI 319 fo, kx_a xq_lessBy cyI 319 fe, kx_a xq_value cyI 1914 uv, kx_a xq_number cyI 1914 un, kx_3 xq_joined xj_v xj_n js jl je, kx_a xj_v cyI 12 jv, kx_a xj_n cyI 12 jn, kx_3 xh0 xa_v xa_n vs lo le, kx_a xa_v cyI 12 fv, kx_a xa_n cyI 12 fn, kx_3 xk0 xkv xkn sb lb eb, kx_a xkv cyI 12 gb, kx_a xkn cyI 12 nb, kx_1 xt_ xt_k xt_o tk mo, kx_a xt_k cyI 160 fk, kx_a xt_o cyI 160 fq, kx_a xw_ cyI 160 fw, kx_a xz_ cyI 161 fz, kx_5 yh0 yg_row len slots u_thrown yg_many yg_loss yg_less yg_voteValue yg_voteNumber yg_allValue yg_allNumber u_allMany yg_nodeL yg_nodeR u_nodes yg_part u_partMany yg_wasMany yg_wasLoss yg_wasValue yg_wasNumber yg_path u_pathMany yg_heavyValue yg_heavyTimes u_heavyMany yg_fewest yg_which yg_met u_mostMet, kx_a yg_row cyI 160 f, kx_a yg_many cyI 324 u_many, kx_a yg_loss cyI 324 u_loss, kx_a yg_less cyI 324 u_less, kx_a yg_voteValue cyI 1944 u_voteValue, kx_a yg_voteNumber cyI 1944 u_voteNumber, kx_a yg_allValue cyI 12 u_allValue, kx_a yg_allNumber cyI 12 u_allNumber, kx_a yg_nodeL cyI 320 u_nodeL, kx_a yg_nodeR cyI 320 u_nodeR, kx_a yg_part cyI 320 u_part, kx_a yg_wasMany cyI 320 u_wasMany, kx_a yg_wasLoss cyI 320 u_wasLoss, kx_a yg_wasValue cyI 1920 u_wasValue, kx_a yg_wasNumber cyI 1920 u_wasNumber, kx_a yg_path cyI 12 u_path, kx_a yg_heavyValue cyI 160 u_heavyValue, kx_a yg_heavyTimes cyI 160 u_heavyTimes, kx_a yg_fewest cyI 161 u_fewest, kx_a yg_which cyI 160 u_which, kx_a yg_met cyI 160 u_met]) (w1 := [kx_4 xm_ xq_row xq_t xt_ xh0 xk0 xw_ xz_ slots old, kx_0 xq_row xq_cell len, kx_a xq_cell cyI 160 f, (q_o, .inl (cyL, 1, .inr (.inl o_4)))]) hP hD [0, 2, 3, 47] [1, 4, 5, 6, 7, 8, 9, 10, 11, 12, 13, 14, 15, 16, 17, 18, 19, 20, 21, 22, 23, 24, 25, 26, 27, 28, 29, 30, 31, 32, 33, 34, 35, 36, 37, 38, 39, 40, 41, 42, 43, 44, 45, 46] rfl rfl (by decide) (by decide) hk1 hFc hP1 hD1
  clear hP1 hD1 hK1 hk1 hz1 hFc hDc hPc hKc
  generalize H1 = H at hP hS ⊢
  obtain ⟨hP, hD⟩ := kx_re (w2 := [kx_2 xq_t xq_row xq_joined xq_from xq_to xq_size xq_lossOf xq_lessBy xq_value xq_number nodes here, kx_a xq_from cyI 319 ff, kx_a xq_to cyI 319 ft, kx_a xq_size cyI 319 fs, kx_a xq_lossOf cyI 319 fo, kx_a xq_lessBy cyI 319 fe, kx_a xq_value cyI 1914 uv, kx_a xq_number cyI 1914 un, kx_3 xq_joined xj_v xj_n js jl je, kx_a xj_v cyI 12 jv, kx_a xj_n cyI 12 jn, kx_3 xh0 xa_v xa_n vs lo le, kx_a xa_v cyI 12 fv, kx_a xa_n cyI 12 fn, kx_3 xk0 xkv xkn sb lb eb, kx_a xkv cyI 12 gb, kx_a xkn cyI 12 nb, kx_1 xt_ xt_k xt_o tk mo, kx_a xt_k cyI 160 fk, kx_a xt_o cyI 160 fq, kx_a xw_ cyI 160 fw, kx_a xz_ cyI 161 fz, kx_5 yh0 yg_row len slots u_thrown yg_many yg_loss yg_less yg_voteValue yg_voteNumber yg_allValue yg_allNumber u_allMany yg_nodeL yg_nodeR u_nodes yg_part u_partMany yg_wasMany yg_wasLoss yg_wasValue yg_wasNumber yg_path u_pathMany yg_heavyValue yg_heavyTimes u_heavyMany yg_fewest yg_which yg_met u_mostMet, kx_a yg_row cyI 160 f, kx_a yg_many cyI 324 u_many, kx_a yg_loss cyI 324 u_loss, kx_a yg_less cyI 324 u_less, kx_a yg_voteValue cyI 1944 u_voteValue, kx_a yg_voteNumber cyI 1944 u_voteNumber, kx_a yg_allValue cyI 12 u_allValue, kx_a yg_allNumber cyI 12 u_allNumber, kx_a yg_nodeL cyI 320 u_nodeL, kx_a yg_nodeR cyI 320 u_nodeR, kx_a yg_part cyI 320 u_part, kx_a yg_wasMany cyI 320 u_wasMany, kx_a yg_wasLoss cyI 320 u_wasLoss, kx_a yg_wasValue cyI 1920 u_wasValue, kx_a yg_wasNumber cyI 1920 u_wasNumber, kx_a yg_path cyI 12 u_path, kx_a yg_heavyValue cyI 160 u_heavyValue, kx_a yg_heavyTimes cyI 160 u_heavyTimes, kx_a yg_fewest cyI 161 u_fewest, kx_a yg_which cyI 160 u_which, kx_a yg_met cyI 160 u_met, kx_4 xm_ xq_row xq_t xt_ xh0 xk0 xw_ xz_ slots old, kx_0 xq_row xq_cell len, kx_a xq_cell cyI 160 f, (q_o, .inl (cyL, 1, .inr (.inl o_4)))]) hP hD rfl
  refine W.widen (k := (60 + 2 * j) + 1) (n := (20000 + 12 * j) + 6) (by omega) (by omega) ?_
  have w_3 : ((r_3 = 0 ∧ (0 ≤ y_2.toInt ∧ y_2.toInt < len.toInt ∧ o_5 = f y_2.toNatClampNeg) ∧ o_4 = vp_updL ol (0 : Int32).toNatClampNeg o_5.toInt64) ∨ (r_3 = 1 ∧ ((y_2.toInt < 0 ∨ len.toInt ≤ y_2.toInt)))) := w_3
  refine lv_istore (lv' := [(5, .int r_3), (4, .int ix), (3, .ref q_o), (2, .ref yh0), (1, .ref xm_), (0, .ref b)]) hx hb dL_law_552 hl (by decide) rfl (fun ls hl => ?_)
  refine lv_aload_n hx hb dL_law_554 rfl (lv_at hl 3 rfl) ?_
  refine lv_aload_n hx hb dL_law_555 rfl (lv_at hl 5 rfl) ?_
  refine lv_iload hx hb dL_law_556 (lv_at hl 1 rfl) ?_
  refine lv_iconst (v := 1) hx hb dL_law_558 (by decide) ?_
  refine lv_iadd hx hb dL_law_559 ?_
  refine lv_topi (fun y_6 ey_6 => ?_)
  have i_6 : y_6.toInt = ix.toInt + 1 := ki_add ey_6 rfl rfl (om_568 hix hj0) (om_569 hix hjI hLI)
  refine va_sld hx hb hX hbl hbA hS (i := y_6) (ki_in (om_570 hix hj0 i_6) (om_571 hix hjI i_6)) dL_law_560 ?_
  refine lv_topi (fun y_7 ey_7 => ?_)
  have qy_7 : y_2 = y_7 := by rw [ey_2, ey_7, ki_nateq (show y_1.toInt = y_6.toInt from (om_576 i_1 i_6))]
  subst qy_7
  obtain ⟨hPc, hDc, hFc, hCc⟩ := kx_preM (wc := [kx_5 yh0 yg_row len slots u_thrown yg_many yg_loss yg_less yg_voteValue yg_voteNumber yg_allValue yg_allNumber u_allMany yg_nodeL yg_nodeR u_nodes yg_part u_partMany yg_wasMany yg_wasLoss yg_wasValue yg_wasNumber yg_path u_pathMany yg_heavyValue yg_heavyTimes u_heavyMany yg_fewest yg_which yg_met u_mostMet, kx_a yg_row cyI 160 f]) hP hD hS hA [false, false, false, false, false, false, false, false, false, false, false, false, false, false, false, false, false, false, false, false, false, false, true, true, false, false, false, false, false, false, false, false, false, false, false, false, false, false, false, false, false, false, false, false, false, false, false, false] rfl
  have hKc := hK.sub (tys' := [(cyI, .int)]) [0] rfl
  refine va_calli (va_runV (As := [.int y_2]) (rest := []) ⟨hx, hb, hml, hown, (lwC_X5_at hts0)⟩ (kx_un (c_X5_at l dC dI yh0 yg_row yg_many yg_loss yg_less yg_voteValue yg_voteNumber yg_allValue yg_allNumber yg_nodeL yg_nodeR yg_part yg_wasMany yg_wasLoss yg_wasValue yg_wasNumber yg_path yg_heavyValue yg_heavyTimes yg_fewest yg_which yg_met len slots u_thrown u_allMany u_nodes u_partMany u_pathMany u_heavyMany u_mostMet cyI f y_2 H.size I0 I1)) (cwV 1 (lwC_X5_at hts0) lwG_X5_at rfl rfl rfl (by decide +kernel) ⟨Nat.le_of_ble_eq_true rfl, Nat.le_of_ble_eq_true rfl⟩) ⟨fun a U g mk q => by obtain ⟨q0, q1, qP, qK, qD⟩ := q; exact ⟨q0, q1, qP, va_K.moved (u := U) (U := U.calling g mk a) (Vm.Alike.refl U.vm) qK, qD⟩, kx_rc5 hKc hPc (q0 := 0) rfl, fun U hU hW => ⟨rfl, by rw [hU], by rw [hU]; exact hPc, va_K.moved hW.alike hKc, hDc.weaken (fun _ _ _ _ => trivial)⟩⟩ rfl rfl hl.1 rfl (lv_room (Nat.le_of_ble_eq_true rfl)) dL_law_561 (lw_fitK (k := 1) (n := 6) hj hL (Nat.le_of_ble_eq_true rfl) (Nat.le_of_ble_eq_true rfl))) hS (fun q _ h => hFc q h) hFc (fun r_8 u t H1 locs ht hvm w_8 hB hz1 hk1 hS => ?_)
  obtain ⟨o_9, rfl⟩ : ∃ z, z = u := ⟨_, rfl⟩
  obtain ⟨hP1, hK1, hD1⟩ := hB
  rw [ht] at hP1
  have hK1 := va_K.moved hvm.symm hK1
  obtain ⟨hP, hD⟩ := kx_joinM (w2 := [kx_2 xq_t xq_row xq_joined xq_from xq_to xq_size xq_lossOf xq_lessBy xq_value xq_number nodes here, kx_a xq_from cyI 319 ff, kx_a xq_to cyI 319 ft, kx_a xq_size cyI 319 fs, kx_a xq_lossOf cyI 319 fo, kx_a xq_lessBy cyI 319 fe, kx_a xq_value cyI 1914 uv, kx_a xq_number cyI 1914 un, kx_3 xq_joined xj_v xj_n js jl je, kx_a xj_v cyI 12 jv, kx_a xj_n cyI 12 jn, kx_3 xh0 xa_v xa_n vs lo le, kx_a xa_v cyI 12 fv, kx_a xa_n cyI 12 fn, kx_3 xk0 xkv xkn sb lb eb, kx_a xkv cyI 12 gb, kx_a xkn cyI 12 nb, kx_1 xt_ xt_k xt_o tk mo, kx_a xt_k cyI 160 fk, kx_a xt_o cyI 160 fq, kx_a xw_ cyI 160 fw, kx_a xz_ cyI 161 fz, kx_5 yh0 yg_row len slots o_9 yg_many yg_loss yg_less yg_voteValue yg_voteNumber yg_allValue yg_allNumber u_allMany yg_nodeL yg_nodeR u_nodes yg_part u_partMany yg_wasMany yg_wasLoss yg_wasValue yg_wasNumber yg_path u_pathMany yg_heavyValue yg_heavyTimes u_heavyMany yg_fewest yg_which yg_met u_mostMet, kx_a yg_row cyI 160 f, kx_a yg_many cyI 324 u_many, kx_a yg_loss cyI 324 u_loss, kx_a yg_less cyI 324 u_less, kx_a yg_voteValue cyI 1944 u_voteValue, kx_a yg_voteNumber cyI 1944 u_voteNumber, kx_a yg_allValue cyI 12 u_allValue, kx_a yg_allNumber cyI 12 u_allNumber, kx_a yg_nodeL cyI 320 u_nodeL, kx_a yg_nodeR cyI 320 u_nodeR, kx_a yg_part cyI 320 u_part, kx_a yg_wasMany cyI 320 u_wasMany, kx_a yg_wasLoss cyI 320 u_wasLoss, kx_a yg_wasValue cyI 1920 u_wasValue, kx_a yg_wasNumber cyI 1920 u_wasNumber, kx_a yg_path cyI 12 u_path, kx_a yg_heavyValue cyI 160 u_heavyValue, kx_a yg_heavyTimes cyI 160 u_heavyTimes, kx_a yg_fewest cyI 161 u_fewest, kx_a yg_which cyI 160 u_which, kx_a yg_met cyI 160 u_met, kx_4 xm_ xq_row xq_t xt_ xh0 xk0 xw_ xz_ slots old, kx_0 xq_row xq_cell len, kx_a xq_cell cyI 160 f, (q_o, .inl (cyL, 1, .inr (.inl o_4)))]) hP hD hP1 hD1 hk1 hFc [false, false, false, false, false, false, false, false, false, false, false, false, false, false, false, false, false, false, false, false, false, false, true, true, false, false, false, false, false, false, false, false, false, false, false, false, false, false, false, false, false, false, false, false, false, false, false, false] hCc rfl
  clear hP1 hD1 hK1 hk1 hz1 hFc hDc hPc hKc hCc
  generalize H1 = H at hP hS ⊢
  have w_8 : (0 ≤ y_2.toInt ∧ y_2.toInt < len.toInt ∧ r_8 = f y_2.toNatClampNeg ∧ o_9 = 0) ∨ ((y_2.toInt < 0 ∨ len.toInt ≤ y_2.toInt) ∧ r_8 = 0 ∧ o_9 = 1) := w_8
  refine lv_istore (lv' := [(6, .int r_8), (5, .int r_3), (4, .int ix), (3, .ref q_o), (2, .ref yh0), (1, .ref xm_), (0, .ref b)]) hx hb dL_law_564 hl (by decide) rfl (fun ls hl => ?_)
  refine lv_goto (tgt := 2288) hx hb dL_law_566 (by decide) ?_
  obtain ⟨x_10, ex_10⟩ : ∃ y : Int32, y = ix + 8 := ⟨_, rfl⟩
  have i_10 : x_10.toInt = ix.toInt + 8 := ki_add ex_10 rfl rfl (om_578 hix hj0) (om_579 hix hjI hLI)
  refine lv_iinc (v := x_10) (lv' := [(4, .int x_10), (6, .int r_8), (5, .int r_3), (3, .ref q_o), (2, .ref yh0), (1, .ref xm_), (0, .ref b)]) hx hb dL_law_2288 hl (k := 2) rfl (by rw [ex_10]; rfl) (by decide) rfl (fun ls hl => ?_)
  refine lv_goto (tgt := 23) hx hb dL_law_2291 (by decide) ?_
  refine W.widen (k := 60 + 2 * (j + 1)) (n := 20000 + 12 * (j + 1)) (lw_wdC (k := 1) (Nat.le_of_ble_eq_true rfl)) (lw_wdS (k := 6) (Nat.le_of_ble_eq_true rfl)) ?_
  exact ih len slots old nodes here js jl je vs lo le sb lb eb tk mo o_9 u_allMany u_nodes u_partMany u_pathMany u_heavyMany u_mostMet f ff ft fs fo fe uv un jv jn fv fn gb nb fk fq fw fz u_many u_loss u_less u_voteValue u_voteNumber u_allValue u_allNumber u_nodeL u_nodeR u_part u_wasMany u_wasLoss u_wasValue u_wasNumber u_path u_heavyValue u_heavyTimes u_fewest u_which u_met o_4 x_10 (om_ix i_10 hix) I0 I1 I2 I3 I4 I5 I6 I7 I8 _ _ ls (hP.sub [44, 0, 45, 46, 1, 2, 3, 4, 5, 6, 7, 8, 9, 10, 11, 12, 13, 14, 15, 16, 17, 18, 19, 20, 21, 22, 23, 24, 25, 26, 27, 28, 29, 30, 31, 32, 33, 34, 35, 36, 37, 38, 39, 40, 41, 42, 43, 47] rfl) (hD.sub [44, 0, 45, 46, 1, 2, 3, 4, 5, 6, 7, 8, 9, 10, 11, 12, 13, 14, 15, 16, 17, 18, 19, 20, 21, 22, 23, 24, 25, 26, 27, 28, 29, 30, 31, 32, 33, 34, 35, 36, 37, 38, 39, 40, 41, 42, 43, 47] (by decide) rfl) hS (lv_sub hl [0, 3, 4, 5, 6] rfl)

set_option maxHeartbeats 4000000 in
set_option maxRecDepth 100000 in
theorem lc_10 {p : Program} {l : Launch} {e : Env} {s : State} {m : MethodId} {below : List Frame} {meth : Method} {c : Code} {dC : Nat → ClassId} {dI : Nat → Nat → Nat} {b : Nat} {xs : Nat → Int32} (hl0 : l.stackTraces = false) {L j : Nat} (hL : L ≤ 4096) (hj : 8 * j + 8 ≤ L) (C0 : lw_At p s m meth c b L xs) (hth : ki_ThA (fun q : Nat => s.heap.size ≤ q) s) {cyI cyL : ClassId} {xm_ xq_t xq_row xq_cell xq_from xq_to xq_size xq_lossOf xq_lessBy xq_value xq_number xq_joined xj_v xj_n xh0 xa_v xa_n xk0 xkv xkn xt_ xt_k xt_o xw_ xz_ yh0 yg_row yg_many yg_loss yg_less yg_voteValue yg_voteNumber yg_allValue yg_allNumber yg_nodeL yg_nodeR yg_part yg_wasMany yg_wasLoss yg_wasValue yg_wasNumber yg_path yg_heavyValue yg_heavyTimes yg_fewest yg_which yg_met q_o : Nat} (hK : va_K (dC, dI) vwCl [(cyI, .int), (cyL, .long)] s) (ih : lw_G p l e s m below meth c b dC dI cyI cyL xm_ xq_t xq_row xq_cell xq_from xq_to xq_size xq_lossOf xq_lessBy xq_value xq_number xq_joined xj_v xj_n xh0 xa_v xa_n xk0 xkv xkn xt_ xt_k xt_o xw_ xz_ yh0 yg_row yg_many yg_loss yg_less yg_voteValue yg_voteNumber yg_allValue yg_allNumber yg_nodeL yg_nodeR yg_part yg_wasMany yg_wasLoss yg_wasValue yg_wasNumber yg_path yg_heavyValue yg_heavyTimes yg_fewest yg_which yg_met q_o (j + 1)) {len slots old nodes here js jl je vs lo le sb lb eb tk mo u_thrown u_allMany u_nodes u_partMany u_pathMany u_heavyMany u_mostMet ix : Int32} {f ff ft fs fo fe uv un jv jn fv fn gb nb fk fq fw fz u_many u_loss u_less u_voteValue u_voteNumber u_allValue u_allNumber u_nodeL u_nodeR u_part u_wasMany u_wasLoss u_wasValue u_wasNumber u_path u_heavyValue u_heavyTimes u_fewest u_which u_met : Nat → Int32} {ol : Nat → Int64} (hix : ix.toInt = 8 * (j : Int)) (I0 : 0 ≤ len.toInt) (I1 : len.toInt ≤ 160) (I2 : 1 ≤ slots.toInt) (I3 : slots.toInt ≤ 6) (I4 : shorts f) (I5 : sixes fs) (I6 : laidX old slots here f ff ft fs fo fe uv un nodes len) (I7 : six4 u_many) (I8 : parts320 u_part) {H : Heap} {locs : List Loc} (hP : va_P (dC, dI) vwCl [kx_4 xm_ xq_row xq_t xt_ xh0 xk0 xw_ xz_ slots old, kx_2 xq_t xq_row xq_joined xq_from xq_to xq_size xq_lossOf xq_lessBy xq_value xq_number nodes here, kx_0 xq_row xq_cell len, kx_a xq_cell cyI 160 f, kx_a xq_from cyI 319 ff, kx_a xq_to cyI 319 ft, kx_a xq_size cyI 319 fs, kx_a xq_lossOf cyI 319 fo, kx_a xq_lessBy cyI 319 fe, kx_a xq_value cyI 1914 uv, kx_a xq_number cyI 1914 un, kx_3 xq_joined xj_v xj_n js jl je, kx_a xj_v cyI 12 jv, kx_a xj_n cyI 12 jn, kx_3 xh0 xa_v xa_n vs lo le, kx_a xa_v cyI 12 fv, kx_a xa_n cyI 12 fn, kx_3 xk0 xkv xkn sb lb eb, kx_a xkv cyI 12 gb, kx_a xkn cyI 12 nb, kx_1 xt_ xt_k xt_o tk mo, kx_a xt_k cyI 160 fk, kx_a xt_o cyI 160 fq, kx_a xw_ cyI 160 fw, kx_a xz_ cyI 161 fz, kx_5 yh0 yg_row len slots u_thrown yg_many yg_loss yg_less yg_voteValue yg_voteNumber yg_allValue yg_allNumber u_allMany yg_nodeL yg_nodeR u_nodes yg_part u_partMany yg_wasMany yg_wasLoss yg_wasValue yg_wasNumber yg_path u_pathMany yg_heavyValue yg_heavyTimes u_heavyMany yg_fewest yg_which yg_met u_mostMet, kx_a yg_row cyI 160 f, kx_a yg_many cyI 324 u_many, kx_a yg_loss cyI 324 u_loss, kx_a yg_less cyI 324 u_less, kx_a yg_voteValue cyI 1944 u_voteValue, kx_a yg_voteNumber cyI 1944 u_voteNumber, kx_a yg_allValue cyI 12 u_allValue, kx_a yg_allNumber cyI 12 u_allNumber, kx_a yg_nodeL cyI 320 u_nodeL, kx_a yg_nodeR cyI 320 u_nodeR, kx_a yg_part cyI 320 u_part, kx_a yg_wasMany cyI 320 u_wasMany, kx_a yg_wasLoss cyI 320 u_wasLoss, kx_a yg_wasValue cyI 1920 u_wasValue, kx_a yg_wasNumber cyI 1920 u_wasNumber, kx_a yg_path cyI 12 u_path, kx_a yg_heavyValue cyI 160 u_heavyValue, kx_a yg_heavyTimes cyI 160 u_heavyTimes, kx_a yg_fewest cyI 161 u_fewest, kx_a yg_which cyI 160 u_which, kx_a yg_met cyI 160 u_met, (q_o, .inl (cyL, 1, .inr (.inl ol)))] H) (hD : va_D (fun q : Nat => s.heap.size ≤ q) [kx_4 xm_ xq_row xq_t xt_ xh0 xk0 xw_ xz_ slots old, kx_2 xq_t xq_row xq_joined xq_from xq_to xq_size xq_lossOf xq_lessBy xq_value xq_number nodes here, kx_0 xq_row xq_cell len, kx_a xq_cell cyI 160 f, kx_a xq_from cyI 319 ff, kx_a xq_to cyI 319 ft, kx_a xq_size cyI 319 fs, kx_a xq_lossOf cyI 319 fo, kx_a xq_lessBy cyI 319 fe, kx_a xq_value cyI 1914 uv, kx_a xq_number cyI 1914 un, kx_3 xq_joined xj_v xj_n js jl je, kx_a xj_v cyI 12 jv, kx_a xj_n cyI 12 jn, kx_3 xh0 xa_v xa_n vs lo le, kx_a xa_v cyI 12 fv, kx_a xa_n cyI 12 fn, kx_3 xk0 xkv xkn sb lb eb, kx_a xkv cyI 12 gb, kx_a xkn cyI 12 nb, kx_1 xt_ xt_k xt_o tk mo, kx_a xt_k cyI 160 fk, kx_a xt_o cyI 160 fq, kx_a xw_ cyI 160 fw, kx_a xz_ cyI 161 fz, kx_5 yh0 yg_row len slots u_thrown yg_many yg_loss yg_less yg_voteValue yg_voteNumber yg_allValue yg_allNumber u_allMany yg_nodeL yg_nodeR u_nodes yg_part u_partMany yg_wasMany yg_wasLoss yg_wasValue yg_wasNumber yg_path u_pathMany yg_heavyValue yg_heavyTimes u_heavyMany yg_fewest yg_which yg_met u_mostMet, kx_a yg_row cyI 160 f, kx_a yg_many cyI 324 u_many, kx_a yg_loss cyI 324 u_loss, kx_a yg_less cyI 324 u_less, kx_a yg_voteValue cyI 1944 u_voteValue, kx_a yg_voteNumber cyI 1944 u_voteNumber, kx_a yg_allValue cyI 12 u_allValue, kx_a yg_allNumber cyI 12 u_allNumber, kx_a yg_nodeL cyI 320 u_nodeL, kx_a yg_nodeR cyI 320 u_nodeR, kx_a yg_part cyI 320 u_part, kx_a yg_wasMany cyI 320 u_wasMany, kx_a yg_wasLoss cyI 320 u_wasLoss, kx_a yg_wasValue cyI 1920 u_wasValue, kx_a yg_wasNumber cyI 1920 u_wasNumber, kx_a yg_path cyI 12 u_path, kx_a yg_heavyValue cyI 160 u_heavyValue, kx_a yg_heavyTimes cyI 160 u_heavyTimes, kx_a yg_fewest cyI 161 u_fewest, kx_a yg_which cyI 160 u_which, kx_a yg_met cyI 160 u_met, (q_o, .inl (cyL, 1, .inr (.inl ol)))]) (hS : va_S (fun q : Nat => s.heap.size ≤ q) s.heap H locs) {ls : Array Slot} (hl : lv_has ls 7 [(4, .int ix), (3, .ref q_o), (2, .ref yh0), (1, .ref xm_), (0, .ref b)]) : W p l e room_1 s m #[Value.ref b] below meth c H locs (60 + 2 * j) (20000 + 12 * j) (lw_Z below #[Value.ref b] s) (F0 m 569 ls []) := by
  obtain ⟨hx, hb, hr, hml, hown, hts0, hX, hbl, hlocks, hgv⟩ := id C0
  have hts := hts0
  have hA : ∀ q : Nat, s.heap.size ≤ q → (fun q : Nat => s.heap.size ≤ q) q := fun _ h => h
  have hbA : ¬ (fun q : Nat => s.heap.size ≤ q) b := Nat.not_le.mpr hbl
  have hown : s.vm.findClass RL = some m.cls := hown
  have hb : c.code = cL_law := hb
  have hj0 : 0 ≤ (j : Int) := Int.natCast_nonneg j
  have hjI : 8 * (j : Int) + 8 ≤ (L : Int) := lw_jI hj
  have hLI : (L : Int) ≤ 4096 := lw_LI hL
  refine lv_aload_n hx hb dL_law_569 rfl (lv_at hl 3 rfl) ?_
  refine lv_aload_n hx hb dL_law_570 rfl (lv_at hl 4 rfl) ?_
  refine lv_iload hx hb dL_law_571 (lv_at hl 0 rfl) ?_
  refine lv_iconst (v := 1) hx hb dL_law_573 (by decide) ?_
  refine lv_iadd hx hb dL_law_574 ?_
  refine lv_topi (fun y_1 ey_1 => ?_)
  have i_1 : y_1.toInt = ix.toInt + 1 := ki_add ey_1 rfl rfl (om_568 hix hj0) (om_569 hix hjI hLI)
  refine va_sld hx hb hX hbl hbA hS (i := y_1) (ki_in (om_570 hix hj0 i_1) (om_571 hix hjI i_1)) dL_law_575 ?_
  refine lv_topi (fun y_2 ey_2 => ?_)
  refine lv_aload_n hx hb dL_law_576 rfl (lv_at hl 4 rfl) ?_
  refine lv_iload hx hb dL_law_577 (lv_at hl 0 rfl) ?_
  refine lv_iconst (v := 2) hx hb dL_law_579 (by decide) ?_
  refine lv_iadd hx hb dL_law_580 ?_
  refine lv_topi (fun y_3 ey_3 => ?_)
  have i_3 : y_3.toInt = ix.toInt + 2 := ki_add ey_3 rfl rfl (om_572 hix hj0) (om_573 hix hjI hLI)
  refine va_sld hx hb hX hbl hbA hS (i := y_3) (ki_in (om_574 hix hj0 i_3) (om_575 hix hjI i_3)) dL_law_581 ?_
  refine lv_topi (fun y_4 ey_4 => ?_)
  refine lv_aload_n hx hb dL_law_582 rfl (lv_at hl 4 rfl) ?_
  refine lv_iload hx hb dL_law_583 (lv_at hl 0 rfl) ?_
  refine lv_iconst (v := 3) hx hb dL_law_585 (by decide) ?_
  refine lv_iadd hx hb dL_law_586 ?_
  refine lv_topi (fun y_5 ey_5 => ?_)
  have i_5 : y_5.toInt = ix.toInt + 3 := ki_add ey_5 rfl rfl (om_580 hix hj0) (om_581 hix hjI hLI)
  refine va_sld hx hb hX hbl hbA hS (i := y_5) (ki_in (om_582 hix hj0 i_5) (om_583 hix hjI i_5)) dL_law_587 ?_
  refine lv_topi (fun y_6 ey_6 => ?_)
  have hPc := hP.sub (ws' := [kx_4 xm_ xq_row xq_t xt_ xh0 xk0 xw_ xz_ slots old, kx_0 xq_row xq_cell len, kx_a xq_cell cyI 160 f]) [0, 2, 3] rfl
  have hKc := hK.sub (tys' := [(cyI, .int)]) [0] rfl
  refine vp_callSi (W.runV (As := [.int y_2, .int y_4, .int y_6]) (rest := []) ⟨hx, hb, hml, hown, (lwC_X4_count hts0)⟩ (c_X4_count l dC dI xm_ xq_row xq_t xt_ xh0 xk0 xw_ xz_ slots old xq_cell cyI len f y_2 y_4 y_6 I0 I1) (cwV 3 (lwC_X4_count hts0) lwG_X4_count rfl rfl rfl (by decide +kernel) ⟨Nat.le_of_ble_eq_true rfl, Nat.le_of_ble_eq_true rfl⟩) ⟨fun a U g mk q => by obtain ⟨q0, qP, qK⟩ := q; exact ⟨q0, qP, va_K.moved (u := U) (U := U.calling g mk a) (Vm.Alike.refl U.vm) qK⟩, kx_rc4 hKc hPc (q0 := 0) rfl, fun U hU hW => ⟨rfl, by rw [hU]; exact hPc, va_K.moved hW.alike hKc⟩⟩ rfl rfl hl.1 rfl (lv_room (Nat.le_of_ble_eq_true rfl)) dL_law_588 (lw_fitJ hj hL (Nat.le_of_ble_eq_true rfl) (Nat.le_of_ble_eq_true rfl))) (fun r_7 w_7 => ?_)
  refine lv_pop hx hb dL_law_591 rfl ?_
  refine lv_aload_n hx hb dL_law_592 rfl (lv_at hl 2 rfl) ?_
  refine lv_aload_n hx hb dL_law_593 rfl (lv_at hl 4 rfl) ?_
  refine lv_iload hx hb dL_law_594 (lv_at hl 0 rfl) ?_
  refine lv_iconst (v := 1) hx hb dL_law_596 (by decide) ?_
  refine lv_iadd hx hb dL_law_597 ?_
  refine lv_topi (fun y_8 ey_8 => ?_)
  have i_8 : y_8.toInt = ix.toInt + 1 := ki_add ey_8 rfl rfl (om_568 hix hj0) (om_569 hix hjI hLI)
  refine va_sld hx hb hX hbl hbA hS (i := y_8) (ki_in (om_570 hix hj0 i_8) (om_571 hix hjI i_8)) dL_law_598 ?_
  refine lv_topi (fun y_9 ey_9 => ?_)
  have qy_9 : y_2 = y_9 := by rw [ey_2, ey_9, ki_nateq (show y_1.toInt = y_8.toInt from (om_576 i_1 i_8))]
  subst qy_9
  refine lv_aload_n hx hb dL_law_599 rfl (lv_at hl 4 rfl) ?_
  refine lv_iload hx hb dL_law_600 (lv_at hl 0 rfl) ?_
  refine lv_iconst (v := 2) hx hb dL_law_602 (by decide) ?_
  refine lv_iadd hx hb dL_law_603 ?_
  refine lv_topi (fun y_10 ey_10 => ?_)
  have i_10 : y_10.toInt = ix.toInt + 2 := ki_add ey_10 rfl rfl (om_572 hix hj0) (om_573 hix hjI hLI)
  refine va_sld hx hb hX hbl hbA hS (i := y_10) (ki_in (om_574 hix hj0 i_10) (om_575 hix hjI i_10)) dL_law_604 ?_
  refine lv_topi (fun y_11 ey_11 => ?_)
  have qy_11 : y_4 = y_11 := by rw [ey_4, ey_11, ki_nateq (show y_3.toInt = y_10.toInt from (om_577 i_3 i_10))]
  subst qy_11
  refine lv_aload_n hx hb dL_law_605 rfl (lv_at hl 4 rfl) ?_
  refine lv_iload hx hb dL_law_606 (lv_at hl 0 rfl) ?_
  refine lv_iconst (v := 3) hx hb dL_law_608 (by decide) ?_
  refine lv_iadd hx hb dL_law_609 ?_
  refine lv_topi (fun y_12 ey_12 => ?_)
  have i_12 : y_12.toInt = ix.toInt + 3 := ki_add ey_12 rfl rfl (om_580 hix hj0) (om_581 hix hjI hLI)
  refine va_sld hx hb hX hbl hbA hS (i := y_12) (ki_in (om_582 hix hj0 i_12) (om_583 hix hjI i_12)) dL_law_610 ?_
  refine lv_topi (fun y_13 ey_13 => ?_)
  have qy_13 : y_6 = y_13 := by rw [ey_6, ey_13, ki_nateq (show y_5.toInt = y_12.toInt from (om_584 i_5 i_12))]
  subst qy_13
  obtain ⟨hPc, hDc, hFc, hCc⟩ := kx_preM (wc := [kx_5 yh0 yg_row len slots u_thrown yg_many yg_loss yg_less yg_voteValue yg_voteNumber yg_allValue yg_allNumber u_allMany yg_nodeL yg_nodeR u_nodes yg_part u_partMany yg_wasMany yg_wasLoss yg_wasValue yg_wasNumber yg_path u_pathMany yg_heavyValue yg_heavyTimes u_heavyMany yg_fewest yg_which yg_met u_mostMet, kx_a yg_row cyI 160 f]) hP hD hS hA [false, false, false, false, false, false, false, false, false, false, false, false, false, false, false, false, false, false, false, false, false, false, false, false, false, true, true, false, false, false, false, false, false, false, false, false, false, false, false, false, false, false, false, false, false, false, false, false] rfl
  have hKc := hK.sub (tys' := [(cyI, .int)]) [0] rfl
  refine va_calli (va_runV (As := [.int y_2, .int y_4, .int y_6]) (rest := []) ⟨hx, hb, hml, hown, (lwC_X5_count hts0)⟩ (kx_un (c_X5_count l dC dI yh0 yg_row yg_many yg_loss yg_less yg_voteValue yg_voteNumber yg_allValue yg_allNumber yg_nodeL yg_nodeR yg_part yg_wasMany yg_wasLoss yg_wasValue yg_wasNumber yg_path yg_heavyValue yg_heavyTimes yg_fewest yg_which yg_met len slots u_thrown u_allMany u_nodes u_partMany u_pathMany u_heavyMany u_mostMet cyI f y_2 y_4 y_6 H.size I0 I1)) (cwV 3 (lwC_X5_count hts0) lwG_X5_count rfl rfl rfl (by decide +kernel) ⟨Nat.le_of_ble_eq_true rfl, Nat.le_of_ble_eq_true rfl⟩) ⟨fun a U g mk q => by obtain ⟨q0, q1, qP, qK, qD⟩ := q; exact ⟨q0, q1, qP, va_K.moved (u := U) (U := U.calling g mk a) (Vm.Alike.refl U.vm) qK, qD⟩, kx_rc5 hKc hPc (q0 := 0) rfl, fun U hU hW => ⟨rfl, by rw [hU], by rw [hU]; exact hPc, va_K.moved hW.alike hKc, hDc.weaken (fun _ _ _ _ => trivial)⟩⟩ rfl rfl hl.1 rfl (lv_room (Nat.le_of_ble_eq_true rfl)) dL_law_611 (lw_fitJ hj hL (Nat.le_of_ble_eq_true rfl) (Nat.le_of_ble_eq_true rfl))) hS (fun q _ h => hFc q h) hFc (fun r_14 u t H1 locs ht hvm w_14 hB hz1 hk1 hS => ?_)
  obtain ⟨hP1, hK1, hD1⟩ := hB
  rw [ht] at hP1
  have hK1 := va_K.moved hvm.symm hK1
  obtain ⟨hP, hD⟩ := kx_joinM (w2 := [kx_4 xm_ xq_row xq_t xt_ xh0 xk0 xw_ xz_ slots old, kx_2 xq_t xq_row xq_joined xq_from xq_to xq_size xq_lossOf xq_lessBy xq_value xq_number nodes here, kx_0 xq_row xq_cell len, kx_a xq_cell cyI 160 f, kx_a xq_from cyI 319 ff, kx_a xq_to cyI 319 ft, kx_a xq_size cyI 319 fs, kx_a xq_lossOf cyI 319 fo, kx_a xq_lessBy cyI 319 fe, kx_a xq_value cyI 1914 uv, kx_a xq_number cyI 1914 un, kx_3 xq_joined xj_v xj_n js jl je, kx_a xj_v cyI 12 jv, kx_a xj_n cyI 12 jn, kx_3 xh0 xa_v xa_n vs lo le, kx_a xa_v cyI 12 fv, kx_a xa_n cyI 12 fn, kx_3 xk0 xkv xkn sb lb eb, kx_a xkv cyI 12 gb, kx_a xkn cyI 12 nb, kx_1 xt_ xt_k xt_o tk mo, kx_a xt_k cyI 160 fk, kx_a xt_o cyI 160 fq, kx_a xw_ cyI 160 fw, kx_a xz_ cyI 161 fz, kx_5 yh0 yg_row len slots 0 yg_many yg_loss yg_less yg_voteValue yg_voteNumber yg_allValue yg_allNumber u_allMany yg_nodeL yg_nodeR u_nodes yg_part u_partMany yg_wasMany yg_wasLoss yg_wasValue yg_wasNumber yg_path u_pathMany yg_heavyValue yg_heavyTimes u_heavyMany yg_fewest yg_which yg_met u_mostMet, kx_a yg_row cyI 160 f, kx_a yg_many cyI 324 u_many, kx_a yg_loss cyI 324 u_loss, kx_a yg_less cyI 324 u_less, kx_a yg_voteValue cyI 1944 u_voteValue, kx_a yg_voteNumber cyI 1944 u_voteNumber, kx_a yg_allValue cyI 12 u_allValue, kx_a yg_allNumber cyI 12 u_allNumber, kx_a yg_nodeL cyI 320 u_nodeL, kx_a yg_nodeR cyI 320 u_nodeR, kx_a yg_part cyI 320 u_part, kx_a yg_wasMany cyI 320 u_wasMany, kx_a yg_wasLoss cyI 320 u_wasLoss, kx_a yg_wasValue cyI 1920 u_wasValue, kx_a yg_wasNumber cyI 1920 u_wasNumber, kx_a yg_path cyI 12 u_path, kx_a yg_heavyValue cyI 160 u_heavyValue, kx_a yg_heavyTimes cyI 160 u_heavyTimes, kx_a yg_fewest cyI 161 u_fewest, kx_a yg_which cyI 160 u_which, kx_a yg_met cyI 160 u_met, (q_o, .inl (cyL, 1, .inr (.inl ol)))]) hP hD hP1 hD1 hk1 hFc [false, false, false, false, false, false, false, false, false, false, false, false, false, false, false, false, false, false, false, false, false, false, false, false, false, true, true, false, false, false, false, false, false, false, false, false, false, false, false, false, false, false, false, false, false, false, false, false] hCc rfl
  clear hP1 hD1 hK1 hk1 hz1 hFc hDc hPc hKc hCc
  generalize H1 = H at hP hS ⊢
  refine lv_pop hx hb dL_law_614 rfl ?_
  refine lv_goto (tgt := 2288) hx hb dL_law_615 (by decide) ?_
  obtain ⟨x_15, ex_15⟩ : ∃ y : Int32, y = ix + 8 := ⟨_, rfl⟩
  have i_15 : x_15.toInt = ix.toInt + 8 := ki_add ex_15 rfl rfl (om_578 hix hj0) (om_579 hix hjI hLI)
  refine lv_iinc (v := x_15) (lv' := [(4, .int x_15), (3, .ref q_o), (2, .ref yh0), (1, .ref xm_), (0, .ref b)]) hx hb dL_law_2288 hl (k := 0) rfl (by rw [ex_15]; rfl) (by decide) rfl (fun ls hl => ?_)
  refine lv_goto (tgt := 23) hx hb dL_law_2291 (by decide) ?_
  refine W.widen (k := 60 + 2 * (j + 1)) (n := 20000 + 12 * (j + 1)) (lw_wdC (k := 0) (Nat.le_of_ble_eq_true rfl)) (lw_wdS (k := 0) (Nat.le_of_ble_eq_true rfl)) ?_
  have k_16 : (0 : Int32).toInt = 0 := rfl
  exact ih len slots old nodes here js jl je vs lo le sb lb eb tk mo 0 u_allMany u_nodes u_partMany u_pathMany u_heavyMany u_mostMet f ff ft fs fo fe uv un jv jn fv fn gb nb fk fq fw fz u_many u_loss u_less u_voteValue u_voteNumber u_allValue u_allNumber u_nodeL u_nodeR u_part u_wasMany u_wasLoss u_wasValue u_wasNumber u_path u_heavyValue u_heavyTimes u_fewest u_which u_met ol x_15 (om_ix i_15 hix) I0 I1 I2 I3 I4 I5 I6 I7 I8 _ _ ls hP hD hS (lv_sub hl [0, 1, 2, 3, 4] rfl)

set_option maxHeartbeats 4000000 in
set_option maxRecDepth 100000 in
theorem lc_11 {p : Program} {l : Launch} {e : Env} {s : State} {m : MethodId} {below : List Frame} {meth : Method} {c : Code} {dC : Nat → ClassId} {dI : Nat → Nat → Nat} {b : Nat} {xs : Nat → Int32} (hl0 : l.stackTraces = false) {L j : Nat} (hL : L ≤ 4096) (hj : 8 * j + 8 ≤ L) (C0 : lw_At p s m meth c b L xs) (hth : ki_ThA (fun q : Nat => s.heap.size ≤ q) s) {cyI cyL : ClassId} {xm_ xq_t xq_row xq_cell xq_from xq_to xq_size xq_lossOf xq_lessBy xq_value xq_number xq_joined xj_v xj_n xh0 xa_v xa_n xk0 xkv xkn xt_ xt_k xt_o xw_ xz_ yh0 yg_row yg_many yg_loss yg_less yg_voteValue yg_voteNumber yg_allValue yg_allNumber yg_nodeL yg_nodeR yg_part yg_wasMany yg_wasLoss yg_wasValue yg_wasNumber yg_path yg_heavyValue yg_heavyTimes yg_fewest yg_which yg_met q_o : Nat} (hK : va_K (dC, dI) vwCl [(cyI, .int), (cyL, .long)] s) (ih : lw_G p l e s m below meth c b dC dI cyI cyL xm_ xq_t xq_row xq_cell xq_from xq_to xq_size xq_lossOf xq_lessBy xq_value xq_number xq_joined xj_v xj_n xh0 xa_v xa_n xk0 xkv xkn xt_ xt_k xt_o xw_ xz_ yh0 yg_row yg_many yg_loss yg_less yg_voteValue yg_voteNumber yg_allValue yg_allNumber yg_nodeL yg_nodeR yg_part yg_wasMany yg_wasLoss yg_wasValue yg_wasNumber yg_path yg_heavyValue yg_heavyTimes yg_fewest yg_which yg_met q_o (j + 1)) {len slots old nodes here js jl je vs lo le sb lb eb tk mo u_thrown u_allMany u_nodes u_partMany u_pathMany u_heavyMany u_mostMet ix : Int32} {f ff ft fs fo fe uv un jv jn fv fn gb nb fk fq fw fz u_many u_loss u_less u_voteValue u_voteNumber u_allValue u_allNumber u_nodeL u_nodeR u_part u_wasMany u_wasLoss u_wasValue u_wasNumber u_path u_heavyValue u_heavyTimes u_fewest u_which u_met : Nat → Int32} {ol : Nat → Int64} (hix : ix.toInt = 8 * (j : Int)) (I0 : 0 ≤ len.toInt) (I1 : len.toInt ≤ 160) (I2 : 1 ≤ slots.toInt) (I3 : slots.toInt ≤ 6) (I4 : shorts f) (I5 : sixes fs) (I6 : laidX old slots here f ff ft fs fo fe uv un nodes len) (I7 : six4 u_many) (I8 : parts320 u_part) {H : Heap} {locs : List Loc} (hP : va_P (dC, dI) vwCl [kx_4 xm_ xq_row xq_t xt_ xh0 xk0 xw_ xz_ slots old, kx_2 xq_t xq_row xq_joined xq_from xq_to xq_size xq_lossOf xq_lessBy xq_value xq_number nodes here, kx_0 xq_row xq_cell len, kx_a xq_cell cyI 160 f, kx_a xq_from cyI 319 ff, kx_a xq_to cyI 319 ft, kx_a xq_size cyI 319 fs, kx_a xq_lossOf cyI 319 fo, kx_a xq_lessBy cyI 319 fe, kx_a xq_value cyI 1914 uv, kx_a xq_number cyI 1914 un, kx_3 xq_joined xj_v xj_n js jl je, kx_a xj_v cyI 12 jv, kx_a xj_n cyI 12 jn, kx_3 xh0 xa_v xa_n vs lo le, kx_a xa_v cyI 12 fv, kx_a xa_n cyI 12 fn, kx_3 xk0 xkv xkn sb lb eb, kx_a xkv cyI 12 gb, kx_a xkn cyI 12 nb, kx_1 xt_ xt_k xt_o tk mo, kx_a xt_k cyI 160 fk, kx_a xt_o cyI 160 fq, kx_a xw_ cyI 160 fw, kx_a xz_ cyI 161 fz, kx_5 yh0 yg_row len slots u_thrown yg_many yg_loss yg_less yg_voteValue yg_voteNumber yg_allValue yg_allNumber u_allMany yg_nodeL yg_nodeR u_nodes yg_part u_partMany yg_wasMany yg_wasLoss yg_wasValue yg_wasNumber yg_path u_pathMany yg_heavyValue yg_heavyTimes u_heavyMany yg_fewest yg_which yg_met u_mostMet, kx_a yg_row cyI 160 f, kx_a yg_many cyI 324 u_many, kx_a yg_loss cyI 324 u_loss, kx_a yg_less cyI 324 u_less, kx_a yg_voteValue cyI 1944 u_voteValue, kx_a yg_voteNumber cyI 1944 u_voteNumber, kx_a yg_allValue cyI 12 u_allValue, kx_a yg_allNumber cyI 12 u_allNumber, kx_a yg_nodeL cyI 320 u_nodeL, kx_a yg_nodeR cyI 320 u_nodeR, kx_a yg_part cyI 320 u_part, kx_a yg_wasMany cyI 320 u_wasMany, kx_a yg_wasLoss cyI 320 u_wasLoss, kx_a yg_wasValue cyI 1920 u_wasValue, kx_a yg_wasNumber cyI 1920 u_wasNumber, kx_a yg_path cyI 12 u_path, kx_a yg_heavyValue cyI 160 u_heavyValue, kx_a yg_heavyTimes cyI 160 u_heavyTimes, kx_a yg_fewest cyI 161 u_fewest, kx_a yg_which cyI 160 u_which, kx_a yg_met cyI 160 u_met, (q_o, .inl (cyL, 1, .inr (.inl ol)))] H) (hD : va_D (fun q : Nat => s.heap.size ≤ q) [kx_4 xm_ xq_row xq_t xt_ xh0 xk0 xw_ xz_ slots old, kx_2 xq_t xq_row xq_joined xq_from xq_to xq_size xq_lossOf xq_lessBy xq_value xq_number nodes here, kx_0 xq_row xq_cell len, kx_a xq_cell cyI 160 f, kx_a xq_from cyI 319 ff, kx_a xq_to cyI 319 ft, kx_a xq_size cyI 319 fs, kx_a xq_lossOf cyI 319 fo, kx_a xq_lessBy cyI 319 fe, kx_a xq_value cyI 1914 uv, kx_a xq_number cyI 1914 un, kx_3 xq_joined xj_v xj_n js jl je, kx_a xj_v cyI 12 jv, kx_a xj_n cyI 12 jn, kx_3 xh0 xa_v xa_n vs lo le, kx_a xa_v cyI 12 fv, kx_a xa_n cyI 12 fn, kx_3 xk0 xkv xkn sb lb eb, kx_a xkv cyI 12 gb, kx_a xkn cyI 12 nb, kx_1 xt_ xt_k xt_o tk mo, kx_a xt_k cyI 160 fk, kx_a xt_o cyI 160 fq, kx_a xw_ cyI 160 fw, kx_a xz_ cyI 161 fz, kx_5 yh0 yg_row len slots u_thrown yg_many yg_loss yg_less yg_voteValue yg_voteNumber yg_allValue yg_allNumber u_allMany yg_nodeL yg_nodeR u_nodes yg_part u_partMany yg_wasMany yg_wasLoss yg_wasValue yg_wasNumber yg_path u_pathMany yg_heavyValue yg_heavyTimes u_heavyMany yg_fewest yg_which yg_met u_mostMet, kx_a yg_row cyI 160 f, kx_a yg_many cyI 324 u_many, kx_a yg_loss cyI 324 u_loss, kx_a yg_less cyI 324 u_less, kx_a yg_voteValue cyI 1944 u_voteValue, kx_a yg_voteNumber cyI 1944 u_voteNumber, kx_a yg_allValue cyI 12 u_allValue, kx_a yg_allNumber cyI 12 u_allNumber, kx_a yg_nodeL cyI 320 u_nodeL, kx_a yg_nodeR cyI 320 u_nodeR, kx_a yg_part cyI 320 u_part, kx_a yg_wasMany cyI 320 u_wasMany, kx_a yg_wasLoss cyI 320 u_wasLoss, kx_a yg_wasValue cyI 1920 u_wasValue, kx_a yg_wasNumber cyI 1920 u_wasNumber, kx_a yg_path cyI 12 u_path, kx_a yg_heavyValue cyI 160 u_heavyValue, kx_a yg_heavyTimes cyI 160 u_heavyTimes, kx_a yg_fewest cyI 161 u_fewest, kx_a yg_which cyI 160 u_which, kx_a yg_met cyI 160 u_met, (q_o, .inl (cyL, 1, .inr (.inl ol)))]) (hS : va_S (fun q : Nat => s.heap.size ≤ q) s.heap H locs) {ls : Array Slot} (hl : lv_has ls 7 [(4, .int ix), (3, .ref q_o), (2, .ref yh0), (1, .ref xm_), (0, .ref b)]) : W p l e room_1 s m #[Value.ref b] below meth c H locs (60 + 2 * j) (20000 + 12 * j) (lw_Z below #[Value.ref b] s) (F0 m 618 ls []) := by
  obtain ⟨hx, hb, hr, hml, hown, hts0, hX, hbl, hlocks, hgv⟩ := id C0
  have hts := hts0
  have hA : ∀ q : Nat, s.heap.size ≤ q → (fun q : Nat => s.heap.size ≤ q) q := fun _ h => h
  have hbA : ¬ (fun q : Nat => s.heap.size ≤ q) b := Nat.not_le.mpr hbl
  have hown : s.vm.findClass RL = some m.cls := hown
  have hb : c.code = cL_law := hb
  have hj0 : 0 ≤ (j : Int) := Int.natCast_nonneg j
  have hjI : 8 * (j : Int) + 8 ≤ (L : Int) := lw_jI hj
  have hLI : (L : Int) ≤ 4096 := lw_LI hL
  refine lv_aload_n hx hb dL_law_618 rfl (lv_at hl 3 rfl) ?_
  refine lv_aload_n hx hb dL_law_619 rfl (lv_at hl 4 rfl) ?_
  refine lv_iload hx hb dL_law_620 (lv_at hl 0 rfl) ?_
  refine lv_iconst (v := 1) hx hb dL_law_622 (by decide) ?_
  refine lv_iadd hx hb dL_law_623 ?_
  refine lv_topi (fun y_1 ey_1 => ?_)
  have i_1 : y_1.toInt = ix.toInt + 1 := ki_add ey_1 rfl rfl (om_568 hix hj0) (om_569 hix hjI hLI)
  refine va_sld hx hb hX hbl hbA hS (i := y_1) (ki_in (om_570 hix hj0 i_1) (om_571 hix hjI i_1)) dL_law_624 ?_
  refine lv_topi (fun y_2 ey_2 => ?_)
  refine lv_aload_n hx hb dL_law_625 rfl (lv_at hl 4 rfl) ?_
  refine lv_iload hx hb dL_law_626 (lv_at hl 0 rfl) ?_
  refine lv_iconst (v := 2) hx hb dL_law_628 (by decide) ?_
  refine lv_iadd hx hb dL_law_629 ?_
  refine lv_topi (fun y_3 ey_3 => ?_)
  have i_3 : y_3.toInt = ix.toInt + 2 := ki_add ey_3 rfl rfl (om_572 hix hj0) (om_573 hix hjI hLI)
  refine va_sld hx hb hX hbl hbA hS (i := y_3) (ki_in (om_574 hix hj0 i_3) (om_575 hix hjI i_3)) dL_law_630 ?_
  refine lv_topi (fun y_4 ey_4 => ?_)
  have hPc := hP.sub (ws' := [kx_4 xm_ xq_row xq_t xt_ xh0 xk0 xw_ xz_ slots old, kx_0 xq_row xq_cell len, kx_a xq_cell cyI 160 f]) [0, 2, 3] rfl
  have hKc := hK.sub (tys' := [(cyI, .int)]) [0] rfl
  refine vp_callSi (W.runV (As := [.int y_2, .int y_4]) (rest := []) ⟨hx, hb, hml, hown, (lwC_X4_place hts0)⟩ (c_X4_place l dC dI xm_ xq_row xq_t xt_ xh0 xk0 xw_ xz_ slots old xq_cell cyI len f y_2 y_4 I0 I1) (cwV 2 (lwC_X4_place hts0) lwG_X4_place rfl rfl rfl (by decide +kernel) ⟨Nat.le_of_ble_eq_true rfl, Nat.le_of_ble_eq_true rfl⟩) ⟨fun a U g mk q => by obtain ⟨q0, qP, qK⟩ := q; exact ⟨q0, qP, va_K.moved (u := U) (U := U.calling g mk a) (Vm.Alike.refl U.vm) qK⟩, kx_rc4 hKc hPc (q0 := 0) rfl, fun U hU hW => ⟨rfl, by rw [hU]; exact hPc, va_K.moved hW.alike hKc⟩⟩ rfl rfl hl.1 rfl (lv_room (Nat.le_of_ble_eq_true rfl)) dL_law_631 (lw_fitJ hj hL (Nat.le_of_ble_eq_true rfl) (Nat.le_of_ble_eq_true rfl))) (fun r_5 w_5 => ?_)
  refine lv_pop hx hb dL_law_634 rfl ?_
  refine lv_aload_n hx hb dL_law_635 rfl (lv_at hl 2 rfl) ?_
  refine lv_aload_n hx hb dL_law_636 rfl (lv_at hl 4 rfl) ?_
  refine lv_iload hx hb dL_law_637 (lv_at hl 0 rfl) ?_
  refine lv_iconst (v := 1) hx hb dL_law_639 (by decide) ?_
  refine lv_iadd hx hb dL_law_640 ?_
  refine lv_topi (fun y_6 ey_6 => ?_)
  have i_6 : y_6.toInt = ix.toInt + 1 := ki_add ey_6 rfl rfl (om_568 hix hj0) (om_569 hix hjI hLI)
  refine va_sld hx hb hX hbl hbA hS (i := y_6) (ki_in (om_570 hix hj0 i_6) (om_571 hix hjI i_6)) dL_law_641 ?_
  refine lv_topi (fun y_7 ey_7 => ?_)
  have qy_7 : y_2 = y_7 := by rw [ey_2, ey_7, ki_nateq (show y_1.toInt = y_6.toInt from (om_576 i_1 i_6))]
  subst qy_7
  refine lv_aload_n hx hb dL_law_642 rfl (lv_at hl 4 rfl) ?_
  refine lv_iload hx hb dL_law_643 (lv_at hl 0 rfl) ?_
  refine lv_iconst (v := 2) hx hb dL_law_645 (by decide) ?_
  refine lv_iadd hx hb dL_law_646 ?_
  refine lv_topi (fun y_8 ey_8 => ?_)
  have i_8 : y_8.toInt = ix.toInt + 2 := ki_add ey_8 rfl rfl (om_572 hix hj0) (om_573 hix hjI hLI)
  refine va_sld hx hb hX hbl hbA hS (i := y_8) (ki_in (om_574 hix hj0 i_8) (om_575 hix hjI i_8)) dL_law_647 ?_
  refine lv_topi (fun y_9 ey_9 => ?_)
  have qy_9 : y_4 = y_9 := by rw [ey_4, ey_9, ki_nateq (show y_3.toInt = y_8.toInt from (om_577 i_3 i_8))]
  subst qy_9
  obtain ⟨hPc, hDc, hFc, hCc⟩ := kx_preM (wc := [kx_5 yh0 yg_row len slots u_thrown yg_many yg_loss yg_less yg_voteValue yg_voteNumber yg_allValue yg_allNumber u_allMany yg_nodeL yg_nodeR u_nodes yg_part u_partMany yg_wasMany yg_wasLoss yg_wasValue yg_wasNumber yg_path u_pathMany yg_heavyValue yg_heavyTimes u_heavyMany yg_fewest yg_which yg_met u_mostMet, kx_a yg_row cyI 160 f]) hP hD hS hA [false, false, false, false, false, false, false, false, false, false, false, false, false, false, false, false, false, false, false, false, false, false, false, false, false, true, true, false, false, false, false, false, false, false, false, false, false, false, false, false, false, false, false, false, false, false, false, false] rfl
  have hKc := hK.sub (tys' := [(cyI, .int)]) [0] rfl
  refine va_calli (va_runV (As := [.int y_2, .int y_4]) (rest := []) ⟨hx, hb, hml, hown, (lwC_X5_place hts0)⟩ (kx_un (c_X5_place l dC dI yh0 yg_row yg_many yg_loss yg_less yg_voteValue yg_voteNumber yg_allValue yg_allNumber yg_nodeL yg_nodeR yg_part yg_wasMany yg_wasLoss yg_wasValue yg_wasNumber yg_path yg_heavyValue yg_heavyTimes yg_fewest yg_which yg_met len slots u_thrown u_allMany u_nodes u_partMany u_pathMany u_heavyMany u_mostMet cyI f y_2 y_4 H.size I0 I1)) (cwV 2 (lwC_X5_place hts0) lwG_X5_place rfl rfl rfl (by decide +kernel) ⟨Nat.le_of_ble_eq_true rfl, Nat.le_of_ble_eq_true rfl⟩) ⟨fun a U g mk q => by obtain ⟨q0, q1, qP, qK, qD⟩ := q; exact ⟨q0, q1, qP, va_K.moved (u := U) (U := U.calling g mk a) (Vm.Alike.refl U.vm) qK, qD⟩, kx_rc5 hKc hPc (q0 := 0) rfl, fun U hU hW => ⟨rfl, by rw [hU], by rw [hU]; exact hPc, va_K.moved hW.alike hKc, hDc.weaken (fun _ _ _ _ => trivial)⟩⟩ rfl rfl hl.1 rfl (lv_room (Nat.le_of_ble_eq_true rfl)) dL_law_648 (lw_fitJ hj hL (Nat.le_of_ble_eq_true rfl) (Nat.le_of_ble_eq_true rfl))) hS (fun q _ h => hFc q h) hFc (fun r_10 u t H1 locs ht hvm w_10 hB hz1 hk1 hS => ?_)
  obtain ⟨hP1, hK1, hD1⟩ := hB
  rw [ht] at hP1
  have hK1 := va_K.moved hvm.symm hK1
  obtain ⟨hP, hD⟩ := kx_joinM (w2 := [kx_4 xm_ xq_row xq_t xt_ xh0 xk0 xw_ xz_ slots old, kx_2 xq_t xq_row xq_joined xq_from xq_to xq_size xq_lossOf xq_lessBy xq_value xq_number nodes here, kx_0 xq_row xq_cell len, kx_a xq_cell cyI 160 f, kx_a xq_from cyI 319 ff, kx_a xq_to cyI 319 ft, kx_a xq_size cyI 319 fs, kx_a xq_lossOf cyI 319 fo, kx_a xq_lessBy cyI 319 fe, kx_a xq_value cyI 1914 uv, kx_a xq_number cyI 1914 un, kx_3 xq_joined xj_v xj_n js jl je, kx_a xj_v cyI 12 jv, kx_a xj_n cyI 12 jn, kx_3 xh0 xa_v xa_n vs lo le, kx_a xa_v cyI 12 fv, kx_a xa_n cyI 12 fn, kx_3 xk0 xkv xkn sb lb eb, kx_a xkv cyI 12 gb, kx_a xkn cyI 12 nb, kx_1 xt_ xt_k xt_o tk mo, kx_a xt_k cyI 160 fk, kx_a xt_o cyI 160 fq, kx_a xw_ cyI 160 fw, kx_a xz_ cyI 161 fz, kx_5 yh0 yg_row len slots 0 yg_many yg_loss yg_less yg_voteValue yg_voteNumber yg_allValue yg_allNumber u_allMany yg_nodeL yg_nodeR u_nodes yg_part u_partMany yg_wasMany yg_wasLoss yg_wasValue yg_wasNumber yg_path u_pathMany yg_heavyValue yg_heavyTimes u_heavyMany yg_fewest yg_which yg_met u_mostMet, kx_a yg_row cyI 160 f, kx_a yg_many cyI 324 u_many, kx_a yg_loss cyI 324 u_loss, kx_a yg_less cyI 324 u_less, kx_a yg_voteValue cyI 1944 u_voteValue, kx_a yg_voteNumber cyI 1944 u_voteNumber, kx_a yg_allValue cyI 12 u_allValue, kx_a yg_allNumber cyI 12 u_allNumber, kx_a yg_nodeL cyI 320 u_nodeL, kx_a yg_nodeR cyI 320 u_nodeR, kx_a yg_part cyI 320 u_part, kx_a yg_wasMany cyI 320 u_wasMany, kx_a yg_wasLoss cyI 320 u_wasLoss, kx_a yg_wasValue cyI 1920 u_wasValue, kx_a yg_wasNumber cyI 1920 u_wasNumber, kx_a yg_path cyI 12 u_path, kx_a yg_heavyValue cyI 160 u_heavyValue, kx_a yg_heavyTimes cyI 160 u_heavyTimes, kx_a yg_fewest cyI 161 u_fewest, kx_a yg_which cyI 160 u_which, kx_a yg_met cyI 160 u_met, (q_o, .inl (cyL, 1, .inr (.inl ol)))]) hP hD hP1 hD1 hk1 hFc [false, false, false, false, false, false, false, false, false, false, false, false, false, false, false, false, false, false, false, false, false, false, false, false, false, true, true, false, false, false, false, false, false, false, false, false, false, false, false, false, false, false, false, false, false, false, false, false] hCc rfl
  clear hP1 hD1 hK1 hk1 hz1 hFc hDc hPc hKc hCc
  generalize H1 = H at hP hS ⊢
  refine lv_pop hx hb dL_law_651 rfl ?_
  refine lv_goto (tgt := 2288) hx hb dL_law_652 (by decide) ?_
  obtain ⟨x_11, ex_11⟩ : ∃ y : Int32, y = ix + 8 := ⟨_, rfl⟩
  have i_11 : x_11.toInt = ix.toInt + 8 := ki_add ex_11 rfl rfl (om_578 hix hj0) (om_579 hix hjI hLI)
  refine lv_iinc (v := x_11) (lv' := [(4, .int x_11), (3, .ref q_o), (2, .ref yh0), (1, .ref xm_), (0, .ref b)]) hx hb dL_law_2288 hl (k := 0) rfl (by rw [ex_11]; rfl) (by decide) rfl (fun ls hl => ?_)
  refine lv_goto (tgt := 23) hx hb dL_law_2291 (by decide) ?_
  refine W.widen (k := 60 + 2 * (j + 1)) (n := 20000 + 12 * (j + 1)) (lw_wdC (k := 0) (Nat.le_of_ble_eq_true rfl)) (lw_wdS (k := 0) (Nat.le_of_ble_eq_true rfl)) ?_
  have k_12 : (0 : Int32).toInt = 0 := rfl
  exact ih len slots old nodes here js jl je vs lo le sb lb eb tk mo 0 u_allMany u_nodes u_partMany u_pathMany u_heavyMany u_mostMet f ff ft fs fo fe uv un jv jn fv fn gb nb fk fq fw fz u_many u_loss u_less u_voteValue u_voteNumber u_allValue u_allNumber u_nodeL u_nodeR u_part u_wasMany u_wasLoss u_wasValue u_wasNumber u_path u_heavyValue u_heavyTimes u_fewest u_which u_met ol x_11 (om_ix i_11 hix) I0 I1 I2 I3 I4 I5 I6 I7 I8 _ _ ls hP hD hS (lv_sub hl [0, 1, 2, 3, 4] rfl)

set_option maxHeartbeats 4000000 in
set_option maxRecDepth 100000 in
theorem lc_12 {p : Program} {l : Launch} {e : Env} {s : State} {m : MethodId} {below : List Frame} {meth : Method} {c : Code} {dC : Nat → ClassId} {dI : Nat → Nat → Nat} {b : Nat} {xs : Nat → Int32} (hl0 : l.stackTraces = false) {L j : Nat} (hL : L ≤ 4096) (hj : 8 * j + 8 ≤ L) (C0 : lw_At p s m meth c b L xs) (hth : ki_ThA (fun q : Nat => s.heap.size ≤ q) s) {cyI cyL : ClassId} {xm_ xq_t xq_row xq_cell xq_from xq_to xq_size xq_lossOf xq_lessBy xq_value xq_number xq_joined xj_v xj_n xh0 xa_v xa_n xk0 xkv xkn xt_ xt_k xt_o xw_ xz_ yh0 yg_row yg_many yg_loss yg_less yg_voteValue yg_voteNumber yg_allValue yg_allNumber yg_nodeL yg_nodeR yg_part yg_wasMany yg_wasLoss yg_wasValue yg_wasNumber yg_path yg_heavyValue yg_heavyTimes yg_fewest yg_which yg_met q_o : Nat} (hK : va_K (dC, dI) vwCl [(cyI, .int), (cyL, .long)] s) (ih : lw_G p l e s m below meth c b dC dI cyI cyL xm_ xq_t xq_row xq_cell xq_from xq_to xq_size xq_lossOf xq_lessBy xq_value xq_number xq_joined xj_v xj_n xh0 xa_v xa_n xk0 xkv xkn xt_ xt_k xt_o xw_ xz_ yh0 yg_row yg_many yg_loss yg_less yg_voteValue yg_voteNumber yg_allValue yg_allNumber yg_nodeL yg_nodeR yg_part yg_wasMany yg_wasLoss yg_wasValue yg_wasNumber yg_path yg_heavyValue yg_heavyTimes yg_fewest yg_which yg_met q_o (j + 1)) {len slots old nodes here js jl je vs lo le sb lb eb tk mo u_thrown u_allMany u_nodes u_partMany u_pathMany u_heavyMany u_mostMet ix : Int32} {f ff ft fs fo fe uv un jv jn fv fn gb nb fk fq fw fz u_many u_loss u_less u_voteValue u_voteNumber u_allValue u_allNumber u_nodeL u_nodeR u_part u_wasMany u_wasLoss u_wasValue u_wasNumber u_path u_heavyValue u_heavyTimes u_fewest u_which u_met : Nat → Int32} {ol : Nat → Int64} (hix : ix.toInt = 8 * (j : Int)) (I0 : 0 ≤ len.toInt) (I1 : len.toInt ≤ 160) (I2 : 1 ≤ slots.toInt) (I3 : slots.toInt ≤ 6) (I4 : shorts f) (I5 : sixes fs) (I6 : laidX old slots here f ff ft fs fo fe uv un nodes len) (I7 : six4 u_many) (I8 : parts320 u_part) {H : Heap} {locs : List Loc} (hP : va_P (dC, dI) vwCl [kx_4 xm_ xq_row xq_t xt_ xh0 xk0 xw_ xz_ slots old, kx_2 xq_t xq_row xq_joined xq_from xq_to xq_size xq_lossOf xq_lessBy xq_value xq_number nodes here, kx_0 xq_row xq_cell len, kx_a xq_cell cyI 160 f, kx_a xq_from cyI 319 ff, kx_a xq_to cyI 319 ft, kx_a xq_size cyI 319 fs, kx_a xq_lossOf cyI 319 fo, kx_a xq_lessBy cyI 319 fe, kx_a xq_value cyI 1914 uv, kx_a xq_number cyI 1914 un, kx_3 xq_joined xj_v xj_n js jl je, kx_a xj_v cyI 12 jv, kx_a xj_n cyI 12 jn, kx_3 xh0 xa_v xa_n vs lo le, kx_a xa_v cyI 12 fv, kx_a xa_n cyI 12 fn, kx_3 xk0 xkv xkn sb lb eb, kx_a xkv cyI 12 gb, kx_a xkn cyI 12 nb, kx_1 xt_ xt_k xt_o tk mo, kx_a xt_k cyI 160 fk, kx_a xt_o cyI 160 fq, kx_a xw_ cyI 160 fw, kx_a xz_ cyI 161 fz, kx_5 yh0 yg_row len slots u_thrown yg_many yg_loss yg_less yg_voteValue yg_voteNumber yg_allValue yg_allNumber u_allMany yg_nodeL yg_nodeR u_nodes yg_part u_partMany yg_wasMany yg_wasLoss yg_wasValue yg_wasNumber yg_path u_pathMany yg_heavyValue yg_heavyTimes u_heavyMany yg_fewest yg_which yg_met u_mostMet, kx_a yg_row cyI 160 f, kx_a yg_many cyI 324 u_many, kx_a yg_loss cyI 324 u_loss, kx_a yg_less cyI 324 u_less, kx_a yg_voteValue cyI 1944 u_voteValue, kx_a yg_voteNumber cyI 1944 u_voteNumber, kx_a yg_allValue cyI 12 u_allValue, kx_a yg_allNumber cyI 12 u_allNumber, kx_a yg_nodeL cyI 320 u_nodeL, kx_a yg_nodeR cyI 320 u_nodeR, kx_a yg_part cyI 320 u_part, kx_a yg_wasMany cyI 320 u_wasMany, kx_a yg_wasLoss cyI 320 u_wasLoss, kx_a yg_wasValue cyI 1920 u_wasValue, kx_a yg_wasNumber cyI 1920 u_wasNumber, kx_a yg_path cyI 12 u_path, kx_a yg_heavyValue cyI 160 u_heavyValue, kx_a yg_heavyTimes cyI 160 u_heavyTimes, kx_a yg_fewest cyI 161 u_fewest, kx_a yg_which cyI 160 u_which, kx_a yg_met cyI 160 u_met, (q_o, .inl (cyL, 1, .inr (.inl ol)))] H) (hD : va_D (fun q : Nat => s.heap.size ≤ q) [kx_4 xm_ xq_row xq_t xt_ xh0 xk0 xw_ xz_ slots old, kx_2 xq_t xq_row xq_joined xq_from xq_to xq_size xq_lossOf xq_lessBy xq_value xq_number nodes here, kx_0 xq_row xq_cell len, kx_a xq_cell cyI 160 f, kx_a xq_from cyI 319 ff, kx_a xq_to cyI 319 ft, kx_a xq_size cyI 319 fs, kx_a xq_lossOf cyI 319 fo, kx_a xq_lessBy cyI 319 fe, kx_a xq_value cyI 1914 uv, kx_a xq_number cyI 1914 un, kx_3 xq_joined xj_v xj_n js jl je, kx_a xj_v cyI 12 jv, kx_a xj_n cyI 12 jn, kx_3 xh0 xa_v xa_n vs lo le, kx_a xa_v cyI 12 fv, kx_a xa_n cyI 12 fn, kx_3 xk0 xkv xkn sb lb eb, kx_a xkv cyI 12 gb, kx_a xkn cyI 12 nb, kx_1 xt_ xt_k xt_o tk mo, kx_a xt_k cyI 160 fk, kx_a xt_o cyI 160 fq, kx_a xw_ cyI 160 fw, kx_a xz_ cyI 161 fz, kx_5 yh0 yg_row len slots u_thrown yg_many yg_loss yg_less yg_voteValue yg_voteNumber yg_allValue yg_allNumber u_allMany yg_nodeL yg_nodeR u_nodes yg_part u_partMany yg_wasMany yg_wasLoss yg_wasValue yg_wasNumber yg_path u_pathMany yg_heavyValue yg_heavyTimes u_heavyMany yg_fewest yg_which yg_met u_mostMet, kx_a yg_row cyI 160 f, kx_a yg_many cyI 324 u_many, kx_a yg_loss cyI 324 u_loss, kx_a yg_less cyI 324 u_less, kx_a yg_voteValue cyI 1944 u_voteValue, kx_a yg_voteNumber cyI 1944 u_voteNumber, kx_a yg_allValue cyI 12 u_allValue, kx_a yg_allNumber cyI 12 u_allNumber, kx_a yg_nodeL cyI 320 u_nodeL, kx_a yg_nodeR cyI 320 u_nodeR, kx_a yg_part cyI 320 u_part, kx_a yg_wasMany cyI 320 u_wasMany, kx_a yg_wasLoss cyI 320 u_wasLoss, kx_a yg_wasValue cyI 1920 u_wasValue, kx_a yg_wasNumber cyI 1920 u_wasNumber, kx_a yg_path cyI 12 u_path, kx_a yg_heavyValue cyI 160 u_heavyValue, kx_a yg_heavyTimes cyI 160 u_heavyTimes, kx_a yg_fewest cyI 161 u_fewest, kx_a yg_which cyI 160 u_which, kx_a yg_met cyI 160 u_met, (q_o, .inl (cyL, 1, .inr (.inl ol)))]) (hS : va_S (fun q : Nat => s.heap.size ≤ q) s.heap H locs) {ls : Array Slot} (hl : lv_has ls 7 [(4, .int ix), (3, .ref q_o), (2, .ref yh0), (1, .ref xm_), (0, .ref b)]) : W p l e room_1 s m #[Value.ref b] below meth c H locs (60 + 2 * j) (20000 + 12 * j) (lw_Z below #[Value.ref b] s) (F0 m 655 ls []) := by
  obtain ⟨hx, hb, hr, hml, hown, hts0, hX, hbl, hlocks, hgv⟩ := id C0
  have hts := hts0
  have hA : ∀ q : Nat, s.heap.size ≤ q → (fun q : Nat => s.heap.size ≤ q) q := fun _ h => h
  have hbA : ¬ (fun q : Nat => s.heap.size ≤ q) b := Nat.not_le.mpr hbl
  have hown : s.vm.findClass RL = some m.cls := hown
  have hb : c.code = cL_law := hb
  have hj0 : 0 ≤ (j : Int) := Int.natCast_nonneg j
  have hjI : 8 * (j : Int) + 8 ≤ (L : Int) := lw_jI hj
  have hLI : (L : Int) ≤ 4096 := lw_LI hL
  refine lv_aload_n hx hb dL_law_655 rfl (lv_at hl 3 rfl) ?_
  obtain ⟨hPc, hDc, hFc, hCc⟩ := kx_preM (wc := [kx_4 xm_ xq_row xq_t xt_ xh0 xk0 xw_ xz_ slots old, kx_0 xq_row xq_cell len, kx_a xq_cell cyI 160 f, kx_1 xt_ xt_k xt_o tk mo, kx_a xt_k cyI 160 fk, kx_a xt_o cyI 160 fq]) hP hD hS hA [true, false, true, true, false, false, false, false, false, false, false, false, false, false, false, false, false, false, false, false, true, true, true, false, false, false, false, false, false, false, false, false, false, false, false, false, false, false, false, false, false, false, false, false, false, false, false, false] rfl
  have hKc := hK.sub (tys' := [(cyI, .int)]) [0] rfl
  refine va_calli (va_runV (As := []) (rest := []) ⟨hx, hb, hml, hown, (lwC_X4_values hts0)⟩ (kx_un (c_X4_values l dC dI xm_ xq_row xq_t xt_ xh0 xk0 xw_ xz_ slots old xq_cell cyI len f xt_k xt_o tk mo fk fq H.size I0 I1)) (cwV 0 (lwC_X4_values hts0) lwG_X4_values rfl rfl rfl (by decide +kernel) ⟨Nat.le_of_ble_eq_true rfl, Nat.le_of_ble_eq_true rfl⟩) ⟨fun a U g mk q => by obtain ⟨q0, q1, qP, qK, qD⟩ := q; exact ⟨q0, q1, qP, va_K.moved (u := U) (U := U.calling g mk a) (Vm.Alike.refl U.vm) qK, qD⟩, kx_rc4 hKc hPc (q0 := 0) rfl, fun U hU hW => ⟨rfl, by rw [hU], by rw [hU]; exact hPc, va_K.moved hW.alike hKc, hDc.weaken (fun _ _ _ _ => trivial)⟩⟩ rfl rfl hl.1 rfl (lv_room (Nat.le_of_ble_eq_true rfl)) dL_law_656 (lw_fitJ hj hL (Nat.le_of_ble_eq_true rfl) (Nat.le_of_ble_eq_true rfl))) hS (fun q _ h => hFc q h) hFc (fun r_1 u t H1 locs ht hvm w_1 hB hz1 hk1 hS => ?_)
  obtain ⟨o_2, o_3, o_4, o_5⟩ := u
  dsimp only at w_1 hB
  obtain ⟨hP1, hK1, hD1⟩ := hB
  rw [ht] at hP1
  have hK1 := va_K.moved hvm.symm hK1
  obtain ⟨hP, hD⟩ := kx_joinM (w2 := [kx_4 xm_ xq_row xq_t xt_ xh0 xk0 xw_ xz_ slots old, kx_2 xq_t xq_row xq_joined xq_from xq_to xq_size xq_lossOf xq_lessBy xq_value xq_number nodes here, kx_0 xq_row xq_cell len, kx_a xq_cell cyI 160 f, kx_a xq_from cyI 319 ff, kx_a xq_to cyI 319 ft, kx_a xq_size cyI 319 fs, kx_a xq_lossOf cyI 319 fo, kx_a xq_lessBy cyI 319 fe, kx_a xq_value cyI 1914 uv, kx_a xq_number cyI 1914 un, kx_3 xq_joined xj_v xj_n js jl je, kx_a xj_v cyI 12 jv, kx_a xj_n cyI 12 jn, kx_3 xh0 xa_v xa_n vs lo le, kx_a xa_v cyI 12 fv, kx_a xa_n cyI 12 fn, kx_3 xk0 xkv xkn sb lb eb, kx_a xkv cyI 12 gb, kx_a xkn cyI 12 nb, kx_1 xt_ xt_k xt_o o_2 o_3, kx_a xt_k cyI 160 o_4, kx_a xt_o cyI 160 o_5, kx_a xw_ cyI 160 fw, kx_a xz_ cyI 161 fz, kx_5 yh0 yg_row len slots u_thrown yg_many yg_loss yg_less yg_voteValue yg_voteNumber yg_allValue yg_allNumber u_allMany yg_nodeL yg_nodeR u_nodes yg_part u_partMany yg_wasMany yg_wasLoss yg_wasValue yg_wasNumber yg_path u_pathMany yg_heavyValue yg_heavyTimes u_heavyMany yg_fewest yg_which yg_met u_mostMet, kx_a yg_row cyI 160 f, kx_a yg_many cyI 324 u_many, kx_a yg_loss cyI 324 u_loss, kx_a yg_less cyI 324 u_less, kx_a yg_voteValue cyI 1944 u_voteValue, kx_a yg_voteNumber cyI 1944 u_voteNumber, kx_a yg_allValue cyI 12 u_allValue, kx_a yg_allNumber cyI 12 u_allNumber, kx_a yg_nodeL cyI 320 u_nodeL, kx_a yg_nodeR cyI 320 u_nodeR, kx_a yg_part cyI 320 u_part, kx_a yg_wasMany cyI 320 u_wasMany, kx_a yg_wasLoss cyI 320 u_wasLoss, kx_a yg_wasValue cyI 1920 u_wasValue, kx_a yg_wasNumber cyI 1920 u_wasNumber, kx_a yg_path cyI 12 u_path, kx_a yg_heavyValue cyI 160 u_heavyValue, kx_a yg_heavyTimes cyI 160 u_heavyTimes, kx_a yg_fewest cyI 161 u_fewest, kx_a yg_which cyI 160 u_which, kx_a yg_met cyI 160 u_met, (q_o, .inl (cyL, 1, .inr (.inl ol)))]) hP hD hP1 hD1 hk1 hFc [true, false, true, true, false, false, false, false, false, false, false, false, false, false, false, false, false, false, false, false, true, true, true, false, false, false, false, false, false, false, false, false, false, false, false, false, false, false, false, false, false, false, false, false, false, false, false, false] hCc rfl
  clear hP1 hD1 hK1 hk1 hz1 hFc hDc hPc hKc hCc
  generalize H1 = H at hP hS ⊢
  have w_1 : True := w_1
  refine lv_pop hx hb dL_law_659 rfl ?_
  refine lv_aload_n hx hb dL_law_660 rfl (lv_at hl 2 rfl) ?_
  obtain ⟨hPc, hDc, hFc, hCc⟩ := kx_preM (wc := [kx_5 yh0 yg_row len slots u_thrown yg_many yg_loss yg_less yg_voteValue yg_voteNumber yg_allValue yg_allNumber u_allMany yg_nodeL yg_nodeR u_nodes yg_part u_partMany yg_wasMany yg_wasLoss yg_wasValue yg_wasNumber yg_path u_pathMany yg_heavyValue yg_heavyTimes u_heavyMany yg_fewest yg_which yg_met u_mostMet, kx_a yg_row cyI 160 f]) hP hD hS hA [false, false, false, false, false, false, false, false, false, false, false, false, false, false, false, false, false, false, false, false, false, false, false, false, false, true, true, false, false, false, false, false, false, false, false, false, false, false, false, false, false, false, false, false, false, false, false, false] rfl
  have hKc := hK.sub (tys' := [(cyI, .int)]) [0] rfl
  refine va_calli (va_runV (As := []) (rest := []) ⟨hx, hb, hml, hown, (lwC_X5_values hts0)⟩ (kx_un (c_X5_values l dC dI yh0 yg_row yg_many yg_loss yg_less yg_voteValue yg_voteNumber yg_allValue yg_allNumber yg_nodeL yg_nodeR yg_part yg_wasMany yg_wasLoss yg_wasValue yg_wasNumber yg_path yg_heavyValue yg_heavyTimes yg_fewest yg_which yg_met len slots u_thrown u_allMany u_nodes u_partMany u_pathMany u_heavyMany u_mostMet cyI f H.size I0 I1)) (cwV 0 (lwC_X5_values hts0) lwG_X5_values rfl rfl rfl (by decide +kernel) ⟨Nat.le_of_ble_eq_true rfl, Nat.le_of_ble_eq_true rfl⟩) ⟨fun a U g mk q => by obtain ⟨q0, q1, qP, qK, qD⟩ := q; exact ⟨q0, q1, qP, va_K.moved (u := U) (U := U.calling g mk a) (Vm.Alike.refl U.vm) qK, qD⟩, kx_rc5 hKc hPc (q0 := 0) rfl, fun U hU hW => ⟨rfl, by rw [hU], by rw [hU]; exact hPc, va_K.moved hW.alike hKc, hDc.weaken (fun _ _ _ _ => trivial)⟩⟩ rfl rfl hl.1 rfl (lv_room (Nat.le_of_ble_eq_true rfl)) dL_law_661 (lw_fitJ hj hL (Nat.le_of_ble_eq_true rfl) (Nat.le_of_ble_eq_true rfl))) hS (fun q _ h => hFc q h) hFc (fun r_6 u t H1 locs ht hvm w_6 hB hz1 hk1 hS => ?_)
  obtain ⟨hP1, hK1, hD1⟩ := hB
  rw [ht] at hP1
  have hK1 := va_K.moved hvm.symm hK1
  obtain ⟨hP, hD⟩ := kx_joinM (w2 := [kx_4 xm_ xq_row xq_t xt_ xh0 xk0 xw_ xz_ slots old, kx_2 xq_t xq_row xq_joined xq_from xq_to xq_size xq_lossOf xq_lessBy xq_value xq_number nodes here, kx_0 xq_row xq_cell len, kx_a xq_cell cyI 160 f, kx_a xq_from cyI 319 ff, kx_a xq_to cyI 319 ft, kx_a xq_size cyI 319 fs, kx_a xq_lossOf cyI 319 fo, kx_a xq_lessBy cyI 319 fe, kx_a xq_value cyI 1914 uv, kx_a xq_number cyI 1914 un, kx_3 xq_joined xj_v xj_n js jl je, kx_a xj_v cyI 12 jv, kx_a xj_n cyI 12 jn, kx_3 xh0 xa_v xa_n vs lo le, kx_a xa_v cyI 12 fv, kx_a xa_n cyI 12 fn, kx_3 xk0 xkv xkn sb lb eb, kx_a xkv cyI 12 gb, kx_a xkn cyI 12 nb, kx_1 xt_ xt_k xt_o o_2 o_3, kx_a xt_k cyI 160 o_4, kx_a xt_o cyI 160 o_5, kx_a xw_ cyI 160 fw, kx_a xz_ cyI 161 fz, kx_5 yh0 yg_row len slots 0 yg_many yg_loss yg_less yg_voteValue yg_voteNumber yg_allValue yg_allNumber u_allMany yg_nodeL yg_nodeR u_nodes yg_part u_partMany yg_wasMany yg_wasLoss yg_wasValue yg_wasNumber yg_path u_pathMany yg_heavyValue yg_heavyTimes u_heavyMany yg_fewest yg_which yg_met u_mostMet, kx_a yg_row cyI 160 f, kx_a yg_many cyI 324 u_many, kx_a yg_loss cyI 324 u_loss, kx_a yg_less cyI 324 u_less, kx_a yg_voteValue cyI 1944 u_voteValue, kx_a yg_voteNumber cyI 1944 u_voteNumber, kx_a yg_allValue cyI 12 u_allValue, kx_a yg_allNumber cyI 12 u_allNumber, kx_a yg_nodeL cyI 320 u_nodeL, kx_a yg_nodeR cyI 320 u_nodeR, kx_a yg_part cyI 320 u_part, kx_a yg_wasMany cyI 320 u_wasMany, kx_a yg_wasLoss cyI 320 u_wasLoss, kx_a yg_wasValue cyI 1920 u_wasValue, kx_a yg_wasNumber cyI 1920 u_wasNumber, kx_a yg_path cyI 12 u_path, kx_a yg_heavyValue cyI 160 u_heavyValue, kx_a yg_heavyTimes cyI 160 u_heavyTimes, kx_a yg_fewest cyI 161 u_fewest, kx_a yg_which cyI 160 u_which, kx_a yg_met cyI 160 u_met, (q_o, .inl (cyL, 1, .inr (.inl ol)))]) hP hD hP1 hD1 hk1 hFc [false, false, false, false, false, false, false, false, false, false, false, false, false, false, false, false, false, false, false, false, false, false, false, false, false, true, true, false, false, false, false, false, false, false, false, false, false, false, false, false, false, false, false, false, false, false, false, false] hCc rfl
  clear hP1 hD1 hK1 hk1 hz1 hFc hDc hPc hKc hCc
  generalize H1 = H at hP hS ⊢
  refine lv_pop hx hb dL_law_664 rfl ?_
  refine lv_goto (tgt := 2288) hx hb dL_law_665 (by decide) ?_
  obtain ⟨x_7, ex_7⟩ : ∃ y : Int32, y = ix + 8 := ⟨_, rfl⟩
  have i_7 : x_7.toInt = ix.toInt + 8 := ki_add ex_7 rfl rfl (om_578 hix hj0) (om_579 hix hjI hLI)
  refine lv_iinc (v := x_7) (lv' := [(4, .int x_7), (3, .ref q_o), (2, .ref yh0), (1, .ref xm_), (0, .ref b)]) hx hb dL_law_2288 hl (k := 0) rfl (by rw [ex_7]; rfl) (by decide) rfl (fun ls hl => ?_)
  refine lv_goto (tgt := 23) hx hb dL_law_2291 (by decide) ?_
  refine W.widen (k := 60 + 2 * (j + 1)) (n := 20000 + 12 * (j + 1)) (lw_wdC (k := 0) (Nat.le_of_ble_eq_true rfl)) (lw_wdS (k := 0) (Nat.le_of_ble_eq_true rfl)) ?_
  have k_8 : (0 : Int32).toInt = 0 := rfl
  exact ih len slots old nodes here js jl je vs lo le sb lb eb o_2 o_3 0 u_allMany u_nodes u_partMany u_pathMany u_heavyMany u_mostMet f ff ft fs fo fe uv un jv jn fv fn gb nb o_4 o_5 fw fz u_many u_loss u_less u_voteValue u_voteNumber u_allValue u_allNumber u_nodeL u_nodeR u_part u_wasMany u_wasLoss u_wasValue u_wasNumber u_path u_heavyValue u_heavyTimes u_fewest u_which u_met ol x_7 (om_ix i_7 hix) I0 I1 I2 I3 I4 I5 I6 I7 I8 _ _ ls hP hD hS (lv_sub hl [0, 1, 2, 3, 4] rfl)

