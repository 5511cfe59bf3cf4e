def mj_nb (V N : Nat → Int32) (v : Int32) : Nat → Nat → Int32
  | _, 0 => 0
  | s, n + 1 => if V s = v then N s else mj_nb V N v (s + 1) n
theorem mj_nb_miss {V N : Nat → Int32} {v : Int32} {s n n2 : Nat} (h : ¬ V s = v) (e : n = n2 + 1) : mj_nb V N v s n = mj_nb V N v (s + 1) n2 := by
  subst e
  simp only [mj_nb]
  rw [if_neg h]
theorem mj_nb_hit {V N : Nat → Int32} {v : Int32} {s n n2 : Nat} (h : V s = v) (e : n = n2 + 1) : mj_nb V N v s n = N s := by
  subst e
  simp only [mj_nb]
  rw [if_pos h]
theorem mj_nb_0 {V N : Nat → Int32} {v : Int32} {s n : Nat} (e : n = 0) : mj_nb V N v s n = 0 := by
  subst e
  rfl
def mj_lr (c : Int) (x r : Int32) : Prop := ∃ a : Int32, a.toInt = c ∧ r = a - x
def mj_sr (m n0 n1 v0 lo : Int32) : Int32 := if m.toInt = 0 then -40000 else if ((if 1 < m.toInt then n1 else 0) + lo).toInt < n0.toInt then v0 else -40000
set_option maxHeartbeats 4000000 in
set_option maxRecDepth 100000 in
theorem c_X3_numberOf_x (l : Launch) (dC : Nat → ClassId) (dI : Nat → Nat → Nat) (h0 : Nat) (a_v : Nat) (a_n : Nat) (cyI : ClassId) (vs : Int32) (lo : Int32) (le : Int32) (fv : Nat → Int32) (fn : Nat → Int32) (p0 : Int32) (a0 : 0 ≤ vs.toInt) (a1 : vs.toInt ≤ 12) : Met l yX3_numberOf wsX3_numberOf ({ frames := 0, cells := 0, slots := 0, locals := 0 }) (va_Pc [.ref h0, .int p0] (fun U => va_P (dC, dI) vwCl [kx_3 h0 a_v a_n vs lo le, kx_a a_v cyI 12 fv, kx_a a_n cyI 12 fn] U.heap ∧ va_K (dC, dI) vwCl [(cyI, .int)] U)) (vp_Si (fun r : Int32 => r = mj_nb fv fn p0 0 vs.toNatClampNeg)) 0 0 (fun _ => False) := by
  refine Met.ofW (cc := cX3_numberOf) (maxL := 3) (ret := (some .int)) (by decide) rfl ?_
  intro p e s m args below meth c s₁ B hml hv
  obtain ⟨rfl, hP, hK⟩ := hv
  have hx := B.exec
  have hb := B.bytes
  have hr := B.returns
  have hts := atoms_spec (ws := wsX3_numberOf) B.pre
  have hown : s.vm.findClass RX3 = some m.cls := findClass_of_methodNamed B.named
  have hlocks := B.notSynchronized
  have hP : va_P (dC, dI) vwCl [kx_3 h0 a_v a_n vs lo le, kx_a a_v cyI 12 fv, kx_a a_n cyI 12 fn] s.heap := hP
  have hl := lv_entry ([.ref h0, .int p0]) (n := 3) (Nat.le_of_ble_eq_true rfl)
  rw [lg_entry_eq]
  generalize (lg_sl ([.ref h0, .int p0]) ++ List.replicate (3 - (lg_sl ([.ref h0, .int p0])).length) Slot.unset).toArray = ls at hl ⊢
  have hl : lv_has ls 3 [(0, .ref h0), (1, .int p0)] := hl
  have hf_18 := hts (.fieldLink RX3 18 "MajorityIndex$Votes" "size" "I") (List.mem_of_getElem? (i := 1) rfl)
  have hi_3 : ∀ w ∈ u_ws RX3 TX3 5, w ∈ wsX3_numberOf := fun w h => List.mem_cons_of_mem _ (List.mem_append_right _ h)
  have hf_9 := hts (.fieldLink RX3 9 "MajorityIndex$Votes" "value" "[I") (List.mem_of_getElem? (i := 2) rfl)
  have hf_15 := hts (.fieldLink RX3 15 "MajorityIndex$Votes" "number" "[I") (List.mem_of_getElem? (i := 3) rfl)
  have n_vs := ki_nat vs rfl (by omega)
  refine lv_iconst (v := 0) hx hb dX3_numberOf_0 (by decide) ?_
  refine lv_istore_n (lv' := [(2, .int 0), (0, .ref h0), (1, .int p0)]) hx hb dX3_numberOf_1 rfl hl (by decide) rfl (fun ls hl => ?_)
  have LP1 : ∀ (n : Nat) (i : Int32), (0 ≤ i.toInt) → (mj_nb fv fn p0 0 vs.toNatClampNeg = mj_nb fv fn p0 i.toNatClampNeg (vs.toNatClampNeg - i.toNatClampNeg)) → (vs.toInt - i.toInt).toNat < n → ∀ (ls : Array Slot), lv_has ls 3 [(2, .int i), (0, .ref h0), (1, .int p0)] → W p l e (headSpec wsX3_numberOf ({ frames := 0, cells := 0, slots := 0, locals := 0 })).room s m ([.ref h0, .int p0] : List Value).toArray below meth c s.heap [] 0 0 (MQ below (vp_Si (fun r : Int32 => r = mj_nb fv fn p0 0 vs.toNatClampNeg)) ([.ref h0, .int p0] : List Value).toArray s 0 0 (fun _ => False)) (F0 m 2 ls []) := by
    intro n
    induction n with
    | zero => intro i LP1_h0 LP1_h1 hn; exact absurd hn (Nat.not_lt_zero _)
    | succ n ih1 =>
      intro i LP1_h0 LP1_h1 hn1 ls hl
      have n_i := ki_nat i rfl (by omega)
      refine lv_iload_n hx hb dX3_numberOf_2 rfl (lv_at hl 0 rfl) ?_
      refine lv_aload_n hx hb dX3_numberOf_3 rfl (lv_at hl 1 rfl) ?_
      refine va_get (D := (dC, dI)) (ci := 3) (v := .int vs) (C := RX3) (T := TX3) (N := 5) hx hb hts hi_3 hown hK hP 0 rfl rfl 2 (by decide) hf_18 (fun _ h9 => h9) rfl dX3_numberOf_4 ?_
      refine lv_icmp_ge (tgt := 33) hx hb dX3_numberOf_7 (by decide) (fun c_1 => ?_) (fun c_1 => ?_)
      · have i_1 : vs.toInt ≤ i.toInt := kc_le c_1
        refine lv_iconst (v := 0) hx hb dX3_numberOf_33 (by decide) ?_
        exact W.iret (v := 0) hx hb hr (fun t ht hW => ⟨0, rfl, (by (try dsimp only); rw [LP1_h1, mj_nb_0 (by (try dsimp only); omega)]), ht⟩) (fun q hq => by cases hq) dX3_numberOf_34
      · have i_1 : i.toInt < vs.toInt := kc_nle c_1
        refine lv_aload_n hx hb dX3_numberOf_10 rfl (lv_at hl 1 rfl) ?_
        refine va_get (D := (dC, dI)) (ci := 3) (v := .ref a_v) (C := RX3) (T := TX3) (N := 5) hx hb hts hi_3 hown hK hP 0 rfl rfl 0 (by decide) hf_9 (fun _ h9 => h9) rfl dX3_numberOf_11 ?_
        refine lv_iload_n hx hb dX3_numberOf_14 rfl (lv_at hl 0 rfl) ?_
        refine va_iald hx hb hK hP 1 0 rfl rfl (ki_in (by omega) (by omega)) dX3_numberOf_15 ?_
        refine lv_topi (fun y_2 ey_2 => ?_)
        have j_2 : y_2.toInt = (fv i.toNatClampNeg).toInt := congrArg Int32.toInt ey_2
        refine lv_iload_n hx hb dX3_numberOf_16 rfl (lv_at hl 2 rfl) ?_
        refine lv_icmp_ne (tgt := 27) hx hb dX3_numberOf_17 (by decide) (fun c_3 => ?_) (fun c_3 => ?_)
        · have i_3 : ¬ y_2.toInt = p0.toInt := kc_ne c_3
          obtain ⟨x_4, ex_4⟩ : ∃ y : Int32, y = i + 1 := ⟨_, rfl⟩
          have i_4 : x_4.toInt = i.toInt + 1 := ki_add ex_4 rfl rfl (by omega) (by omega)
          refine lv_iinc (v := x_4) (lv' := [(2, .int x_4), (0, .ref h0), (1, .int p0)]) hx hb dX3_numberOf_27 hl (k := 0) rfl (by rw [ex_4]; rfl) (by decide) rfl (fun ls hl => ?_)
          refine lv_goto (tgt := 2) hx hb dX3_numberOf_30 (by decide) ?_
          have n_5 := ki_nat x_4 rfl (by omega)
          exact ih1 x_4 (by omega) (by rw [LP1_h1, mj_nb_miss (n2 := vs.toNatClampNeg - x_4.toNatClampNeg) (fun h => c_3 (ey_2.trans h)) (by omega), show i.toNatClampNeg + 1 = x_4.toNatClampNeg by omega]) (by omega) ls (lv_sub hl [0, 1, 2] rfl)
        · have i_3 : y_2.toInt = p0.toInt := kc_eq c_3
          refine lv_aload_n hx hb dX3_numberOf_20 rfl (lv_at hl 1 rfl) ?_
          refine va_get (D := (dC, dI)) (ci := 3) (v := .ref a_n) (C := RX3) (T := TX3) (N := 5) hx hb hts hi_3 hown hK hP 0 rfl rfl 1 (by decide) hf_15 (fun _ h9 => h9) rfl dX3_numberOf_21 ?_
          refine lv_iload_n hx hb dX3_numberOf_24 rfl (lv_at hl 0 rfl) ?_
          refine va_iald hx hb hK hP 2 0 rfl rfl (ki_in (by omega) (by omega)) dX3_numberOf_25 ?_
          refine lv_topi (fun y_6 ey_6 => ?_)
          have j_6 : y_6.toInt = (fn i.toNatClampNeg).toInt := congrArg Int32.toInt ey_6
          exact W.iret (v := y_6) hx hb hr (fun t ht hW => ⟨y_6, rfl, (by (try dsimp only); rw [LP1_h1, mj_nb_hit (n2 := vs.toNatClampNeg - i.toNatClampNeg - 1) (ey_2.symm.trans c_3) (by (try dsimp only); omega), ey_6]), ht⟩) (fun q hq => by cases hq) dX3_numberOf_26
  have k_7 : (0 : Int32).toInt = 0 := rfl
  exact LP1 ((vs.toInt - 0 : Int).toNat + 1) 0 (by omega) rfl (Nat.lt_succ_self _) ls (lv_sub hl [0, 1, 2] rfl)

set_option maxHeartbeats 4000000 in
set_option maxRecDepth 100000 in
theorem c_X5_numberOf_x (l : Launch) (dC : Nat → ClassId) (dI : Nat → Nat → Nat) (h0 : Nat) (g_row : Nat) (g_many : Nat) (g_loss : Nat) (g_less : Nat) (g_voteValue : Nat) (g_voteNumber : Nat) (g_allValue : Nat) (g_allNumber : Nat) (g_nodeL : Nat) (g_nodeR : Nat) (g_part : Nat) (g_wasMany : Nat) (g_wasLoss : Nat) (g_wasValue : Nat) (g_wasNumber : Nat) (g_path : Nat) (g_heavyValue : Nat) (g_heavyTimes : Nat) (g_fewest : Nat) (g_which : Nat) (g_met : Nat) (m_n : Int32) (m_slots : Int32) (m_thrown : Int32) (m_allMany : Int32) (m_nodes : Int32) (m_partMany : Int32) (m_pathMany : Int32) (m_heavyMany : Int32) (m_mostMet : Int32) (cyI : ClassId) (fm : Nat → Int32) (vv : Nat → Int32) (vn : Nat → Int32) (p0 : Int32) (p1 : Int32) (b0 : 0 ≤ p0.toInt) (b1 : p0.toInt < 324) (s4 : six4 fm) : Met l yX5_numberOf wsX5_numberOf ({ frames := 0, cells := 0, slots := 0, locals := 0 }) (va_Pc [.ref h0, .int p0, .int p1] (fun U => va_P (dC, dI) vwCl [kx_5 h0 g_row m_n m_slots m_thrown g_many g_loss g_less g_voteValue g_voteNumber g_allValue g_allNumber m_allMany g_nodeL g_nodeR m_nodes g_part m_partMany g_wasMany g_wasLoss g_wasValue g_wasNumber g_path m_pathMany g_heavyValue g_heavyTimes m_heavyMany g_fewest g_which g_met m_mostMet, kx_a g_many cyI 324 fm, kx_a g_voteValue cyI 1944 vv, kx_a g_voteNumber cyI 1944 vn] U.heap ∧ va_K (dC, dI) vwCl [(cyI, .int)] U)) (vp_Si (fun r : Int32 => r = mj_nb vv vn p1 (6 * p0.toNatClampNeg) (fm p0.toNatClampNeg).toNatClampNeg)) 0 0 (fun _ => False) := by
  refine Met.ofW (cc := cX5_numberOf) (maxL := 4) (ret := (some .int)) (by decide) rfl ?_
  intro p e s m args below meth c s₁ B hml hv
  obtain ⟨rfl, hP, hK⟩ := hv
  have hx := B.exec
  have hb := B.bytes
  have hr := B.returns
  have hts := atoms_spec (ws := wsX5_numberOf) B.pre
  have hown : s.vm.findClass RX5 = some m.cls := findClass_of_methodNamed B.named
  have hlocks := B.notSynchronized
  have hP : va_P (dC, dI) vwCl [kx_5 h0 g_row m_n m_slots m_thrown g_many g_loss g_less g_voteValue g_voteNumber g_allValue g_allNumber m_allMany g_nodeL g_nodeR m_nodes g_part m_partMany g_wasMany g_wasLoss g_wasValue g_wasNumber g_path m_pathMany g_heavyValue g_heavyTimes m_heavyMany g_fewest g_which g_met m_mostMet, kx_a g_many cyI 324 fm, kx_a g_voteValue cyI 1944 vv, kx_a g_voteNumber cyI 1944 vn] s.heap := hP
  have hl := lv_entry ([.ref h0, .int p0, .int p1]) (n := 4) (Nat.le_of_ble_eq_true rfl)
  rw [lg_entry_eq]
  generalize (lg_sl ([.ref h0, .int p0, .int p1]) ++ List.replicate (4 - (lg_sl ([.ref h0, .int p0, .int p1])).length) Slot.unset).toArray = ls at hl ⊢
  have hl : lv_has ls 4 [(0, .ref h0), (1, .int p0), (2, .int p1)] := hl
  have hf_17 := hts (.fieldLink RX5 17 "MajorityIndexModel" "many" "[I") (List.mem_of_getElem? (i := 1) rfl)
  have hi_5 : ∀ w ∈ u_ws RX5 TX5 30, w ∈ wsX5_numberOf := fun w h => List.mem_cons_of_mem _ (List.mem_append_right _ h)
  have hf_26 := hts (.fieldLink RX5 26 "MajorityIndexModel" "voteValue" "[I") (List.mem_of_getElem? (i := 2) rfl)
  have hf_29 := hts (.fieldLink RX5 29 "MajorityIndexModel" "voteNumber" "[I") (List.mem_of_getElem? (i := 3) rfl)
  have n_p0 := ki_nat p0 rfl (by omega)
  have n_m4 := s4 p0.toNatClampNeg (by omega)
  have n_fm := ki_nat (fm p0.toNatClampNeg) rfl (by omega)
  refine lv_iconst (v := 0) hx hb dX5_numberOf_0 (by decide) ?_
  refine lv_istore_n (lv' := [(3, .int 0), (0, .ref h0), (1, .int p0), (2, .int p1)]) hx hb dX5_numberOf_1 rfl hl (by decide) rfl (fun ls hl => ?_)
  have LP1 : ∀ (n : Nat) (i : Int32), (0 ≤ i.toInt) → (mj_nb vv vn p1 (6 * p0.toNatClampNeg) (fm p0.toNatClampNeg).toNatClampNeg = mj_nb vv vn p1 (6 * p0.toNatClampNeg + i.toNatClampNeg) ((fm p0.toNatClampNeg).toNatClampNeg - i.toNatClampNeg)) → (6 - i.toInt).toNat < n → ∀ (ls : Array Slot), lv_has ls 4 [(3, .int i), (0, .ref h0), (1, .int p0), (2, .int p1)] → W p l e (headSpec wsX5_numberOf ({ frames := 0, cells := 0, slots := 0, locals := 0 })).room s m ([.ref h0, .int p0, .int p1] : List Value).toArray below meth c s.heap [] 0 0 (MQ below (vp_Si (fun r : Int32 => r = mj_nb vv vn p1 (6 * p0.toNatClampNeg) (fm p0.toNatClampNeg).toNatClampNeg)) ([.ref h0, .int p0, .int p1] : List Value).toArray s 0 0 (fun _ => False)) (F0 m 2 ls []) := by
    intro n
    induction n with
    | zero => intro i LP1_h0 LP1_h1 hn; exact absurd hn (Nat.not_lt_zero _)
    | succ n ih1 =>
      intro i LP1_h0 LP1_h1 hn1 ls hl
      have n_i := ki_nat i rfl (by omega)
      refine lv_iload_n hx hb dX5_numberOf_2 rfl (lv_at hl 0 rfl) ?_
      refine lv_aload_n hx hb dX5_numberOf_3 rfl (lv_at hl 1 rfl) ?_
      refine va_get (D := (dC, dI)) (ci := 5) (v := .ref g_many) (C := RX5) (T := TX5) (N := 30) hx hb hts hi_5 hown hK hP 0 rfl rfl 4 (by decide) hf_17 (fun _ h9 => h9) rfl dX5_numberOf_4 ?_
      refine lv_iload_n hx hb dX5_numberOf_7 rfl (lv_at hl 2 rfl) ?_
      refine va_iald hx hb hK hP 1 0 rfl rfl (ki_in (by omega) (by omega)) dX5_numberOf_8 ?_
      refine lv_topi (fun y_1 ey_1 => ?_)
      have j_1 : y_1.toInt = (fm p0.toNatClampNeg).toInt := congrArg Int32.toInt ey_1
      have n_2 : (p0.toNatClampNeg : Int) = p0.toInt := ki_nat _ rfl (by omega)
      have i_3 := s4 p0.toNatClampNeg (by omega)
      refine lv_icmp_ge (tgt := 45) hx hb dX5_numberOf_9 (by decide) (fun c_4 => ?_) (fun c_4 => ?_)
      · have i_4 : y_1.toInt ≤ i.toInt := kc_le c_4
        refine lv_iconst (v := 0) hx hb dX5_numberOf_45 (by decide) ?_
        exact W.iret (v := 0) hx hb hr (fun t ht hW => ⟨0, rfl, (by (try dsimp only); rw [LP1_h1, mj_nb_0 (by (try dsimp only); omega)]), ht⟩) (fun q hq => by cases hq) dX5_numberOf_46
      · have i_4 : i.toInt < y_1.toInt := kc_nle c_4
        refine lv_aload_n hx hb dX5_numberOf_12 rfl (lv_at hl 1 rfl) ?_
        refine va_get (D := (dC, dI)) (ci := 5) (v := .ref g_voteValue) (C := RX5) (T := TX5) (N := 30) hx hb hts hi_5 hown hK hP 0 rfl rfl 7 (by decide) hf_26 (fun _ h9 => h9) rfl dX5_numberOf_13 ?_
        refine lv_bipush (v := 6) hx hb dX5_numberOf_16 (by decide) ?_
        refine lv_iload_n hx hb dX5_numberOf_18 rfl (lv_at hl 2 rfl) ?_
        refine lv_imul hx hb dX5_numberOf_19 ?_
        refine lv_topi (fun y_5 ey_5 => ?_)
        have i_5 : y_5.toInt = 6 * p0.toInt := ki_mul ey_5 rfl rfl (by omega) (by omega)
        refine lv_iload_n hx hb dX5_numberOf_20 rfl (lv_at hl 0 rfl) ?_
        refine lv_iadd hx hb dX5_numberOf_21 ?_
        refine lv_topi (fun y_6 ey_6 => ?_)
        have i_6 : y_6.toInt = y_5.toInt + i.toInt := ki_add ey_6 rfl rfl (by omega) (by omega)
        refine va_iald hx hb hK hP 2 0 rfl rfl (ki_in (by omega) (by omega)) dX5_numberOf_22 ?_
        refine lv_topi (fun y_7 ey_7 => ?_)
        have j_7 : y_7.toInt = (vv y_6.toNatClampNeg).toInt := congrArg Int32.toInt ey_7
        refine lv_iload_n hx hb dX5_numberOf_23 rfl (lv_at hl 3 rfl) ?_
        refine lv_icmp_ne (tgt := 39) hx hb dX5_numberOf_24 (by decide) (fun c_8 => ?_) (fun c_8 => ?_)
        · have i_8 : ¬ y_7.toInt = p1.toInt := kc_ne c_8
          obtain ⟨x_9, ex_9⟩ : ∃ y : Int32, y = i + 1 := ⟨_, rfl⟩
          have i_9 : x_9.toInt = i.toInt + 1 := ki_add ex_9 rfl rfl (by omega) (by omega)
          refine lv_iinc (v := x_9) (lv' := [(3, .int x_9), (0, .ref h0), (1, .int p0), (2, .int p1)]) hx hb dX5_numberOf_39 hl (k := 0) rfl (by rw [ex_9]; rfl) (by decide) rfl (fun ls hl => ?_)
          refine lv_goto (tgt := 2) hx hb dX5_numberOf_42 (by decide) ?_
          have n_10 := ki_nat x_9 rfl (by omega)
          have n_11 := ki_nat y_6 rfl (by omega)
          exact ih1 x_9 (by omega) (by rw [LP1_h1, mj_nb_miss (n2 := (fm p0.toNatClampNeg).toNatClampNeg - x_9.toNatClampNeg) (by rw [show 6 * p0.toNatClampNeg + i.toNatClampNeg = y_6.toNatClampNeg by omega]; exact fun h => c_8 (ey_7.trans h)) (by omega), show 6 * p0.toNatClampNeg + i.toNatClampNeg + 1 = 6 * p0.toNatClampNeg + x_9.toNatClampNeg by omega]) (by omega) ls (lv_sub hl [0, 1, 2, 3] rfl)
        · have i_8 : y_7.toInt = p1.toInt := kc_eq c_8
          refine lv_aload_n hx hb dX5_numberOf_27 rfl (lv_at hl 1 rfl) ?_
          refine va_get (D := (dC, dI)) (ci := 5) (v := .ref g_voteNumber) (C := RX5) (T := TX5) (N := 30) hx hb hts hi_5 hown hK hP 0 rfl rfl 8 (by decide) hf_29 (fun _ h9 => h9) rfl dX5_numberOf_28 ?_
          refine lv_bipush (v := 6) hx hb dX5_numberOf_31 (by decide) ?_
          refine lv_iload_n hx hb dX5_numberOf_33 rfl (lv_at hl 2 rfl) ?_
          refine lv_imul hx hb dX5_numberOf_34 ?_
          refine lv_topi (fun y_12 ey_12 => ?_)
          have i_12 : y_12.toInt = 6 * p0.toInt := ki_mul ey_12 rfl rfl (by omega) (by omega)
          refine lv_iload_n hx hb dX5_numberOf_35 rfl (lv_at hl 0 rfl) ?_
          refine lv_iadd hx hb dX5_numberOf_36 ?_
          refine lv_topi (fun y_13 ey_13 => ?_)
          have i_13 : y_13.toInt = y_12.toInt + i.toInt := ki_add ey_13 rfl rfl (by omega) (by omega)
          refine va_iald hx hb hK hP 3 0 rfl rfl (ki_in (by omega) (by omega)) dX5_numberOf_37 ?_
          refine lv_topi (fun y_14 ey_14 => ?_)
          have j_14 : y_14.toInt = (vn y_13.toNatClampNeg).toInt := congrArg Int32.toInt ey_14
          have n_15 := ki_nat y_6 rfl (by omega)
          have n_16 := ki_nat y_13 rfl (by omega)
          exact W.iret (v := y_14) hx hb hr (fun t ht hW => ⟨y_14, rfl, (by (try dsimp only); rw [LP1_h1, mj_nb_hit (n2 := (fm p0.toNatClampNeg).toNatClampNeg - i.toNatClampNeg - 1) (by (try dsimp only); rw [show 6 * p0.toNatClampNeg + i.toNatClampNeg = y_6.toNatClampNeg by omega]; exact ey_7.symm.trans c_8) (by (try dsimp only); omega), ey_14, show 6 * p0.toNatClampNeg + i.toNatClampNeg = y_13.toNatClampNeg by omega]), ht⟩) (fun q hq => by cases hq) dX5_numberOf_38
  have k_17 : (0 : Int32).toInt = 0 := rfl
  exact LP1 ((6 - 0 : Int).toNat + 1) 0 (by omega) rfl (Nat.lt_succ_self _) ls (lv_sub hl [0, 1, 2, 3] rfl)

set_option maxHeartbeats 4000000 in
set_option maxRecDepth 100000 in
theorem c_X5_numbersOf_x (l : Launch) (dC : Nat → ClassId) (dI : Nat → Nat → Nat) (h0 : Nat) (g_row : Nat) (g_many : Nat) (g_loss : Nat) (g_less : Nat) (g_voteValue : Nat) (g_voteNumber : Nat) (g_allValue : Nat) (g_allNumber : Nat) (g_nodeL : Nat) (g_nodeR : Nat) (g_part : Nat) (g_wasMany : Nat) (g_wasLoss : Nat) (g_wasValue : Nat) (g_wasNumber : Nat) (g_path : Nat) (g_heavyValue : Nat) (g_heavyTimes : Nat) (g_fewest : Nat) (g_which : Nat) (g_met : Nat) (m_n : Int32) (m_slots : Int32) (m_thrown : Int32) (m_allMany : Int32) (m_nodes : Int32) (m_partMany : Int32) (m_pathMany : Int32) (m_heavyMany : Int32) (m_mostMet : Int32) (cyI : ClassId) (fm : Nat → Int32) (vn : Nat → Int32) (p0 : Int32) (b0 : 0 ≤ p0.toInt) (b1 : p0.toInt < 324) (s4 : six4 fm) : Met l yX5_numbersOf wsX5_numbersOf ({ frames := 0, cells := 0, slots := 0, locals := 0 }) (va_Pc [.ref h0, .int p0] (fun U => va_P (dC, dI) vwCl [kx_5 h0 g_row m_n m_slots m_thrown g_many g_loss g_less g_voteValue g_voteNumber g_allValue g_allNumber m_allMany g_nodeL g_nodeR m_nodes g_part m_partMany g_wasMany g_wasLoss g_wasValue g_wasNumber g_path m_pathMany g_heavyValue g_heavyTimes m_heavyMany g_fewest g_which g_met m_mostMet, kx_a g_many cyI 324 fm, kx_a g_voteNumber cyI 1944 vn] U.heap ∧ va_K (dC, dI) vwCl [(cyI, .int)] U)) (vp_Si (fun r : Int32 => r = mj_tot vn (6 * p0.toNatClampNeg) (fm p0.toNatClampNeg).toNatClampNeg)) 0 0 (fun _ => False) := by
  refine Met.ofW (cc := cX5_numbersOf) (maxL := 4) (ret := (some .int)) (by decide) rfl ?_
  intro p e s m args below meth c s₁ B hml hv
  obtain ⟨rfl, hP, hK⟩ := hv
  have hx := B.exec
  have hb := B.bytes
  have hr := B.returns
  have hts := atoms_spec (ws := wsX5_numbersOf) B.pre
  have hown : s.vm.findClass RX5 = some m.cls := findClass_of_methodNamed B.named
  have hlocks := B.notSynchronized
  have hP : va_P (dC, dI) vwCl [kx_5 h0 g_row m_n m_slots m_thrown g_many g_loss g_less g_voteValue g_voteNumber g_allValue g_allNumber m_allMany g_nodeL g_nodeR m_nodes g_part m_partMany g_wasMany g_wasLoss g_wasValue g_wasNumber g_path m_pathMany g_heavyValue g_heavyTimes m_heavyMany g_fewest g_which g_met m_mostMet, kx_a g_many cyI 324 fm, kx_a g_voteNumber cyI 1944 vn] s.heap := hP
  have hl := lv_entry ([.ref h0, .int p0]) (n := 4) (Nat.le_of_ble_eq_true rfl)
  rw [lg_entry_eq]
  generalize (lg_sl ([.ref h0, .int p0]) ++ List.replicate (4 - (lg_sl ([.ref h0, .int p0])).length) Slot.unset).toArray = ls at hl ⊢
  have hl : lv_has ls 4 [(0, .ref h0), (1, .int p0)] := hl
  have hf_17 := hts (.fieldLink RX5 17 "MajorityIndexModel" "many" "[I") (List.mem_of_getElem? (i := 1) rfl)
  have hi_5 : ∀ w ∈ u_ws RX5 TX5 30, w ∈ wsX5_numbersOf := fun w h => List.mem_cons_of_mem _ (List.mem_append_right _ h)
  have hf_29 := hts (.fieldLink RX5 29 "MajorityIndexModel" "voteNumber" "[I") (List.mem_of_getElem? (i := 2) rfl)
  have n_p0 := ki_nat p0 rfl (by omega)
  have n_m4 := s4 p0.toNatClampNeg (by omega)
  have n_fm := ki_nat (fm p0.toNatClampNeg) rfl (by omega)
  refine lv_iconst (v := 0) hx hb dX5_numbersOf_0 (by decide) ?_
  refine lv_istore_n (lv' := [(2, .int 0), (0, .ref h0), (1, .int p0)]) hx hb dX5_numbersOf_1 rfl hl (by decide) rfl (fun ls hl => ?_)
  refine lv_iconst (v := 0) hx hb dX5_numbersOf_2 (by decide) ?_
  refine lv_istore_n (lv' := [(3, .int 0), (2, .int 0), (0, .ref h0), (1, .int p0)]) hx hb dX5_numbersOf_3 rfl hl (by decide) rfl (fun ls hl => ?_)
  have LP1 : ∀ (n : Nat) (i : Int32) (sm : Int32), (0 ≤ i.toInt) → (sm = mj_tot vn (6 * p0.toNatClampNeg) i.toNatClampNeg) → (i.toInt ≤ (fm p0.toNatClampNeg).toInt) → (6 - i.toInt).toNat < n → ∀ (ls : Array Slot), lv_has ls 4 [(3, .int i), (2, .int sm), (0, .ref h0), (1, .int p0)] → W p l e (headSpec wsX5_numbersOf ({ frames := 0, cells := 0, slots := 0, locals := 0 })).room s m ([.ref h0, .int p0] : List Value).toArray below meth c s.heap [] 0 0 (MQ below (vp_Si (fun r : Int32 => r = mj_tot vn (6 * p0.toNatClampNeg) (fm p0.toNatClampNeg).toNatClampNeg)) ([.ref h0, .int p0] : List Value).toArray s 0 0 (fun _ => False)) (F0 m 4 ls []) := by
    intro n
    induction n with
    | zero => intro i sm LP1_h0 LP1_h1 LP1_h2 hn; exact absurd hn (Nat.not_lt_zero _)
    | succ n ih1 =>
      intro i sm LP1_h0 LP1_h1 LP1_h2 hn1 ls hl
      have n_i := ki_nat i rfl (by omega)
      refine lv_iload_n hx hb dX5_numbersOf_4 rfl (lv_at hl 0 rfl) ?_
      refine lv_aload_n hx hb dX5_numbersOf_5 rfl (lv_at hl 2 rfl) ?_
      refine va_get (D := (dC, dI)) (ci := 5) (v := .ref g_many) (C := RX5) (T := TX5) (N := 30) hx hb hts hi_5 hown hK hP 0 rfl rfl 4 (by decide) hf_17 (fun _ h9 => h9) rfl dX5_numbersOf_6 ?_
      refine lv_iload_n hx hb dX5_numbersOf_9 rfl (lv_at hl 3 rfl) ?_
      refine va_iald hx hb hK hP 1 0 rfl rfl (ki_in (by omega) (by omega)) dX5_numbersOf_10 ?_
      refine lv_topi (fun y_1 ey_1 => ?_)
      have j_1 : y_1.toInt = (fm p0.toNatClampNeg).toInt := congrArg Int32.toInt ey_1
      have n_2 : (p0.toNatClampNeg : Int) = p0.toInt := ki_nat _ rfl (by omega)
      have i_3 := s4 p0.toNatClampNeg (by omega)
      refine lv_icmp_ge (tgt := 34) hx hb dX5_numbersOf_11 (by decide) (fun c_4 => ?_) (fun c_4 => ?_)
      · have i_4 : y_1.toInt ≤ i.toInt := kc_le c_4
        refine lv_iload_n hx hb dX5_numbersOf_34 rfl (lv_at hl 1 rfl) ?_
        exact W.iret (v := sm) hx hb hr (fun t ht hW => ⟨sm, rfl, (by (try dsimp only); rw [LP1_h1, show i.toNatClampNeg = (fm p0.toNatClampNeg).toNatClampNeg by omega]), ht⟩) (fun q hq => by cases hq) dX5_numbersOf_35
      · have i_4 : i.toInt < y_1.toInt := kc_nle c_4
        refine lv_iload_n hx hb dX5_numbersOf_14 rfl (lv_at hl 1 rfl) ?_
        refine lv_aload_n hx hb dX5_numbersOf_15 rfl (lv_at hl 2 rfl) ?_
        refine va_get (D := (dC, dI)) (ci := 5) (v := .ref g_voteNumber) (C := RX5) (T := TX5) (N := 30) hx hb hts hi_5 hown hK hP 0 rfl rfl 8 (by decide) hf_29 (fun _ h9 => h9) rfl dX5_numbersOf_16 ?_
        refine lv_bipush (v := 6) hx hb dX5_numbersOf_19 (by decide) ?_
        refine lv_iload_n hx hb dX5_numbersOf_21 rfl (lv_at hl 3 rfl) ?_
        refine lv_imul hx hb dX5_numbersOf_22 ?_
        refine lv_topi (fun y_5 ey_5 => ?_)
        have i_5 : y_5.toInt = 6 * p0.toInt := ki_mul ey_5 rfl rfl (by omega) (by omega)
        refine lv_iload_n hx hb dX5_numbersOf_23 rfl (lv_at hl 0 rfl) ?_
        refine lv_iadd hx hb dX5_numbersOf_24 ?_
        refine lv_topi (fun y_6 ey_6 => ?_)
        have i_6 : y_6.toInt = y_5.toInt + i.toInt := ki_add ey_6 rfl rfl (by omega) (by omega)
        refine va_iald hx hb hK hP 2 0 rfl rfl (ki_in (by omega) (by omega)) dX5_numbersOf_25 ?_
        refine lv_topi (fun y_7 ey_7 => ?_)
        have j_7 : y_7.toInt = (vn y_6.toNatClampNeg).toInt := congrArg Int32.toInt ey_7
        refine lv_iadd hx hb dX5_numbersOf_26 ?_
        refine lv_topi (fun y_8 ey_8 => ?_)
        refine lv_istore_n (lv' := [(2, .int y_8), (3, .int i), (0, .ref h0), (1, .int p0)]) hx hb dX5_numbersOf_27 rfl hl (by decide) rfl (fun ls hl => ?_)
        obtain ⟨x_9, ex_9⟩ : ∃ y : Int32, y = i + 1 := ⟨_, rfl⟩
        have i_9 : x_9.toInt = i.toInt + 1 := ki_add ex_9 rfl rfl (by omega) (by omega)
        refine lv_iinc (v := x_9) (lv' := [(3, .int x_9), (2, .int y_8), (0, .ref h0), (1, .int p0)]) hx hb dX5_numbersOf_28 hl (k := 1) rfl (by rw [ex_9]; rfl) (by decide) rfl (fun ls hl => ?_)
        refine lv_goto (tgt := 4) hx hb dX5_numbersOf_31 (by decide) ?_
        have n_10 := ki_nat x_9 rfl (by omega)
        have n_11 := ki_nat y_6 rfl (by omega)
        exact ih1 x_9 y_8 (by omega) (by rw [ey_8, show x_9.toNatClampNeg = i.toNatClampNeg + 1 by omega, ey_7]; show sm + vn y_6.toNatClampNeg = mj_tot vn (6 * p0.toNatClampNeg) i.toNatClampNeg + vn (6 * p0.toNatClampNeg + i.toNatClampNeg); rw [← LP1_h1, show 6 * p0.toNatClampNeg + i.toNatClampNeg = y_6.toNatClampNeg by omega]) (by omega) (by omega) ls (lv_sub hl [0, 1, 2, 3] rfl)
  have k_12 : (0 : Int32).toInt = 0 := rfl
  have k_13 : (0 : Int32).toInt = 0 := rfl
  exact LP1 ((6 - 0 : Int).toNat + 1) 0 0 (by omega) rfl (by omega) (Nat.lt_succ_self _) ls (lv_sub hl [0, 1, 2, 3] rfl)

set_option maxHeartbeats 4000000 in
set_option maxRecDepth 100000 in
theorem c_X5_parts_x (l : Launch) (dC : Nat → ClassId) (dI : Nat → Nat → Nat) (h0 : Nat) (g_row : Nat) (g_many : Nat) (g_loss : Nat) (g_less : Nat) (g_voteValue : Nat) (g_voteNumber : Nat) (g_allValue : Nat) (g_allNumber : Nat) (g_nodeL : Nat) (g_nodeR : Nat) (g_part : Nat) (g_wasMany : Nat) (g_wasLoss : Nat) (g_wasValue : Nat) (g_wasNumber : Nat) (g_path : Nat) (g_heavyValue : Nat) (g_heavyTimes : Nat) (g_fewest : Nat) (g_which : Nat) (g_met : Nat) (m_n : Int32) (m_slots : Int32) (m_thrown : Int32) (m_allMany : Int32) (m_nodes : Int32) (m_partMany : Int32) (m_pathMany : Int32) (m_heavyMany : Int32) (m_mostMet : Int32) (cyI : ClassId) (fm : Nat → Int32) (fl : Nat → Int32) (fe : Nat → Int32) (vv : Nat → Int32) (vn : Nat → Int32) (f : Nat → Int32) (av : Nat → Int32) (an : Nat → Int32) (nl : Nat → Int32) (nr : Nat → Int32) (gp : Nat → Int32) (p0 : Int32) (p1 : Int32) (sz : Nat) (a0 : 0 ≤ m_n.toInt) (a1 : m_n.toInt ≤ 160) (sl0 : 1 ≤ m_slots.toInt) (sl1 : m_slots.toInt ≤ 6) (s4 : six4 fm) (q0 : parts320 gp) : Met l yX5_parts wsX5_parts ({ frames := 12, cells := 0, slots := 0, locals := 540 }) (va_Pc [.ref h0, .int p0, .int p1] (fun U => U.heap.size = sz ∧ va_P (dC, dI) vwCl [kx_5 h0 g_row m_n m_slots m_thrown g_many g_loss g_less g_voteValue g_voteNumber g_allValue g_allNumber m_allMany g_nodeL g_nodeR m_nodes g_part m_partMany g_wasMany g_wasLoss g_wasValue g_wasNumber g_path m_pathMany g_heavyValue g_heavyTimes m_heavyMany g_fewest g_which g_met m_mostMet, kx_a g_row cyI 160 f, kx_a g_many cyI 324 fm, kx_a g_loss cyI 324 fl, kx_a g_less cyI 324 fe, kx_a g_voteValue cyI 1944 vv, kx_a g_voteNumber cyI 1944 vn, kx_a g_allValue cyI 12 av, kx_a g_allNumber cyI 12 an, kx_a g_nodeL cyI 320 nl, kx_a g_nodeR cyI 320 nr, kx_a g_part cyI 320 gp] U.heap ∧ va_K (dC, dI) vwCl [(cyI, .int)] U ∧ va_D (fun _ => True) [kx_5 h0 g_row m_n m_slots m_thrown g_many g_loss g_less g_voteValue g_voteNumber g_allValue g_allNumber m_allMany g_nodeL g_nodeR m_nodes g_part m_partMany g_wasMany g_wasLoss g_wasValue g_wasNumber g_path m_pathMany g_heavyValue g_heavyTimes m_heavyMany g_fewest g_which g_met m_mostMet, kx_a g_row cyI 160 f, kx_a g_many cyI 324 fm, kx_a g_loss cyI 324 fl, kx_a g_less cyI 324 fe, kx_a g_voteValue cyI 1944 vv, kx_a g_voteNumber cyI 1944 vn, kx_a g_allValue cyI 12 av, kx_a g_allNumber cyI 12 an, kx_a g_nodeL cyI 320 nl, kx_a g_nodeR cyI 320 nr, kx_a g_part cyI 320 gp])) (va_Qi (fun (r : Int32) (u : Int32 × Int32 × (Nat → Int32) × (Nat → Int32) × (Nat → Int32) × (Nat → Int32) × (Nat → Int32) × (Nat → Int32) × (Nat → Int32) × (Nat → Int32) × (Nat → Int32) × Int32 × (Nat → Int32)) => (((0 ≤ p0.toInt ∧ p0.toInt < p1.toInt ∧ p1.toInt ≤ m_n.toInt) ∧ (mj_L m_slots.toNatClampNeg f u.2.2.2.2.2.2.2.2.2.1 u.2.2.2.2.2.2.2.2.2.2.1 u.2.2.1 u.2.2.2.1 u.2.2.2.2.1 u.2.2.2.2.2.1 u.2.2.2.2.2.2.1 m_n.toInt u.1.toInt ∧ 0 ≤ u.1.toInt ∧ u.1.toInt ≤ 319) ∧ r.toInt = (mj_pq u.2.2.2.2.2.2.2.2.2.1 u.2.2.2.2.2.2.2.2.2.2.1 p0.toInt p1.toInt u.1.toNatClampNeg : Int)) ∨ ((p0.toInt < 0 ∨ p1.toInt ≤ p0.toInt ∨ m_n.toInt < p1.toInt) ∧ r = -1)) ∧ six4 u.2.2.1 ∧ parts320 u.2.2.2.2.2.2.2.2.2.2.2.2) (fun (u : Int32 × Int32 × (Nat → Int32) × (Nat → Int32) × (Nat → Int32) × (Nat → Int32) × (Nat → Int32) × (Nat → Int32) × (Nat → Int32) × (Nat → Int32) × (Nat → Int32) × Int32 × (Nat → Int32)) (t : State) => va_P (dC, dI) vwCl [kx_5 h0 g_row m_n m_slots 0 g_many g_loss g_less g_voteValue g_voteNumber g_allValue g_allNumber u.2.1 g_nodeL g_nodeR u.1 g_part u.2.2.2.2.2.2.2.2.2.2.2.1 g_wasMany g_wasLoss g_wasValue g_wasNumber g_path m_pathMany g_heavyValue g_heavyTimes m_heavyMany g_fewest g_which g_met m_mostMet, kx_a g_row cyI 160 f, kx_a g_many cyI 324 u.2.2.1, kx_a g_loss cyI 324 u.2.2.2.1, kx_a g_less cyI 324 u.2.2.2.2.1, kx_a g_voteValue cyI 1944 u.2.2.2.2.2.1, kx_a g_voteNumber cyI 1944 u.2.2.2.2.2.2.1, kx_a g_allValue cyI 12 u.2.2.2.2.2.2.2.1, kx_a g_allNumber cyI 12 u.2.2.2.2.2.2.2.2.1, kx_a g_nodeL cyI 320 u.2.2.2.2.2.2.2.2.2.1, kx_a g_nodeR cyI 320 u.2.2.2.2.2.2.2.2.2.2.1, kx_a g_part cyI 320 u.2.2.2.2.2.2.2.2.2.2.2.2] t.heap ∧ va_K (dC, dI) vwCl [(cyI, .int)] t ∧ va_D (va_A [kx_5 h0 g_row m_n m_slots m_thrown g_many g_loss g_less g_voteValue g_voteNumber g_allValue g_allNumber m_allMany g_nodeL g_nodeR m_nodes g_part m_partMany g_wasMany g_wasLoss g_wasValue g_wasNumber g_path m_pathMany g_heavyValue g_heavyTimes m_heavyMany g_fewest g_which g_met m_mostMet, kx_a g_row cyI 160 f, kx_a g_many cyI 324 fm, kx_a g_loss cyI 324 fl, kx_a g_less cyI 324 fe, kx_a g_voteValue cyI 1944 vv, kx_a g_voteNumber cyI 1944 vn, kx_a g_allValue cyI 12 av, kx_a g_allNumber cyI 12 an, kx_a g_nodeL cyI 320 nl, kx_a g_nodeR cyI 320 nr, kx_a g_part cyI 320 gp] sz) [kx_5 h0 g_row m_n m_slots 0 g_many g_loss g_less g_voteValue g_voteNumber g_allValue g_allNumber u.2.1 g_nodeL g_nodeR u.1 g_part u.2.2.2.2.2.2.2.2.2.2.2.1 g_wasMany g_wasLoss g_wasValue g_wasNumber g_path m_pathMany g_heavyValue g_heavyTimes m_heavyMany g_fewest g_which g_met m_mostMet, kx_a g_row cyI 160 f, kx_a g_many cyI 324 u.2.2.1, kx_a g_loss cyI 324 u.2.2.2.1, kx_a g_less cyI 324 u.2.2.2.2.1, kx_a g_voteValue cyI 1944 u.2.2.2.2.2.1, kx_a g_voteNumber cyI 1944 u.2.2.2.2.2.2.1, kx_a g_allValue cyI 12 u.2.2.2.2.2.2.2.1, kx_a g_allNumber cyI 12 u.2.2.2.2.2.2.2.2.1, kx_a g_nodeL cyI 320 u.2.2.2.2.2.2.2.2.2.1, kx_a g_nodeR cyI 320 u.2.2.2.2.2.2.2.2.2.2.1, kx_a g_part cyI 320 u.2.2.2.2.2.2.2.2.2.2.2.2]) (va_A [kx_5 h0 g_row m_n m_slots m_thrown g_many g_loss g_less g_voteValue g_voteNumber g_allValue g_allNumber m_allMany g_nodeL g_nodeR m_nodes g_part m_partMany g_wasMany g_wasLoss g_wasValue g_wasNumber g_path m_pathMany g_heavyValue g_heavyTimes m_heavyMany g_fewest g_which g_met m_mostMet, kx_a g_row cyI 160 f, kx_a g_many cyI 324 fm, kx_a g_loss cyI 324 fl, kx_a g_less cyI 324 fe, kx_a g_voteValue cyI 1944 vv, kx_a g_voteNumber cyI 1944 vn, kx_a g_allValue cyI 12 av, kx_a g_allNumber cyI 12 an, kx_a g_nodeL cyI 320 nl, kx_a g_nodeR cyI 320 nr, kx_a g_part cyI 320 gp] sz)) 0 0 (va_A [kx_5 h0 g_row m_n m_slots m_thrown g_many g_loss g_less g_voteValue g_voteNumber g_allValue g_allNumber m_allMany g_nodeL g_nodeR m_nodes g_part m_partMany g_wasMany g_wasLoss g_wasValue g_wasNumber g_path m_pathMany g_heavyValue g_heavyTimes m_heavyMany g_fewest g_which g_met m_mostMet, kx_a g_row cyI 160 f, kx_a g_many cyI 324 fm, kx_a g_loss cyI 324 fl, kx_a g_less cyI 324 fe, kx_a g_voteValue cyI 1944 vv, kx_a g_voteNumber cyI 1944 vn, kx_a g_allValue cyI 12 av, kx_a g_allNumber cyI 12 an, kx_a g_nodeL cyI 320 nl, kx_a g_nodeR cyI 320 nr, kx_a g_part cyI 320 gp] sz) := by
  refine Met.ofW (cc := cX5_parts) (maxL := 3) (ret := (some .int)) (by decide) rfl ?_
  intro p e s m args below meth c s₁ B hml hv
  obtain ⟨rfl, hsz, hP, hK, hD0⟩ := hv
  have hx := B.exec
  have hb := B.bytes
  have hr := B.returns
  have hts := atoms_spec (ws := wsX5_parts) B.pre
  have hown : s.vm.findClass RX5 = some m.cls := findClass_of_methodNamed B.named
  have hlocks := B.notSynchronized
  subst hsz
  have hD := hD0.self (sz := s.heap.size)
  generalize hAe : va_A [kx_5 h0 g_row m_n m_slots m_thrown g_many g_loss g_less g_voteValue g_voteNumber g_allValue g_allNumber m_allMany g_nodeL g_nodeR m_nodes g_part m_partMany g_wasMany g_wasLoss g_wasValue g_wasNumber g_path m_pathMany g_heavyValue g_heavyTimes m_heavyMany g_fewest g_which g_met m_mostMet, kx_a g_row cyI 160 f, kx_a g_many cyI 324 fm, kx_a g_loss cyI 324 fl, kx_a g_less cyI 324 fe, kx_a g_voteValue cyI 1944 vv, kx_a g_voteNumber cyI 1944 vn, kx_a g_allValue cyI 12 av, kx_a g_allNumber cyI 12 an, kx_a g_nodeL cyI 320 nl, kx_a g_nodeR cyI 320 nr, kx_a g_part cyI 320 gp] s.heap.size = A at hD ⊢
  have hA : ∀ q : Nat, s.heap.size ≤ q → A q := fun q h => by rw [← hAe]; exact Or.inr h
  have hS : va_S A s.heap s.heap [] := va_S.rf
  have hP : va_P (dC, dI) vwCl [kx_5 h0 g_row m_n m_slots m_thrown g_many g_loss g_less g_voteValue g_voteNumber g_allValue g_allNumber m_allMany g_nodeL g_nodeR m_nodes g_part m_partMany g_wasMany g_wasLoss g_wasValue g_wasNumber g_path m_pathMany g_heavyValue g_heavyTimes m_heavyMany g_fewest g_which g_met m_mostMet, kx_a g_row cyI 160 f, kx_a g_many cyI 324 fm, kx_a g_loss cyI 324 fl, kx_a g_less cyI 324 fe, kx_a g_voteValue cyI 1944 vv, kx_a g_voteNumber cyI 1944 vn, kx_a g_allValue cyI 12 av, kx_a g_allNumber cyI 12 an, kx_a g_nodeL cyI 320 nl, kx_a g_nodeR cyI 320 nr, kx_a g_part cyI 320 gp] s.heap := hP
  have hl := lv_entry ([.ref h0, .int p0, .int p1]) (n := 3) (Nat.le_of_ble_eq_true rfl)
  rw [lg_entry_eq]
  generalize (lg_sl ([.ref h0, .int p0, .int p1]) ++ List.replicate (3 - (lg_sl ([.ref h0, .int p0, .int p1])).length) Slot.unset).toArray = ls at hl ⊢
  have hl : lv_has ls 3 [(0, .ref h0), (1, .int p0), (2, .int p1)] := hl
  have hf_77 := hts (.fieldLink RX5 77 "MajorityIndexModel" "thrown" "I") (List.mem_of_getElem? (i := 1) rfl)
  have hi_5 : ∀ w ∈ u_ws RX5 TX5 30, w ∈ wsX5_parts := fun w h => List.mem_cons_of_mem _ (List.mem_append_right _ h)
  have hf_13 := hts (.fieldLink RX5 13 "MajorityIndexModel" "slots" "I") (List.mem_of_getElem? (i := 2) rfl)
  have hf_115 := hts (.fieldLink RX5 115 "MajorityIndexModel" "partMany" "I") (List.mem_of_getElem? (i := 3) rfl)
  refine lv_aload_n hx hb dX5_parts_0 rfl (lv_at hl 0 rfl) ?_
  refine lv_iconst (v := 0) hx hb dX5_parts_1 (by decide) ?_
  refine va_put (D := (dC, dI)) (ci := 5) (v := .int 0) (ty := .int) (C := RX5) (T := TX5) (N := 30) hx hb hts hi_5 tyX5 tyX5_ok nmX5 hown hK hP hD hS 0 rfl rfl 3 (by decide) hf_77 (fun _ h9 => h9) rfl (by decide +kernel) rfl rfl (Nat.le_of_ble_eq_true rfl) dX5_parts_2 (fun H locs hP hD hS => ?_)
  have hP : va_P (dC, dI) vwCl [kx_5 h0 g_row m_n m_slots 0 g_many g_loss g_less g_voteValue g_voteNumber g_allValue g_allNumber m_allMany g_nodeL g_nodeR m_nodes g_part m_partMany g_wasMany g_wasLoss g_wasValue g_wasNumber g_path m_pathMany g_heavyValue g_heavyTimes m_heavyMany g_fewest g_which g_met m_mostMet, kx_a g_row cyI 160 f, kx_a g_many cyI 324 fm, kx_a g_loss cyI 324 fl, kx_a g_less cyI 324 fe, kx_a g_voteValue cyI 1944 vv, kx_a g_voteNumber cyI 1944 vn, kx_a g_allValue cyI 12 av, kx_a g_allNumber cyI 12 an, kx_a g_nodeL cyI 320 nl, kx_a g_nodeR cyI 320 nr, kx_a g_part cyI 320 gp] H := hP
  have hD : va_D A [kx_5 h0 g_row m_n m_slots 0 g_many g_loss g_less g_voteValue g_voteNumber g_allValue g_allNumber m_allMany g_nodeL g_nodeR m_nodes g_part m_partMany g_wasMany g_wasLoss g_wasValue g_wasNumber g_path m_pathMany g_heavyValue g_heavyTimes m_heavyMany g_fewest g_which g_met m_mostMet, kx_a g_row cyI 160 f, kx_a g_many cyI 324 fm, kx_a g_loss cyI 324 fl, kx_a g_less cyI 324 fe, kx_a g_voteValue cyI 1944 vv, kx_a g_voteNumber cyI 1944 vn, kx_a g_allValue cyI 12 av, kx_a g_allNumber cyI 12 an, kx_a g_nodeL cyI 320 nl, kx_a g_nodeR cyI 320 nr, kx_a g_part cyI 320 gp] := hD
  refine lv_aload_n hx hb dX5_parts_5 rfl (lv_at hl 0 rfl) ?_
  refine lv_iload_n hx hb dX5_parts_6 rfl (lv_at hl 1 rfl) ?_
  refine lv_iload_n hx hb dX5_parts_7 rfl (lv_at hl 2 rfl) ?_
  have hPc := hP.sub (ws' := [kx_5 h0 g_row m_n m_slots 0 g_many g_loss g_less g_voteValue g_voteNumber g_allValue g_allNumber m_allMany g_nodeL g_nodeR m_nodes g_part m_partMany g_wasMany g_wasLoss g_wasValue g_wasNumber g_path m_pathMany g_heavyValue g_heavyTimes m_heavyMany g_fewest g_which g_met m_mostMet]) [0] rfl
  have hKc := hK.sub (tys' := []) [] rfl
  refine vp_callSi (W.runV (As := [.int p0, .int p1]) (rest := []) ⟨hx, hb, hml, hown, hts⟩ (c_X5_isRange l dC dI h0 g_row g_many g_loss g_less g_voteValue g_voteNumber g_allValue g_allNumber g_nodeL g_nodeR g_part g_wasMany g_wasLoss g_wasValue g_wasNumber g_path g_heavyValue g_heavyTimes g_fewest g_which g_met m_n m_slots 0 m_allMany m_nodes m_partMany m_pathMany m_heavyMany m_mostMet p0 p1) (cwV 2 hts gX5_parts_X5_isRange rfl rfl rfl (by decide +kernel) ⟨Nat.le_of_ble_eq_true rfl, Nat.le_of_ble_eq_true rfl⟩) ⟨fun a U g mk q => by obtain ⟨q0, qP, qK⟩ := q; exact ⟨q0, qP, va_K.moved (u := U) (U := U.calling g mk a) (Vm.Alike.refl U.vm) qK⟩, va_recv hKc hPc (ci := 5) (q0 := 0) rfl rfl, fun U hU hW => ⟨rfl, by rw [hU]; exact hPc, va_K.moved hW.alike hKc⟩⟩ rfl rfl hl.1 rfl (lv_room (Nat.le_of_ble_eq_true rfl)) dX5_parts_8 ⟨Nat.le_of_ble_eq_true rfl, Nat.le_of_ble_eq_true rfl⟩) (fun r_1 w_1 => ?_)
  rcases w_1 with ⟨rfl, w_1⟩ | ⟨rfl, w_1⟩
  · have w_1 : (0 ≤ p0.toInt ∧ p0.toInt < p1.toInt ∧ p1.toInt ≤ m_n.toInt) := w_1
    refine lv_if_ne (tgt := 16) hx hb dX5_parts_11 (by decide) (fun c_2 => ?_) (fun c_2 => ?_)
    · refine lv_aload_n hx hb dX5_parts_16 rfl (lv_at hl 0 rfl) ?_
      refine lv_aload_n hx hb dX5_parts_17 rfl (lv_at hl 0 rfl) ?_
      refine va_get (D := (dC, dI)) (ci := 5) (v := .int m_slots) (C := RX5) (T := TX5) (N := 30) hx hb hts hi_5 hown hK hP 0 rfl rfl 2 (by decide) hf_13 (fun _ h9 => h9) rfl dX5_parts_18 ?_
      have hPc := hP.sub (ws' := [kx_5 h0 g_row m_n m_slots 0 g_many g_loss g_less g_voteValue g_voteNumber g_allValue g_allNumber m_allMany g_nodeL g_nodeR m_nodes g_part m_partMany g_wasMany g_wasLoss g_wasValue g_wasNumber g_path m_pathMany g_heavyValue g_heavyTimes m_heavyMany g_fewest g_which g_met m_mostMet, kx_a g_row cyI 160 f, kx_a g_many cyI 324 fm, kx_a g_loss cyI 324 fl, kx_a g_less cyI 324 fe, kx_a g_voteValue cyI 1944 vv, kx_a g_voteNumber cyI 1944 vn, kx_a g_allValue cyI 12 av, kx_a g_allNumber cyI 12 an, kx_a g_nodeL cyI 320 nl, kx_a g_nodeR cyI 320 nr]) [0, 1, 2, 3, 4, 5, 6, 7, 8, 9, 10] rfl
      have hKc := hK
      have hDc := hD.sub (ws' := [kx_5 h0 g_row m_n m_slots 0 g_many g_loss g_less g_voteValue g_voteNumber g_allValue g_allNumber m_allMany g_nodeL g_nodeR m_nodes g_part m_partMany g_wasMany g_wasLoss g_wasValue g_wasNumber g_path m_pathMany g_heavyValue g_heavyTimes m_heavyMany g_fewest g_which g_met m_mostMet, kx_a g_row cyI 160 f, kx_a g_many cyI 324 fm, kx_a g_loss cyI 324 fl, kx_a g_less cyI 324 fe, kx_a g_voteValue cyI 1944 vv, kx_a g_voteNumber cyI 1944 vn, kx_a g_allValue cyI 12 av, kx_a g_allNumber cyI 12 an, kx_a g_nodeL cyI 320 nl, kx_a g_nodeR cyI 320 nr]) [0, 1, 2, 3, 4, 5, 6, 7, 8, 9, 10] (by decide) rfl
      have hFc := va_free (wc := [kx_5 h0 g_row m_n m_slots 0 g_many g_loss g_less g_voteValue g_voteNumber g_allValue g_allNumber m_allMany g_nodeL g_nodeR m_nodes g_part m_partMany g_wasMany g_wasLoss g_wasValue g_wasNumber g_path m_pathMany g_heavyValue g_heavyTimes m_heavyMany g_fewest g_which g_met m_mostMet, kx_a g_row cyI 160 f, kx_a g_many cyI 324 fm, kx_a g_loss cyI 324 fl, kx_a g_less cyI 324 fe, kx_a g_voteValue cyI 1944 vv, kx_a g_voteNumber cyI 1944 vn, kx_a g_allValue cyI 12 av, kx_a g_allNumber cyI 12 an, kx_a g_nodeL cyI 320 nl, kx_a g_nodeR cyI 320 nr]) hD hS hA [0, 1, 2, 3, 4, 5, 6, 7, 8, 9, 10] rfl
      refine va_callv (va_runV (As := [.int m_slots]) (rest := []) ⟨hx, hb, hml, hown, hts⟩ (c_X5_laysAll l dC dI h0 g_row g_many g_loss g_less g_voteValue g_voteNumber g_allValue g_allNumber g_nodeL g_nodeR g_part g_wasMany g_wasLoss g_wasValue g_wasNumber g_path g_heavyValue g_heavyTimes g_fewest g_which g_met m_n m_slots 0 m_allMany m_nodes m_partMany m_pathMany m_heavyMany m_mostMet cyI fm fl fe vv vn f av an nl nr m_slots H.size a0 a1 sl0 sl1 s4) (cwV 1 hts gX5_parts_X5_laysAll rfl rfl rfl (by decide +kernel) ⟨Nat.le_of_ble_eq_true rfl, Nat.le_of_ble_eq_true rfl⟩) ⟨fun a U g mk q => by obtain ⟨q0, q1, qP, qK, qD⟩ := q; exact ⟨q0, q1, qP, va_K.moved (u := U) (U := U.calling g mk a) (Vm.Alike.refl U.vm) qK, qD⟩, va_recv hKc hPc (ci := 5) (q0 := 0) rfl rfl, fun U hU hW => ⟨rfl, by rw [hU], by rw [hU]; exact hPc, va_K.moved hW.alike hKc, hDc.weaken (fun _ _ _ _ => trivial)⟩⟩ rfl rfl hl.1 rfl (lv_room (Nat.le_of_ble_eq_true rfl)) dX5_parts_21 ⟨Nat.le_of_ble_eq_true rfl, Nat.le_of_ble_eq_true rfl⟩) hS (fun q _ h => hFc q h) hFc (fun u t H1 locs ht hvm w_3 hB hz1 hk1 hS => ?_)
      obtain ⟨o_4, o_5, o_6, o_7, o_8, o_9, o_10, o_11, o_12, o_13, o_14⟩ := u
      dsimp only at w_3 hB
      obtain ⟨hP1, hK1, hD1⟩ := hB
      rw [ht] at hP1
      have hK1 := va_K.moved hvm.symm hK1
      obtain ⟨hP, hD⟩ := va_join (wr := [kx_a g_part cyI 320 gp]) (w1 := [kx_5 h0 g_row m_n m_slots 0 g_many g_loss g_less g_voteValue g_voteNumber g_allValue g_allNumber o_5 g_nodeL g_nodeR o_4 g_part m_partMany g_wasMany g_wasLoss g_wasValue g_wasNumber g_path m_pathMany g_heavyValue g_heavyTimes m_heavyMany g_fewest g_which g_met m_mostMet, kx_a g_row cyI 160 f, kx_a g_many cyI 324 o_6, kx_a g_loss cyI 324 o_7, kx_a g_less cyI 324 o_8, kx_a g_voteValue cyI 1944 o_9, kx_a g_voteNumber cyI 1944 o_10, kx_a g_allValue cyI 12 o_11, kx_a g_allNumber cyI 12 o_12, kx_a g_nodeL cyI 320 o_13, kx_a g_nodeR cyI 320 o_14]) hP hD [0, 1, 2, 3, 4, 5, 6, 7, 8, 9, 10] [11] rfl rfl (by decide) (by decide) hk1 hFc hP1 hD1
      clear hP1 hD1 hK1 hk1 hz1 hFc hDc hPc hKc
      generalize H1 = H at hP hS ⊢
      have hP : va_P (dC, dI) vwCl [kx_a g_part cyI 320 gp, kx_5 h0 g_row m_n m_slots 0 g_many g_loss g_less g_voteValue g_voteNumber g_allValue g_allNumber o_5 g_nodeL g_nodeR o_4 g_part m_partMany g_wasMany g_wasLoss g_wasValue g_wasNumber g_path m_pathMany g_heavyValue g_heavyTimes m_heavyMany g_fewest g_which g_met m_mostMet, kx_a g_row cyI 160 f, kx_a g_many cyI 324 o_6, kx_a g_loss cyI 324 o_7, kx_a g_less cyI 324 o_8, kx_a g_voteValue cyI 1944 o_9, kx_a g_voteNumber cyI 1944 o_10, kx_a g_allValue cyI 12 o_11, kx_a g_allNumber cyI 12 o_12, kx_a g_nodeL cyI 320 o_13, kx_a g_nodeR cyI 320 o_14] H := hP
      have hD : va_D A [kx_a g_part cyI 320 gp, kx_5 h0 g_row m_n m_slots 0 g_many g_loss g_less g_voteValue g_voteNumber g_allValue g_allNumber o_5 g_nodeL g_nodeR o_4 g_part m_partMany g_wasMany g_wasLoss g_wasValue g_wasNumber g_path m_pathMany g_heavyValue g_heavyTimes m_heavyMany g_fewest g_which g_met m_mostMet, kx_a g_row cyI 160 f, kx_a g_many cyI 324 o_6, kx_a g_loss cyI 324 o_7, kx_a g_less cyI 324 o_8, kx_a g_voteValue cyI 1944 o_9, kx_a g_voteNumber cyI 1944 o_10, kx_a g_allValue cyI 12 o_11, kx_a g_allNumber cyI 12 o_12, kx_a g_nodeL cyI 320 o_13, kx_a g_nodeR cyI 320 o_14] := hD
      have w_3 : mj_L m_slots.toNatClampNeg f o_13 o_14 o_6 o_7 o_8 o_9 o_10 m_n.toInt o_4.toInt ∧ six4 o_6 ∧ 0 ≤ o_4.toInt ∧ o_4.toInt ≤ 319 := w_3
      refine lv_aload_n hx hb dX5_parts_24 rfl (lv_at hl 0 rfl) ?_
      refine lv_iload_n hx hb dX5_parts_25 rfl (lv_at hl 1 rfl) ?_
      refine lv_iload_n hx hb dX5_parts_26 rfl (lv_at hl 2 rfl) ?_
      have hPc := hP.sub (ws' := [kx_5 h0 g_row m_n m_slots 0 g_many g_loss g_less g_voteValue g_voteNumber g_allValue g_allNumber o_5 g_nodeL g_nodeR o_4 g_part m_partMany g_wasMany g_wasLoss g_wasValue g_wasNumber g_path m_pathMany g_heavyValue g_heavyTimes m_heavyMany g_fewest g_which g_met m_mostMet, kx_a g_nodeL cyI 320 o_13, kx_a g_nodeR cyI 320 o_14, kx_a g_part cyI 320 gp]) [1, 10, 11, 0] rfl
      have hKc := hK
      have hDc := hD.sub (ws' := [kx_5 h0 g_row m_n m_slots 0 g_many g_loss g_less g_voteValue g_voteNumber g_allValue g_allNumber o_5 g_nodeL g_nodeR o_4 g_part m_partMany g_wasMany g_wasLoss g_wasValue g_wasNumber g_path m_pathMany g_heavyValue g_heavyTimes m_heavyMany g_fewest g_which g_met m_mostMet, kx_a g_nodeL cyI 320 o_13, kx_a g_nodeR cyI 320 o_14, kx_a g_part cyI 320 gp]) [1, 10, 11, 0] (by decide) rfl
      have hFc := va_free (wc := [kx_5 h0 g_row m_n m_slots 0 g_many g_loss g_less g_voteValue g_voteNumber g_allValue g_allNumber o_5 g_nodeL g_nodeR o_4 g_part m_partMany g_wasMany g_wasLoss g_wasValue g_wasNumber g_path m_pathMany g_heavyValue g_heavyTimes m_heavyMany g_fewest g_which g_met m_mostMet, kx_a g_nodeL cyI 320 o_13, kx_a g_nodeR cyI 320 o_14, kx_a g_part cyI 320 gp]) hD hS hA [1, 10, 11, 0] rfl
      refine va_callv (va_runV (As := [.int p0, .int p1]) (rest := []) ⟨hx, hb, hml, hown, hts⟩ (c_X5_laysParts l dC dI h0 g_row g_many g_loss g_less g_voteValue g_voteNumber g_allValue g_allNumber g_nodeL g_nodeR g_part g_wasMany g_wasLoss g_wasValue g_wasNumber g_path g_heavyValue g_heavyTimes g_fewest g_which g_met m_n m_slots 0 o_5 o_4 m_partMany m_pathMany m_heavyMany m_mostMet cyI o_13 o_14 gp p0 p1 H.size w_3.2.2.1 w_3.2.2.2 q0) (cwV 2 hts gX5_parts_X5_laysParts rfl rfl rfl (by decide +kernel) ⟨Nat.le_of_ble_eq_true rfl, Nat.le_of_ble_eq_true rfl⟩) ⟨fun a U g mk q => by obtain ⟨q0, q1, qP, qK, qD⟩ := q; exact ⟨q0, q1, qP, va_K.moved (u := U) (U := U.calling g mk a) (Vm.Alike.refl U.vm) qK, qD⟩, va_recv hKc hPc (ci := 5) (q0 := 0) rfl rfl, fun U hU hW => ⟨rfl, by rw [hU], by rw [hU]; exact hPc, va_K.moved hW.alike hKc, hDc.weaken (fun _ _ _ _ => trivial)⟩⟩ rfl rfl hl.1 rfl (lv_room (Nat.le_of_ble_eq_true rfl)) dX5_parts_27 ⟨Nat.le_of_ble_eq_true rfl, Nat.le_of_ble_eq_true rfl⟩) hS (fun q _ h => hFc q h) hFc (fun u t H1 locs ht hvm w_15 hB hz1 hk1 hS => ?_)
      obtain ⟨o_16, o_17⟩ := u
      dsimp only at w_15 hB
      obtain ⟨hP1, hK1, hD1⟩ := hB
      rw [ht] at hP1
      have hK1 := va_K.moved hvm.symm hK1
      obtain ⟨hP, hD⟩ := va_join (wr := [kx_a g_row cyI 160 f, kx_a g_many cyI 324 o_6, kx_a g_loss cyI 324 o_7, kx_a g_less cyI 324 o_8, kx_a g_voteValue cyI 1944 o_9, kx_a g_voteNumber cyI 1944 o_10, kx_a g_allValue cyI 12 o_11, kx_a g_allNumber cyI 12 o_12]) (w1 := [kx_5 h0 g_row m_n m_slots 0 g_many g_loss g_less g_voteValue g_voteNumber g_allValue g_allNumber o_5 g_nodeL g_nodeR o_4 g_part o_16 g_wasMany g_wasLoss g_wasValue g_wasNumber g_path m_pathMany g_heavyValue g_heavyTimes m_heavyMany g_fewest g_which g_met m_mostMet, kx_a g_nodeL cyI 320 o_13, kx_a g_nodeR cyI 320 o_14, kx_a g_part cyI 320 o_17]) hP hD [1, 10, 11, 0] [2, 3, 4, 5, 6, 7, 8, 9] rfl rfl (by decide) (by decide) hk1 hFc hP1 hD1
      clear hP1 hD1 hK1 hk1 hz1 hFc hDc hPc hKc
      generalize H1 = H at hP hS ⊢
      have hP : va_P (dC, dI) vwCl [kx_a g_row cyI 160 f, kx_a g_many cyI 324 o_6, kx_a g_loss cyI 324 o_7, kx_a g_less cyI 324 o_8, kx_a g_voteValue cyI 1944 o_9, kx_a g_voteNumber cyI 1944 o_10, kx_a g_allValue cyI 12 o_11, kx_a g_allNumber cyI 12 o_12, kx_5 h0 g_row m_n m_slots 0 g_many g_loss g_less g_voteValue g_voteNumber g_allValue g_allNumber o_5 g_nodeL g_nodeR o_4 g_part o_16 g_wasMany g_wasLoss g_wasValue g_wasNumber g_path m_pathMany g_heavyValue g_heavyTimes m_heavyMany g_fewest g_which g_met m_mostMet, kx_a g_nodeL cyI 320 o_13, kx_a g_nodeR cyI 320 o_14, kx_a g_part cyI 320 o_17] H := hP
      have hD : va_D A [kx_a g_row cyI 160 f, kx_a g_many cyI 324 o_6, kx_a g_loss cyI 324 o_7, kx_a g_less cyI 324 o_8, kx_a g_voteValue cyI 1944 o_9, kx_a g_voteNumber cyI 1944 o_10, kx_a g_allValue cyI 12 o_11, kx_a g_allNumber cyI 12 o_12, kx_5 h0 g_row m_n m_slots 0 g_many g_loss g_less g_voteValue g_voteNumber g_allValue g_allNumber o_5 g_nodeL g_nodeR o_4 g_part o_16 g_wasMany g_wasLoss g_wasValue g_wasNumber g_path m_pathMany g_heavyValue g_heavyTimes m_heavyMany g_fewest g_which g_met m_mostMet, kx_a g_nodeL cyI 320 o_13, kx_a g_nodeR cyI 320 o_14, kx_a g_part cyI 320 o_17] := hD
      have w_15 : o_16.toInt = (mj_pq o_13 o_14 p0.toInt p1.toInt o_4.toNatClampNeg : Int) ∧ mj_pa o_13 o_14 p0.toInt p1.toInt o_17 o_4.toNatClampNeg ∧ parts320 o_17 ∧ 0 ≤ o_16.toInt ∧ o_16.toInt ≤ o_4.toInt := w_15
      refine lv_aload_n hx hb dX5_parts_30 rfl (lv_at hl 0 rfl) ?_
      refine va_get (D := (dC, dI)) (ci := 5) (v := .int o_16) (C := RX5) (T := TX5) (N := 30) hx hb hts hi_5 hown hK hP 8 rfl rfl 16 (by decide) hf_115 (fun _ h9 => h9) rfl dX5_parts_31 ?_
      have hP9 := hP.sub (ws' := [kx_5 h0 g_row m_n m_slots 0 g_many g_loss g_less g_voteValue g_voteNumber g_allValue g_allNumber o_5 g_nodeL g_nodeR o_4 g_part o_16 g_wasMany g_wasLoss g_wasValue g_wasNumber g_path m_pathMany g_heavyValue g_heavyTimes m_heavyMany g_fewest g_which g_met m_mostMet, kx_a g_row cyI 160 f, kx_a g_many cyI 324 o_6, kx_a g_loss cyI 324 o_7, kx_a g_less cyI 324 o_8, kx_a g_voteValue cyI 1944 o_9, kx_a g_voteNumber cyI 1944 o_10, kx_a g_allValue cyI 12 o_11, kx_a g_allNumber cyI 12 o_12, kx_a g_nodeL cyI 320 o_13, kx_a g_nodeR cyI 320 o_14, kx_a g_part cyI 320 o_17]) [8, 0, 1, 2, 3, 4, 5, 6, 7, 9, 10, 11] rfl
      have hD9 := hD.sub (ws' := [kx_5 h0 g_row m_n m_slots 0 g_many g_loss g_less g_voteValue g_voteNumber g_allValue g_allNumber o_5 g_nodeL g_nodeR o_4 g_part o_16 g_wasMany g_wasLoss g_wasValue g_wasNumber g_path m_pathMany g_heavyValue g_heavyTimes m_heavyMany g_fewest g_which g_met m_mostMet, kx_a g_row cyI 160 f, kx_a g_many cyI 324 o_6, kx_a g_loss cyI 324 o_7, kx_a g_less cyI 324 o_8, kx_a g_voteValue cyI 1944 o_9, kx_a g_voteNumber cyI 1944 o_10, kx_a g_allValue cyI 12 o_11, kx_a g_allNumber cyI 12 o_12, kx_a g_nodeL cyI 320 o_13, kx_a g_nodeR cyI 320 o_14, kx_a g_part cyI 320 o_17]) [8, 0, 1, 2, 3, 4, 5, 6, 7, 9, 10, 11] (by decide) rfl
      have hK9 := hK
      exact W.iret (v := o_16) hx hb hr (fun t ht hW => ⟨⟨o_16, (o_4, o_5, o_6, o_7, o_8, o_9, o_10, o_11, o_12, o_13, o_14, o_16, o_17), rfl, ⟨Or.inl ⟨(by (try dsimp only); omega), ⟨w_3.1, (by (try dsimp only); omega), (by (try dsimp only); omega)⟩, w_15.1⟩, w_3.2.1, w_15.2.2.1⟩, by rw [ht]; exact hP9, va_K.moved hW.alike hK9, hD9⟩, hS.F ht⟩) hS.2.2 dX5_parts_34
    · exact absurd c_2 (by decide)
  · have w_1 : (p0.toInt < 0 ∨ p1.toInt ≤ p0.toInt ∨ m_n.toInt < p1.toInt) := w_1
    refine lv_if_ne (tgt := 16) hx hb dX5_parts_11 (by decide) (fun c_18 => ?_) (fun c_18 => ?_)
    · exact absurd c_18 (by decide)
    · refine lv_iconst (v := (-1)) hx hb dX5_parts_14 (by decide) ?_
      have hP9 := hP
      have hD9 := hD
      have hK9 := hK
      exact W.iret (v := (-1)) hx hb hr (fun t ht hW => ⟨⟨(-1), (m_nodes, m_allMany, fm, fl, fe, vv, vn, av, an, nl, nr, m_partMany, gp), rfl, ⟨Or.inr ⟨(by (try dsimp only); omega), rfl⟩, s4, q0⟩, by rw [ht]; exact hP9, va_K.moved hW.alike hK9, hD9⟩, hS.F ht⟩) hS.2.2 dX5_parts_15

set_option maxHeartbeats 4000000 in
set_option maxRecDepth 100000 in
theorem c_X5_summary_x (l : Launch) (dC : Nat → ClassId) (dI : Nat → Nat → Nat) (h0 : Nat) (g_row : Nat) (g_many : Nat) (g_loss : Nat) (g_less : Nat) (g_voteValue : Nat) (g_voteNumber : Nat) (g_allValue : Nat) (g_allNumber : Nat) (g_nodeL : Nat) (g_nodeR : Nat) (g_part : Nat) (g_wasMany : Nat) (g_wasLoss : Nat) (g_wasValue : Nat) (g_wasNumber : Nat) (g_path : Nat) (g_heavyValue : Nat) (g_heavyTimes : Nat) (g_fewest : Nat) (g_which : Nat) (g_met : Nat) (m_n : Int32) (m_slots : Int32) (m_thrown : Int32) (m_allMany : Int32) (m_nodes : Int32) (m_partMany : Int32) (m_pathMany : Int32) (m_heavyMany : Int32) (m_mostMet : Int32) (cyI : ClassId) (fm : Nat → Int32) (fl : Nat → Int32) (fe : Nat → Int32) (vv : Nat → Int32) (vn : Nat → Int32) (f : Nat → Int32) (av : Nat → Int32) (an : Nat → Int32) (nl : Nat → Int32) (nr : Nat → Int32) (gp : Nat → Int32) (p0 : Int32) (p1 : Int32) (p2 : Int32) (sz : Nat) (a0 : 0 ≤ m_n.toInt) (a1 : m_n.toInt ≤ 160) (sl0 : 1 ≤ m_slots.toInt) (sl1 : m_slots.toInt ≤ 6) (s4 : six4 fm) (q0 : parts320 gp) : Met l yX5_summary wsX5_summary ({ frames := 13, cells := 0, slots := 0, locals := 585 }) (va_Pc [.ref h0, .int p0, .int p1, .int p2] (fun U => U.heap.size = sz ∧ va_P (dC, dI) vwCl [kx_5 h0 g_row m_n m_slots m_thrown g_many g_loss g_less g_voteValue g_voteNumber g_allValue g_allNumber m_allMany g_nodeL g_nodeR m_nodes g_part m_partMany g_wasMany g_wasLoss g_wasValue g_wasNumber g_path m_pathMany g_heavyValue g_heavyTimes m_heavyMany g_fewest g_which g_met m_mostMet, kx_a g_row cyI 160 f, kx_a g_many cyI 324 fm, kx_a g_loss cyI 324 fl, kx_a g_less cyI 324 fe, kx_a g_voteValue cyI 1944 vv, kx_a g_voteNumber cyI 1944 vn, kx_a g_allValue cyI 12 av, kx_a g_allNumber cyI 12 an, kx_a g_nodeL cyI 320 nl, kx_a g_nodeR cyI 320 nr, kx_a g_part cyI 320 gp] U.heap ∧ va_K (dC, dI) vwCl [(cyI, .int)] U ∧ va_D (fun _ => True) [kx_5 h0 g_row m_n m_slots m_thrown g_many g_loss g_less g_voteValue g_voteNumber g_allValue g_allNumber m_allMany g_nodeL g_nodeR m_nodes g_part m_partMany g_wasMany g_wasLoss g_wasValue g_wasNumber g_path m_pathMany g_heavyValue g_heavyTimes m_heavyMany g_fewest g_which g_met m_mostMet, kx_a g_row cyI 160 f, kx_a g_many cyI 324 fm, kx_a g_loss cyI 324 fl, kx_a g_less cyI 324 fe, kx_a g_voteValue cyI 1944 vv, kx_a g_voteNumber cyI 1944 vn, kx_a g_allValue cyI 12 av, kx_a g_allNumber cyI 12 an, kx_a g_nodeL cyI 320 nl, kx_a g_nodeR cyI 320 nr, kx_a g_part cyI 320 gp])) (va_Qi (fun (r : Int32) (u : Int32 × Int32 × (Nat → Int32) × (Nat → Int32) × (Nat → Int32) × (Nat → Int32) × (Nat → Int32) × (Nat → Int32) × (Nat → Int32) × (Nat → Int32) × (Nat → Int32) × Int32 × (Nat → Int32)) => (((0 ≤ p0.toInt ∧ p0.toInt < p1.toInt ∧ p1.toInt ≤ m_n.toInt ∧ 0 ≤ p2.toInt ∧ p2.toInt ≤ 2) ∧ ((mj_L m_slots.toNatClampNeg f u.2.2.2.2.2.2.2.2.2.1 u.2.2.2.2.2.2.2.2.2.2.1 u.2.2.1 u.2.2.2.1 u.2.2.2.2.1 u.2.2.2.2.2.1 u.2.2.2.2.2.2.1 m_n.toInt u.1.toInt ∧ 0 ≤ u.1.toInt ∧ u.1.toInt ≤ 319) ∧ mj_F m_slots.toNatClampNeg u.2.2.2.2.2.2.2.2.2.1 u.2.2.2.2.2.2.2.2.2.2.1 u.2.2.1 u.2.2.2.1 u.2.2.2.2.2.1 u.2.2.2.2.2.2.1 u.2.2.1 u.2.2.2.1 u.2.2.2.2.2.1 u.2.2.2.2.2.2.1 p0.toInt p1.toInt (mj_pq u.2.2.2.2.2.2.2.2.2.1 u.2.2.2.2.2.2.2.2.2.2.1 p0.toInt p1.toInt u.1.toNatClampNeg)) ∧ ((p2.toInt = 0 ∧ r = u.2.2.1 320) ∨ (p2.toInt = 1 ∧ r = mj_tot u.2.2.2.2.2.2.1 1920 (u.2.2.1 320).toNatClampNeg) ∨ (p2.toInt = 2 ∧ r = u.2.2.2.1 320))) ∨ ((p0.toInt < 0 ∨ p1.toInt ≤ p0.toInt ∨ m_n.toInt < p1.toInt ∨ p2.toInt < 0 ∨ 2 < p2.toInt) ∧ r = -1)) ∧ six4 u.2.2.1 ∧ parts320 u.2.2.2.2.2.2.2.2.2.2.2.2) (fun (u : Int32 × Int32 × (Nat → Int32) × (Nat → Int32) × (Nat → Int32) × (Nat → Int32) × (Nat → Int32) × (Nat → Int32) × (Nat → Int32) × (Nat → Int32) × (Nat → Int32) × Int32 × (Nat → Int32)) (t : State) => va_P (dC, dI) vwCl [kx_5 h0 g_row m_n m_slots 0 g_many g_loss g_less g_voteValue g_voteNumber g_allValue g_allNumber u.2.1 g_nodeL g_nodeR u.1 g_part u.2.2.2.2.2.2.2.2.2.2.2.1 g_wasMany g_wasLoss g_wasValue g_wasNumber g_path m_pathMany g_heavyValue g_heavyTimes m_heavyMany g_fewest g_which g_met m_mostMet, kx_a g_row cyI 160 f, kx_a g_many cyI 324 u.2.2.1, kx_a g_loss cyI 324 u.2.2.2.1, kx_a g_less cyI 324 u.2.2.2.2.1, kx_a g_voteValue cyI 1944 u.2.2.2.2.2.1, kx_a g_voteNumber cyI 1944 u.2.2.2.2.2.2.1, kx_a g_allValue cyI 12 u.2.2.2.2.2.2.2.1, kx_a g_allNumber cyI 12 u.2.2.2.2.2.2.2.2.1, kx_a g_nodeL cyI 320 u.2.2.2.2.2.2.2.2.2.1, kx_a g_nodeR cyI 320 u.2.2.2.2.2.2.2.2.2.2.1, kx_a g_part cyI 320 u.2.2.2.2.2.2.2.2.2.2.2.2] t.heap ∧ va_K (dC, dI) vwCl [(cyI, .int)] t ∧ va_D (va_A [kx_5 h0 g_row m_n m_slots m_thrown g_many g_loss g_less g_voteValue g_voteNumber g_allValue g_allNumber m_allMany g_nodeL g_nodeR m_nodes g_part m_partMany g_wasMany g_wasLoss g_wasValue g_wasNumber g_path m_pathMany g_heavyValue g_heavyTimes m_heavyMany g_fewest g_which g_met m_mostMet, kx_a g_row cyI 160 f, kx_a g_many cyI 324 fm, kx_a g_loss cyI 324 fl, kx_a g_less cyI 324 fe, kx_a g_voteValue cyI 1944 vv, kx_a g_voteNumber cyI 1944 vn, kx_a g_allValue cyI 12 av, kx_a g_allNumber cyI 12 an, kx_a g_nodeL cyI 320 nl, kx_a g_nodeR cyI 320 nr, kx_a g_part cyI 320 gp] sz) [kx_5 h0 g_row m_n m_slots 0 g_many g_loss g_less g_voteValue g_voteNumber g_allValue g_allNumber u.2.1 g_nodeL g_nodeR u.1 g_part u.2.2.2.2.2.2.2.2.2.2.2.1 g_wasMany g_wasLoss g_wasValue g_wasNumber g_path m_pathMany g_heavyValue g_heavyTimes m_heavyMany g_fewest g_which g_met m_mostMet, kx_a g_row cyI 160 f, kx_a g_many cyI 324 u.2.2.1, kx_a g_loss cyI 324 u.2.2.2.1, kx_a g_less cyI 324 u.2.2.2.2.1, kx_a g_voteValue cyI 1944 u.2.2.2.2.2.1, kx_a g_voteNumber cyI 1944 u.2.2.2.2.2.2.1, kx_a g_allValue cyI 12 u.2.2.2.2.2.2.2.1, kx_a g_allNumber cyI 12 u.2.2.2.2.2.2.2.2.1, kx_a g_nodeL cyI 320 u.2.2.2.2.2.2.2.2.2.1, kx_a g_nodeR cyI 320 u.2.2.2.2.2.2.2.2.2.2.1, kx_a g_part cyI 320 u.2.2.2.2.2.2.2.2.2.2.2.2]) (va_A [kx_5 h0 g_row m_n m_slots m_thrown g_many g_loss g_less g_voteValue g_voteNumber g_allValue g_allNumber m_allMany g_nodeL g_nodeR m_nodes g_part m_partMany g_wasMany g_wasLoss g_wasValue g_wasNumber g_path m_pathMany g_heavyValue g_heavyTimes m_heavyMany g_fewest g_which g_met m_mostMet, kx_a g_row cyI 160 f, kx_a g_many cyI 324 fm, kx_a g_loss cyI 324 fl, kx_a g_less cyI 324 fe, kx_a g_voteValue cyI 1944 vv, kx_a g_voteNumber cyI 1944 vn, kx_a g_allValue cyI 12 av, kx_a g_allNumber cyI 12 an, kx_a g_nodeL cyI 320 nl, kx_a g_nodeR cyI 320 nr, kx_a g_part cyI 320 gp] sz)) 0 0 (va_A [kx_5 h0 g_row m_n m_slots m_thrown g_many g_loss g_less g_voteValue g_voteNumber g_allValue g_allNumber m_allMany g_nodeL g_nodeR m_nodes g_part m_partMany g_wasMany g_wasLoss g_wasValue g_wasNumber g_path m_pathMany g_heavyValue g_heavyTimes m_heavyMany g_fewest g_which g_met m_mostMet, kx_a g_row cyI 160 f, kx_a g_many cyI 324 fm, kx_a g_loss cyI 324 fl, kx_a g_less cyI 324 fe, kx_a g_voteValue cyI 1944 vv, kx_a g_voteNumber cyI 1944 vn, kx_a g_allValue cyI 12 av, kx_a g_allNumber cyI 12 an, kx_a g_nodeL cyI 320 nl, kx_a g_nodeR cyI 320 nr, kx_a g_part cyI 320 gp] sz) := by
  refine Met.ofW (cc := cX5_summary) (maxL := 4) (ret := (some .int)) (by decide) rfl ?_
  intro p e s m args below meth c s₁ B hml hv
  obtain ⟨rfl, hsz, hP, hK, hD0⟩ := hv
  have hx := B.exec
  have hb := B.bytes
  have hr := B.returns
  have hts := atoms_spec (ws := wsX5_summary) B.pre
  have hown : s.vm.findClass RX5 = some m.cls := findClass_of_methodNamed B.named
  have hlocks := B.notSynchronized
  subst hsz
  have hD := hD0.self (sz := s.heap.size)
  generalize hAe : va_A [kx_5 h0 g_row m_n m_slots m_thrown g_many g_loss g_less g_voteValue g_voteNumber g_allValue g_allNumber m_allMany g_nodeL g_nodeR m_nodes g_part m_partMany g_wasMany g_wasLoss g_wasValue g_wasNumber g_path m_pathMany g_heavyValue g_heavyTimes m_heavyMany g_fewest g_which g_met m_mostMet, kx_a g_row cyI 160 f, kx_a g_many cyI 324 fm, kx_a g_loss cyI 324 fl, kx_a g_less cyI 324 fe, kx_a g_voteValue cyI 1944 vv, kx_a g_voteNumber cyI 1944 vn, kx_a g_allValue cyI 12 av, kx_a g_allNumber cyI 12 an, kx_a g_nodeL cyI 320 nl, kx_a g_nodeR cyI 320 nr, kx_a g_part cyI 320 gp] s.heap.size = A at hD ⊢
  have hA : ∀ q : Nat, s.heap.size ≤ q → A q := fun q h => by rw [← hAe]; exact Or.inr h
  have hS : va_S A s.heap s.heap [] := va_S.rf
  have hP : va_P (dC, dI) vwCl [kx_5 h0 g_row m_n m_slots m_thrown g_many g_loss g_less g_voteValue g_voteNumber g_allValue g_allNumber m_allMany g_nodeL g_nodeR m_nodes g_part m_partMany g_wasMany g_wasLoss g_wasValue g_wasNumber g_path m_pathMany g_heavyValue g_heavyTimes m_heavyMany g_fewest g_which g_met m_mostMet, kx_a g_row cyI 160 f, kx_a g_many cyI 324 fm, kx_a g_loss cyI 324 fl, kx_a g_less cyI 324 fe, kx_a g_voteValue cyI 1944 vv, kx_a g_voteNumber cyI 1944 vn, kx_a g_allValue cyI 12 av, kx_a g_allNumber cyI 12 an, kx_a g_nodeL cyI 320 nl, kx_a g_nodeR cyI 320 nr, kx_a g_part cyI 320 gp] s.heap := hP
  have hl := lv_entry ([.ref h0, .int p0, .int p1, .int p2]) (n := 4) (Nat.le_of_ble_eq_true rfl)
  rw [lg_entry_eq]
  generalize (lg_sl ([.ref h0, .int p0, .int p1, .int p2]) ++ List.replicate (4 - (lg_sl ([.ref h0, .int p0, .int p1, .int p2])).length) Slot.unset).toArray = ls at hl ⊢
  have hl : lv_has ls 4 [(0, .ref h0), (1, .int p0), (2, .int p1), (3, .int p2)] := hl
  have hf_77 := hts (.fieldLink RX5 77 "MajorityIndexModel" "thrown" "I") (List.mem_of_getElem? (i := 1) rfl)
  have hi_5 : ∀ w ∈ u_ws RX5 TX5 30, w ∈ wsX5_summary := fun w h => List.mem_cons_of_mem _ (List.mem_append_right _ h)
  have hf_20 := hts (.fieldLink RX5 20 "MajorityIndexModel" "loss" "[I") (List.mem_of_getElem? (i := 3) rfl)
  have hf_17 := hts (.fieldLink RX5 17 "MajorityIndexModel" "many" "[I") (List.mem_of_getElem? (i := 2) rfl)
  refine lv_aload_n hx hb dX5_summary_0 rfl (lv_at hl 0 rfl) ?_
  refine lv_iconst (v := 0) hx hb dX5_summary_1 (by decide) ?_
  refine va_put (D := (dC, dI)) (ci := 5) (v := .int 0) (ty := .int) (C := RX5) (T := TX5) (N := 30) hx hb hts hi_5 tyX5 tyX5_ok nmX5 hown hK hP hD hS 0 rfl rfl 3 (by decide) hf_77 (fun _ h9 => h9) rfl (by decide +kernel) rfl rfl (Nat.le_of_ble_eq_true rfl) dX5_summary_2 (fun H locs hP hD hS => ?_)
  have hP : va_P (dC, dI) vwCl [kx_5 h0 g_row m_n m_slots 0 g_many g_loss g_less g_voteValue g_voteNumber g_allValue g_allNumber m_allMany g_nodeL g_nodeR m_nodes g_part m_partMany g_wasMany g_wasLoss g_wasValue g_wasNumber g_path m_pathMany g_heavyValue g_heavyTimes m_heavyMany g_fewest g_which g_met m_mostMet, kx_a g_row cyI 160 f, kx_a g_many cyI 324 fm, kx_a g_loss cyI 324 fl, kx_a g_less cyI 324 fe, kx_a g_voteValue cyI 1944 vv, kx_a g_voteNumber cyI 1944 vn, kx_a g_allValue cyI 12 av, kx_a g_allNumber cyI 12 an, kx_a g_nodeL cyI 320 nl, kx_a g_nodeR cyI 320 nr, kx_a g_part cyI 320 gp] H := hP
  have hD : va_D A [kx_5 h0 g_row m_n m_slots 0 g_many g_loss g_less g_voteValue g_voteNumber g_allValue g_allNumber m_allMany g_nodeL g_nodeR m_nodes g_part m_partMany g_wasMany g_wasLoss g_wasValue g_wasNumber g_path m_pathMany g_heavyValue g_heavyTimes m_heavyMany g_fewest g_which g_met m_mostMet, kx_a g_row cyI 160 f, kx_a g_many cyI 324 fm, kx_a g_loss cyI 324 fl, kx_a g_less cyI 324 fe, kx_a g_voteValue cyI 1944 vv, kx_a g_voteNumber cyI 1944 vn, kx_a g_allValue cyI 12 av, kx_a g_allNumber cyI 12 an, kx_a g_nodeL cyI 320 nl, kx_a g_nodeR cyI 320 nr, kx_a g_part cyI 320 gp] := hD
  refine lv_aload_n hx hb dX5_summary_5 rfl (lv_at hl 0 rfl) ?_
  refine lv_iload_n hx hb dX5_summary_6 rfl (lv_at hl 1 rfl) ?_
  refine lv_iload_n hx hb dX5_summary_7 rfl (lv_at hl 2 rfl) ?_
  have hPc := hP.sub (ws' := [kx_5 h0 g_row m_n m_slots 0 g_many g_loss g_less g_voteValue g_voteNumber g_allValue g_allNumber m_allMany g_nodeL g_nodeR m_nodes g_part m_partMany g_wasMany g_wasLoss g_wasValue g_wasNumber g_path m_pathMany g_heavyValue g_heavyTimes m_heavyMany g_fewest g_which g_met m_mostMet]) [0] rfl
  have hKc := hK.sub (tys' := []) [] rfl
  refine vp_callSi (W.runV (As := [.int p0, .int p1]) (rest := []) ⟨hx, hb, hml, hown, hts⟩ (c_X5_isRange l dC dI h0 g_row g_many g_loss g_less g_voteValue g_voteNumber g_allValue g_allNumber g_nodeL g_nodeR g_part g_wasMany g_wasLoss g_wasValue g_wasNumber g_path g_heavyValue g_heavyTimes g_fewest g_which g_met m_n m_slots 0 m_allMany m_nodes m_partMany m_pathMany m_heavyMany m_mostMet p0 p1) (cwV 2 hts gX5_summary_X5_isRange rfl rfl rfl (by decide +kernel) ⟨Nat.le_of_ble_eq_true rfl, Nat.le_of_ble_eq_true rfl⟩) ⟨fun a U g mk q => by obtain ⟨q0, qP, qK⟩ := q; exact ⟨q0, qP, va_K.moved (u := U) (U := U.calling g mk a) (Vm.Alike.refl U.vm) qK⟩, va_recv hKc hPc (ci := 5) (q0 := 0) rfl rfl, fun U hU hW => ⟨rfl, by rw [hU]; exact hPc, va_K.moved hW.alike hKc⟩⟩ rfl rfl hl.1 rfl (lv_room (Nat.le_of_ble_eq_true rfl)) dX5_summary_8 ⟨Nat.le_of_ble_eq_true rfl, Nat.le_of_ble_eq_true rfl⟩) (fun r_1 w_1 => ?_)
  rcases w_1 with ⟨rfl, w_1⟩ | ⟨rfl, w_1⟩
  · have w_1 : (0 ≤ p0.toInt ∧ p0.toInt < p1.toInt ∧ p1.toInt ≤ m_n.toInt) := w_1
    refine lv_if_eq (tgt := 23) hx hb dX5_summary_11 (by decide) (fun c_2 => ?_) (fun c_2 => ?_)
    · exact absurd c_2 (by decide)
    · refine lv_iload_n hx hb dX5_summary_14 rfl (lv_at hl 3 rfl) ?_
      refine lv_iconst (v := 0) hx hb dX5_summary_15 (by decide) ?_
      refine lv_iconst (v := 2) hx hb dX5_summary_16 (by decide) ?_
      have hPc := hP.sub (ws' := []) [] rfl
      have hKc := hK.sub (tys' := []) [] rfl
      refine vp_callSi (W.runS (As := [.int p2, .int 0, .int 2]) (rest := []) ⟨hx, hb, hml, hown, hts⟩ (c_X5_within l dC dI p2 0 2) (va_cwS 3 hts gX5_summary_X5_within rfl rfl rfl (by decide +kernel) ⟨Nat.le_of_ble_eq_true rfl, Nat.le_of_ble_eq_true rfl⟩) ⟨fun a U g mk q => by obtain ⟨q0, qP, qK⟩ := q; exact ⟨q0, qP, va_K.moved (u := U) (U := U.calling g mk a) (Vm.Alike.refl U.vm) qK⟩, fun U hU hW => ⟨rfl, by rw [hU]; exact hPc, va_K.moved hW.alike hKc⟩⟩ rfl rfl hl.1 rfl (lv_room (Nat.le_of_ble_eq_true rfl)) dX5_summary_17 ⟨Nat.le_of_ble_eq_true rfl, Nat.le_of_ble_eq_true rfl⟩) (fun r_3 w_3 => ?_)
      rcases w_3 with ⟨rfl, w_3⟩ | ⟨rfl, w_3⟩
      · have w_3 : (0 ≤ p2.toInt ∧ p2.toInt ≤ 2) := w_3
        refine lv_if_ne (tgt := 25) hx hb dX5_summary_20 (by decide) (fun c_4 => ?_) (fun c_4 => ?_)
        · refine lv_aload_n hx hb dX5_summary_25 rfl (lv_at hl 0 rfl) ?_
          refine lv_iload_n hx hb dX5_summary_26 rfl (lv_at hl 1 rfl) ?_
          refine lv_iload_n hx hb dX5_summary_27 rfl (lv_at hl 2 rfl) ?_
          have hPc := hP
          have hKc := hK
          have hDc := hD
          have hFc := kx_free hD hS hA
          refine va_callv (va_runV (As := [.int p0, .int p1]) (rest := []) ⟨hx, hb, hml, hown, hts⟩ (c_X5_sums l dC dI h0 g_row g_many g_loss g_less g_voteValue g_voteNumber g_allValue g_allNumber g_nodeL g_nodeR g_part g_wasMany g_wasLoss g_wasValue g_wasNumber g_path g_heavyValue g_heavyTimes g_fewest g_which g_met m_n m_slots 0 m_allMany m_nodes m_partMany m_pathMany m_heavyMany m_mostMet cyI fm fl fe vv vn f av an nl nr gp p0 p1 H.size a0 a1 sl0 sl1 s4 q0 (by omega) (by omega) (by omega)) (cwV 2 hts gX5_summary_X5_sums rfl rfl rfl (by decide +kernel) ⟨Nat.le_of_ble_eq_true rfl, Nat.le_of_ble_eq_true rfl⟩) ⟨fun a U g mk q => by obtain ⟨q0, q1, qP, qK, qD⟩ := q; exact ⟨q0, q1, qP, va_K.moved (u := U) (U := U.calling g mk a) (Vm.Alike.refl U.vm) qK, qD⟩, va_recv hKc hPc (ci := 5) (q0 := 0) rfl rfl, fun U hU hW => ⟨rfl, by rw [hU], by rw [hU]; exact hPc, va_K.moved hW.alike hKc, hDc.weaken (fun _ _ _ _ => trivial)⟩⟩ rfl rfl hl.1 rfl (lv_room (Nat.le_of_ble_eq_true rfl)) dX5_summary_28 ⟨Nat.le_of_ble_eq_true rfl, Nat.le_of_ble_eq_true rfl⟩) hS (fun q _ h => hFc q h) hFc (fun u t H1 locs ht hvm w_5 hB hz1 hk1 hS => ?_)
          obtain ⟨o_6, o_7, o_8, o_9, o_10, o_11, o_12, o_13, o_14, o_15, o_16, o_17, o_18⟩ := u
          dsimp only at w_5 hB
          obtain ⟨hP1, hK1, hD1⟩ := hB
          rw [ht] at hP1
          have hK1 := va_K.moved hvm.symm hK1
          have hD := hD1.weaken (fun _ q _ h => hFc q.1 h)
          have hP := hP1
          clear hP1 hD1 hK1 hk1 hz1 hFc hDc hPc hKc
          generalize H1 = H at hP hS ⊢
          have w_5 : six4 o_8 ∧ parts320 o_18 ∧ mj_L m_slots.toNatClampNeg f o_15 o_16 o_8 o_9 o_10 o_11 o_12 m_n.toInt o_6.toInt ∧ 0 ≤ o_6.toInt ∧ o_6.toInt ≤ 319 ∧ mj_F m_slots.toNatClampNeg o_15 o_16 o_8 o_9 o_11 o_12 o_8 o_9 o_11 o_12 p0.toInt p1.toInt (mj_pq o_15 o_16 p0.toInt p1.toInt o_6.toNatClampNeg) := w_5
          refine lv_iload_n hx hb dX5_summary_31 rfl (lv_at hl 3 rfl) ?_
          refine lv_if_ne (tgt := 46) hx hb dX5_summary_32 (by decide) (fun c_19 => ?_) (fun c_19 => ?_)
          · have i_19 : ¬ p2.toInt = 0 := kc_ne c_19
            refine lv_iload_n hx hb dX5_summary_46 rfl (lv_at hl 3 rfl) ?_
            refine lv_iconst (v := 1) hx hb dX5_summary_47 (by decide) ?_
            refine lv_icmp_ne (tgt := 61) hx hb dX5_summary_48 (by decide) (fun c_20 => ?_) (fun c_20 => ?_)
            · have i_20 : ¬ p2.toInt = 1 := kc_ne c_20
              refine lv_aload_n hx hb dX5_summary_61 rfl (lv_at hl 0 rfl) ?_
              refine va_get (D := (dC, dI)) (ci := 5) (v := .ref g_loss) (C := RX5) (T := TX5) (N := 30) hx hb hts hi_5 hown hK hP 0 rfl rfl 5 (by decide) hf_20 (fun _ h9 => h9) rfl dX5_summary_62 ?_
              refine lv_sipush (v := 320) hx hb dX5_summary_65 (by decide) ?_
              refine va_iald hx hb hK hP 3 0 rfl rfl (ki_inl (by decide)) dX5_summary_68 ?_
              refine lv_topi (fun y_21 ey_21 => ?_)
              have j_21 : y_21.toInt = (o_9 (320 : Int32).toNatClampNeg).toInt := congrArg Int32.toInt ey_21
              have hP9 := hP
              have hD9 := hD
              have hK9 := hK
              exact W.iret (v := y_21) hx hb hr (fun t ht hW => ⟨⟨y_21, (o_6, o_7, o_8, o_9, o_10, o_11, o_12, o_13, o_14, o_15, o_16, o_17, o_18), rfl, ⟨Or.inl ⟨(by (try dsimp only); omega), ⟨⟨w_5.2.2.1, (by (try dsimp only); omega), (by (try dsimp only); omega)⟩, w_5.2.2.2.2.2⟩, Or.inr (Or.inr ⟨(by omega), ey_21⟩)⟩, w_5.1, w_5.2.1⟩, by rw [ht]; exact hP9, va_K.moved hW.alike hK9, hD9⟩, hS.F ht⟩) hS.2.2 dX5_summary_69
            · have i_20 : p2.toInt = 1 := kc_eq c_20
              refine lv_aload_n hx hb dX5_summary_51 rfl (lv_at hl 0 rfl) ?_
              refine lv_sipush (v := 320) hx hb dX5_summary_52 (by decide) ?_
              have hPc := hP.sub (ws' := [kx_5 h0 g_row m_n m_slots 0 g_many g_loss g_less g_voteValue g_voteNumber g_allValue g_allNumber o_7 g_nodeL g_nodeR o_6 g_part o_17 g_wasMany g_wasLoss g_wasValue g_wasNumber g_path m_pathMany g_heavyValue g_heavyTimes m_heavyMany g_fewest g_which g_met m_mostMet, kx_a g_many cyI 324 o_8, kx_a g_voteNumber cyI 1944 o_12]) [0, 2, 6] rfl
              have hKc := hK
              have k_22 : (320 : Int32).toInt = 320 := rfl
              refine vp_callSi (W.runV (As := [.int 320]) (rest := []) ⟨hx, hb, hml, hown, hts⟩ (c_X5_numbersOf_x l dC dI h0 g_row g_many g_loss g_less g_voteValue g_voteNumber g_allValue g_allNumber g_nodeL g_nodeR g_part g_wasMany g_wasLoss g_wasValue g_wasNumber g_path g_heavyValue g_heavyTimes g_fewest g_which g_met m_n m_slots 0 o_7 o_6 o_17 m_pathMany m_heavyMany m_mostMet cyI o_8 o_12 320 (by omega) (by omega) w_5.1) (cwV 1 hts gX5_summary_X5_numbersOf rfl rfl rfl (by decide +kernel) ⟨Nat.le_of_ble_eq_true rfl, Nat.le_of_ble_eq_true rfl⟩) ⟨fun a U g mk q => by obtain ⟨q0, qP, qK⟩ := q; exact ⟨q0, qP, va_K.moved (u := U) (U := U.calling g mk a) (Vm.Alike.refl U.vm) qK⟩, va_recv hKc hPc (ci := 5) (q0 := 0) rfl rfl, fun U hU hW => ⟨rfl, by rw [hU]; exact hPc, va_K.moved hW.alike hKc⟩⟩ rfl rfl hl.1 rfl (lv_room (Nat.le_of_ble_eq_true rfl)) dX5_summary_55 ⟨Nat.le_of_ble_eq_true rfl, Nat.le_of_ble_eq_true rfl⟩) (fun r_23 w_23 => ?_)
              subst w_23
              refine lv_goto (tgt := 69) hx hb dX5_summary_58 (by decide) ?_
              have hP9 := hP
              have hD9 := hD
              have hK9 := hK
              exact W.iret (v := (mj_tot o_12 (6 * (320 : Int32).toNatClampNeg) (o_8 (320 : Int32).toNatClampNeg).toNatClampNeg)) hx hb hr (fun t ht hW => ⟨⟨(mj_tot o_12 (6 * (320 : Int32).toNatClampNeg) (o_8 (320 : Int32).toNatClampNeg).toNatClampNeg), (o_6, o_7, o_8, o_9, o_10, o_11, o_12, o_13, o_14, o_15, o_16, o_17, o_18), rfl, ⟨Or.inl ⟨(by (try dsimp only); omega), ⟨⟨w_5.2.2.1, (by (try dsimp only); omega), (by (try dsimp only); omega)⟩, w_5.2.2.2.2.2⟩, Or.inr (Or.inl ⟨(by omega), rfl⟩)⟩, w_5.1, w_5.2.1⟩, by rw [ht]; exact hP9, va_K.moved hW.alike hK9, hD9⟩, hS.F ht⟩) hS.2.2 dX5_summary_69
          · have i_19 : p2.toInt = 0 := kc_eq c_19
            refine lv_aload_n hx hb dX5_summary_35 rfl (lv_at hl 0 rfl) ?_
            refine va_get (D := (dC, dI)) (ci := 5) (v := .ref g_many) (C := RX5) (T := TX5) (N := 30) hx hb hts hi_5 hown hK hP 0 rfl rfl 4 (by decide) hf_17 (fun _ h9 => h9) rfl dX5_summary_36 ?_
            refine lv_sipush (v := 320) hx hb dX5_summary_39 (by decide) ?_
            refine va_iald hx hb hK hP 2 0 rfl rfl (ki_inl (by decide)) dX5_summary_42 ?_
            refine lv_topi (fun y_24 ey_24 => ?_)
            have j_24 : y_24.toInt = (o_8 (320 : Int32).toNatClampNeg).toInt := congrArg Int32.toInt ey_24
            have n_25 : ((320 : Int32).toNatClampNeg : Int) = 320 := ki_nat _ rfl (by omega)
            have i_26 := w_5.1 (320 : Int32).toNatClampNeg (by omega)
            refine lv_goto (tgt := 69) hx hb dX5_summary_43 (by decide) ?_
            have hP9 := hP
            have hD9 := hD
            have hK9 := hK
            exact W.iret (v := y_24) hx hb hr (fun t ht hW => ⟨⟨y_24, (o_6, o_7, o_8, o_9, o_10, o_11, o_12, o_13, o_14, o_15, o_16, o_17, o_18), rfl, ⟨Or.inl ⟨(by (try dsimp only); omega), ⟨⟨w_5.2.2.1, (by (try dsimp only); omega), (by (try dsimp only); omega)⟩, w_5.2.2.2.2.2⟩, Or.inl ⟨(by omega), ey_24⟩⟩, w_5.1, w_5.2.1⟩, by rw [ht]; exact hP9, va_K.moved hW.alike hK9, hD9⟩, hS.F ht⟩) hS.2.2 dX5_summary_69
        · exact absurd c_4 (by decide)
      · have w_3 : (p2.toInt < 0 ∨ 2 < p2.toInt) := w_3
        refine lv_if_ne (tgt := 25) hx hb dX5_summary_20 (by decide) (fun c_27 => ?_) (fun c_27 => ?_)
        · exact absurd c_27 (by decide)
        · refine lv_iconst (v := (-1)) hx hb dX5_summary_23 (by decide) ?_
          have hP9 := hP
          have hD9 := hD
          have hK9 := hK
          exact W.iret (v := (-1)) hx hb hr (fun t ht hW => ⟨⟨(-1), (m_nodes, m_allMany, fm, fl, fe, vv, vn, av, an, nl, nr, m_partMany, gp), rfl, ⟨Or.inr ⟨(by (try dsimp only); omega), rfl⟩, s4, q0⟩, by rw [ht]; exact hP9, va_K.moved hW.alike hK9, hD9⟩, hS.F ht⟩) hS.2.2 dX5_summary_24
  · have w_1 : (p0.toInt < 0 ∨ p1.toInt ≤ p0.toInt ∨ m_n.toInt < p1.toInt) := w_1
    refine lv_if_eq (tgt := 23) hx hb dX5_summary_11 (by decide) (fun c_28 => ?_) (fun c_28 => ?_)
    · refine lv_iconst (v := (-1)) hx hb dX5_summary_23 (by decide) ?_
      have hP9 := hP
      have hD9 := hD
      have hK9 := hK
      exact W.iret (v := (-1)) hx hb hr (fun t ht hW => ⟨⟨(-1), (m_nodes, m_allMany, fm, fl, fe, vv, vn, av, an, nl, nr, m_partMany, gp), rfl, ⟨Or.inr ⟨(by (try dsimp only); omega), rfl⟩, s4, q0⟩, by rw [ht]; exact hP9, va_K.moved hW.alike hK9, hD9⟩, hS.F ht⟩) hS.2.2 dX5_summary_24
    · exact absurd c_28 (by decide)

set_option maxHeartbeats 4000000 in
set_option maxRecDepth 100000 in
theorem c_X5_lost_x (l : Launch) (dC : Nat → ClassId) (dI : Nat → Nat → Nat) (h0 : Nat) (g_row : Nat) (g_many : Nat) (g_loss : Nat) (g_less : Nat) (g_voteValue : Nat) (g_voteNumber : Nat) (g_allValue : Nat) (g_allNumber : Nat) (g_nodeL : Nat) (g_nodeR : Nat) (g_part : Nat) (g_wasMany : Nat) (g_wasLoss : Nat) (g_wasValue : Nat) (g_wasNumber : Nat) (g_path : Nat) (g_heavyValue : Nat) (g_heavyTimes : Nat) (g_fewest : Nat) (g_which : Nat) (g_met : Nat) (m_n : Int32) (m_slots : Int32) (m_thrown : Int32) (m_allMany : Int32) (m_nodes : Int32) (m_partMany : Int32) (m_pathMany : Int32) (m_heavyMany : Int32) (m_mostMet : Int32) (cyI : ClassId) (fm : Nat → Int32) (fl : Nat → Int32) (fe : Nat → Int32) (vv : Nat → Int32) (vn : Nat → Int32) (f : Nat → Int32) (av : Nat → Int32) (an : Nat → Int32) (nl : Nat → Int32) (nr : Nat → Int32) (gp : Nat → Int32) (p0 : Int32) (p1 : Int32) (p2 : Int32) (sz : Nat) (a0 : 0 ≤ m_n.toInt) (a1 : m_n.toInt ≤ 160) (sl0 : 1 ≤ m_slots.toInt) (sl1 : m_slots.toInt ≤ 6) (s4 : six4 fm) (q0 : parts320 gp) : Met l yX5_lost wsX5_lost ({ frames := 13, cells := 0, slots := 0, locals := 585 }) (va_Pc [.ref h0, .int p0, .int p1, .int p2] (fun U => U.heap.size = sz ∧ va_P (dC, dI) vwCl [kx_5 h0 g_row m_n m_slots m_thrown g_many g_loss g_less g_voteValue g_voteNumber g_allValue g_allNumber m_allMany g_nodeL g_nodeR m_nodes g_part m_partMany g_wasMany g_wasLoss g_wasValue g_wasNumber g_path m_pathMany g_heavyValue g_heavyTimes m_heavyMany g_fewest g_which g_met m_mostMet, kx_a g_row cyI 160 f, kx_a g_many cyI 324 fm, kx_a g_loss cyI 324 fl, kx_a g_less cyI 324 fe, kx_a g_voteValue cyI 1944 vv, kx_a g_voteNumber cyI 1944 vn, kx_a g_allValue cyI 12 av, kx_a g_allNumber cyI 12 an, kx_a g_nodeL cyI 320 nl, kx_a g_nodeR cyI 320 nr, kx_a g_part cyI 320 gp] U.heap ∧ va_K (dC, dI) vwCl [(cyI, .int)] U ∧ va_D (fun _ => True) [kx_5 h0 g_row m_n m_slots m_thrown g_many g_loss g_less g_voteValue g_voteNumber g_allValue g_allNumber m_allMany g_nodeL g_nodeR m_nodes g_part m_partMany g_wasMany g_wasLoss g_wasValue g_wasNumber g_path m_pathMany g_heavyValue g_heavyTimes m_heavyMany g_fewest g_which g_met m_mostMet, kx_a g_row cyI 160 f, kx_a g_many cyI 324 fm, kx_a g_loss cyI 324 fl, kx_a g_less cyI 324 fe, kx_a g_voteValue cyI 1944 vv, kx_a g_voteNumber cyI 1944 vn, kx_a g_allValue cyI 12 av, kx_a g_allNumber cyI 12 an, kx_a g_nodeL cyI 320 nl, kx_a g_nodeR cyI 320 nr, kx_a g_part cyI 320 gp])) (va_Qi (fun (r : Int32) (u : Int32 × Int32 × (Nat → Int32) × (Nat → Int32) × (Nat → Int32) × (Nat → Int32) × (Nat → Int32) × (Nat → Int32) × (Nat → Int32) × (Nat → Int32) × (Nat → Int32) × Int32 × (Nat → Int32)) => (((-32768 ≤ p0.toInt ∧ p0.toInt ≤ 32767 ∧ 0 ≤ p1.toInt ∧ p1.toInt < p2.toInt ∧ p2.toInt ≤ m_n.toInt) ∧ ((mj_L m_slots.toNatClampNeg f u.2.2.2.2.2.2.2.2.2.1 u.2.2.2.2.2.2.2.2.2.2.1 u.2.2.1 u.2.2.2.1 u.2.2.2.2.1 u.2.2.2.2.2.1 u.2.2.2.2.2.2.1 m_n.toInt u.1.toInt ∧ 0 ≤ u.1.toInt ∧ u.1.toInt ≤ 319) ∧ mj_F m_slots.toNatClampNeg u.2.2.2.2.2.2.2.2.2.1 u.2.2.2.2.2.2.2.2.2.2.1 u.2.2.1 u.2.2.2.1 u.2.2.2.2.2.1 u.2.2.2.2.2.2.1 u.2.2.1 u.2.2.2.1 u.2.2.2.2.2.1 u.2.2.2.2.2.2.1 p1.toInt p2.toInt (mj_pq u.2.2.2.2.2.2.2.2.2.1 u.2.2.2.2.2.2.2.2.2.2.1 p1.toInt p2.toInt u.1.toNatClampNeg)) ∧ mj_lr (cnt f p0 p1.toNatClampNeg (p2.toInt - p1.toInt).toNat : Int) (mj_nb u.2.2.2.2.2.1 u.2.2.2.2.2.2.1 p0 1920 (u.2.2.1 320).toNatClampNeg) r) ∨ ((p0.toInt < -32768 ∨ 32767 < p0.toInt ∨ p1.toInt < 0 ∨ p2.toInt ≤ p1.toInt ∨ m_n.toInt < p2.toInt) ∧ r = -1)) ∧ six4 u.2.2.1 ∧ parts320 u.2.2.2.2.2.2.2.2.2.2.2.2) (fun (u : Int32 × Int32 × (Nat → Int32) × (Nat → Int32) × (Nat → Int32) × (Nat → Int32) × (Nat → Int32) × (Nat → Int32) × (Nat → Int32) × (Nat → Int32) × (Nat → Int32) × Int32 × (Nat → Int32)) (t : State) => va_P (dC, dI) vwCl [kx_5 h0 g_row m_n m_slots 0 g_many g_loss g_less g_voteValue g_voteNumber g_allValue g_allNumber u.2.1 g_nodeL g_nodeR u.1 g_part u.2.2.2.2.2.2.2.2.2.2.2.1 g_wasMany g_wasLoss g_wasValue g_wasNumber g_path m_pathMany g_heavyValue g_heavyTimes m_heavyMany g_fewest g_which g_met m_mostMet, kx_a g_row cyI 160 f, kx_a g_many cyI 324 u.2.2.1, kx_a g_loss cyI 324 u.2.2.2.1, kx_a g_less cyI 324 u.2.2.2.2.1, kx_a g_voteValue cyI 1944 u.2.2.2.2.2.1, kx_a g_voteNumber cyI 1944 u.2.2.2.2.2.2.1, kx_a g_allValue cyI 12 u.2.2.2.2.2.2.2.1, kx_a g_allNumber cyI 12 u.2.2.2.2.2.2.2.2.1, kx_a g_nodeL cyI 320 u.2.2.2.2.2.2.2.2.2.1, kx_a g_nodeR cyI 320 u.2.2.2.2.2.2.2.2.2.2.1, kx_a g_part cyI 320 u.2.2.2.2.2.2.2.2.2.2.2.2] t.heap ∧ va_K (dC, dI) vwCl [(cyI, .int)] t ∧ va_D (va_A [kx_5 h0 g_row m_n m_slots m_thrown g_many g_loss g_less g_voteValue g_voteNumber g_allValue g_allNumber m_allMany g_nodeL g_nodeR m_nodes g_part m_partMany g_wasMany g_wasLoss g_wasValue g_wasNumber g_path m_pathMany g_heavyValue g_heavyTimes m_heavyMany g_fewest g_which g_met m_mostMet, kx_a g_row cyI 160 f, kx_a g_many cyI 324 fm, kx_a g_loss cyI 324 fl, kx_a g_less cyI 324 fe, kx_a g_voteValue cyI 1944 vv, kx_a g_voteNumber cyI 1944 vn, kx_a g_allValue cyI 12 av, kx_a g_allNumber cyI 12 an, kx_a g_nodeL cyI 320 nl, kx_a g_nodeR cyI 320 nr, kx_a g_part cyI 320 gp] sz) [kx_5 h0 g_row m_n m_slots 0 g_many g_loss g_less g_voteValue g_voteNumber g_allValue g_allNumber u.2.1 g_nodeL g_nodeR u.1 g_part u.2.2.2.2.2.2.2.2.2.2.2.1 g_wasMany g_wasLoss g_wasValue g_wasNumber g_path m_pathMany g_heavyValue g_heavyTimes m_heavyMany g_fewest g_which g_met m_mostMet, kx_a g_row cyI 160 f, kx_a g_many cyI 324 u.2.2.1, kx_a g_loss cyI 324 u.2.2.2.1, kx_a g_less cyI 324 u.2.2.2.2.1, kx_a g_voteValue cyI 1944 u.2.2.2.2.2.1, kx_a g_voteNumber cyI 1944 u.2.2.2.2.2.2.1, kx_a g_allValue cyI 12 u.2.2.2.2.2.2.2.1, kx_a g_allNumber cyI 12 u.2.2.2.2.2.2.2.2.1, kx_a g_nodeL cyI 320 u.2.2.2.2.2.2.2.2.2.1, kx_a g_nodeR cyI 320 u.2.2.2.2.2.2.2.2.2.2.1, kx_a g_part cyI 320 u.2.2.2.2.2.2.2.2.2.2.2.2]) (va_A [kx_5 h0 g_row m_n m_slots m_thrown g_many g_loss g_less g_voteValue g_voteNumber g_allValue g_allNumber m_allMany g_nodeL g_nodeR m_nodes g_part m_partMany g_wasMany g_wasLoss g_wasValue g_wasNumber g_path m_pathMany g_heavyValue g_heavyTimes m_heavyMany g_fewest g_which g_met m_mostMet, kx_a g_row cyI 160 f, kx_a g_many cyI 324 fm, kx_a g_loss cyI 324 fl, kx_a g_less cyI 324 fe, kx_a g_voteValue cyI 1944 vv, kx_a g_voteNumber cyI 1944 vn, kx_a g_allValue cyI 12 av, kx_a g_allNumber cyI 12 an, kx_a g_nodeL cyI 320 nl, kx_a g_nodeR cyI 320 nr, kx_a g_part cyI 320 gp] sz)) 0 0 (va_A [kx_5 h0 g_row m_n m_slots m_thrown g_many g_loss g_less g_voteValue g_voteNumber g_allValue g_allNumber m_allMany g_nodeL g_nodeR m_nodes g_part m_partMany g_wasMany g_wasLoss g_wasValue g_wasNumber g_path m_pathMany g_heavyValue g_heavyTimes m_heavyMany g_fewest g_which g_met m_mostMet, kx_a g_row cyI 160 f, kx_a g_many cyI 324 fm, kx_a g_loss cyI 324 fl, kx_a g_less cyI 324 fe, kx_a g_voteValue cyI 1944 vv, kx_a g_voteNumber cyI 1944 vn, kx_a g_allValue cyI 12 av, kx_a g_allNumber cyI 12 an, kx_a g_nodeL cyI 320 nl, kx_a g_nodeR cyI 320 nr, kx_a g_part cyI 320 gp] sz) := by
  refine Met.ofW (cc := cX5_lost) (maxL := 4) (ret := (some .int)) (by decide) rfl ?_
  intro p e s m args below meth c s₁ B hml hv
  obtain ⟨rfl, hsz, hP, hK, hD0⟩ := hv
  have hx := B.exec
  have hb := B.bytes
  have hr := B.returns
  have hts := atoms_spec (ws := wsX5_lost) B.pre
  have hown : s.vm.findClass RX5 = some m.cls := findClass_of_methodNamed B.named
  have hlocks := B.notSynchronized
  subst hsz
  have hD := hD0.self (sz := s.heap.size)
  generalize hAe : va_A [kx_5 h0 g_row m_n m_slots m_thrown g_many g_loss g_less g_voteValue g_voteNumber g_allValue g_allNumber m_allMany g_nodeL g_nodeR m_nodes g_part m_partMany g_wasMany g_wasLoss g_wasValue g_wasNumber g_path m_pathMany g_heavyValue g_heavyTimes m_heavyMany g_fewest g_which g_met m_mostMet, kx_a g_row cyI 160 f, kx_a g_many cyI 324 fm, kx_a g_loss cyI 324 fl, kx_a g_less cyI 324 fe, kx_a g_voteValue cyI 1944 vv, kx_a g_voteNumber cyI 1944 vn, kx_a g_allValue cyI 12 av, kx_a g_allNumber cyI 12 an, kx_a g_nodeL cyI 320 nl, kx_a g_nodeR cyI 320 nr, kx_a g_part cyI 320 gp] s.heap.size = A at hD ⊢
  have hA : ∀ q : Nat, s.heap.size ≤ q → A q := fun q h => by rw [← hAe]; exact Or.inr h
  have hS : va_S A s.heap s.heap [] := va_S.rf
  have hP : va_P (dC, dI) vwCl [kx_5 h0 g_row m_n m_slots m_thrown g_many g_loss g_less g_voteValue g_voteNumber g_allValue g_allNumber m_allMany g_nodeL g_nodeR m_nodes g_part m_partMany g_wasMany g_wasLoss g_wasValue g_wasNumber g_path m_pathMany g_heavyValue g_heavyTimes m_heavyMany g_fewest g_which g_met m_mostMet, kx_a g_row cyI 160 f, kx_a g_many cyI 324 fm, kx_a g_loss cyI 324 fl, kx_a g_less cyI 324 fe, kx_a g_voteValue cyI 1944 vv, kx_a g_voteNumber cyI 1944 vn, kx_a g_allValue cyI 12 av, kx_a g_allNumber cyI 12 an, kx_a g_nodeL cyI 320 nl, kx_a g_nodeR cyI 320 nr, kx_a g_part cyI 320 gp] s.heap := hP
  have hl := lv_entry ([.ref h0, .int p0, .int p1, .int p2]) (n := 4) (Nat.le_of_ble_eq_true rfl)
  rw [lg_entry_eq]
  generalize (lg_sl ([.ref h0, .int p0, .int p1, .int p2]) ++ List.replicate (4 - (lg_sl ([.ref h0, .int p0, .int p1, .int p2])).length) Slot.unset).toArray = ls at hl ⊢
  have hl : lv_has ls 4 [(0, .ref h0), (1, .int p0), (2, .int p1), (3, .int p2)] := hl
  have hf_77 := hts (.fieldLink RX5 77 "MajorityIndexModel" "thrown" "I") (List.mem_of_getElem? (i := 1) rfl)
  have hi_5 : ∀ w ∈ u_ws RX5 TX5 30, w ∈ wsX5_lost := fun w h => List.mem_cons_of_mem _ (List.mem_append_right _ h)
  refine lv_aload_n hx hb dX5_lost_0 rfl (lv_at hl 0 rfl) ?_
  refine lv_iconst (v := 0) hx hb dX5_lost_1 (by decide) ?_
  refine va_put (D := (dC, dI)) (ci := 5) (v := .int 0) (ty := .int) (C := RX5) (T := TX5) (N := 30) hx hb hts hi_5 tyX5 tyX5_ok nmX5 hown hK hP hD hS 0 rfl rfl 3 (by decide) hf_77 (fun _ h9 => h9) rfl (by decide +kernel) rfl rfl (Nat.le_of_ble_eq_true rfl) dX5_lost_2 (fun H locs hP hD hS => ?_)
  have hP : va_P (dC, dI) vwCl [kx_5 h0 g_row m_n m_slots 0 g_many g_loss g_less g_voteValue g_voteNumber g_allValue g_allNumber m_allMany g_nodeL g_nodeR m_nodes g_part m_partMany g_wasMany g_wasLoss g_wasValue g_wasNumber g_path m_pathMany g_heavyValue g_heavyTimes m_heavyMany g_fewest g_which g_met m_mostMet, kx_a g_row cyI 160 f, kx_a g_many cyI 324 fm, kx_a g_loss cyI 324 fl, kx_a g_less cyI 324 fe, kx_a g_voteValue cyI 1944 vv, kx_a g_voteNumber cyI 1944 vn, kx_a g_allValue cyI 12 av, kx_a g_allNumber cyI 12 an, kx_a g_nodeL cyI 320 nl, kx_a g_nodeR cyI 320 nr, kx_a g_part cyI 320 gp] H := hP
  have hD : va_D A [kx_5 h0 g_row m_n m_slots 0 g_many g_loss g_less g_voteValue g_voteNumber g_allValue g_allNumber m_allMany g_nodeL g_nodeR m_nodes g_part m_partMany g_wasMany g_wasLoss g_wasValue g_wasNumber g_path m_pathMany g_heavyValue g_heavyTimes m_heavyMany g_fewest g_which g_met m_mostMet, kx_a g_row cyI 160 f, kx_a g_many cyI 324 fm, kx_a g_loss cyI 324 fl, kx_a g_less cyI 324 fe, kx_a g_voteValue cyI 1944 vv, kx_a g_voteNumber cyI 1944 vn, kx_a g_allValue cyI 12 av, kx_a g_allNumber cyI 12 an, kx_a g_nodeL cyI 320 nl, kx_a g_nodeR cyI 320 nr, kx_a g_part cyI 320 gp] := hD
  refine lv_iload_n hx hb dX5_lost_5 rfl (lv_at hl 1 rfl) ?_
  have hPc := hP.sub (ws' := []) [] rfl
  have hKc := hK.sub (tys' := []) [] rfl
  refine vp_callSi (W.runS (As := [.int p0]) (rest := []) ⟨hx, hb, hml, hown, hts⟩ (c_X5_isValue l dC dI p0) (va_cwS 1 hts gX5_lost_X5_isValue rfl rfl rfl (by decide +kernel) ⟨Nat.le_of_ble_eq_true rfl, Nat.le_of_ble_eq_true rfl⟩) ⟨fun a U g mk q => by obtain ⟨q0, qP, qK⟩ := q; exact ⟨q0, qP, va_K.moved (u := U) (U := U.calling g mk a) (Vm.Alike.refl U.vm) qK⟩, fun U hU hW => ⟨rfl, by rw [hU]; exact hPc, va_K.moved hW.alike hKc⟩⟩ rfl rfl hl.1 rfl (lv_room (Nat.le_of_ble_eq_true rfl)) dX5_lost_6 ⟨Nat.le_of_ble_eq_true rfl, Nat.le_of_ble_eq_true rfl⟩) (fun r_1 w_1 => ?_)
  rcases w_1 with ⟨rfl, w_1⟩ | ⟨rfl, w_1⟩
  · have w_1 : (-32768 ≤ p0.toInt ∧ p0.toInt ≤ 32767) := w_1
    refine lv_if_eq (tgt := 21) hx hb dX5_lost_9 (by decide) (fun c_2 => ?_) (fun c_2 => ?_)
    · exact absurd c_2 (by decide)
    · refine lv_aload_n hx hb dX5_lost_12 rfl (lv_at hl 0 rfl) ?_
      refine lv_iload_n hx hb dX5_lost_13 rfl (lv_at hl 2 rfl) ?_
      refine lv_iload_n hx hb dX5_lost_14 rfl (lv_at hl 3 rfl) ?_
      have hPc := hP.sub (ws' := [kx_5 h0 g_row m_n m_slots 0 g_many g_loss g_less g_voteValue g_voteNumber g_allValue g_allNumber m_allMany g_nodeL g_nodeR m_nodes g_part m_partMany g_wasMany g_wasLoss g_wasValue g_wasNumber g_path m_pathMany g_heavyValue g_heavyTimes m_heavyMany g_fewest g_which g_met m_mostMet]) [0] rfl
      have hKc := hK.sub (tys' := []) [] rfl
      refine vp_callSi (W.runV (As := [.int p1, .int p2]) (rest := []) ⟨hx, hb, hml, hown, hts⟩ (c_X5_isRange l dC dI h0 g_row g_many g_loss g_less g_voteValue g_voteNumber g_allValue g_allNumber g_nodeL g_nodeR g_part g_wasMany g_wasLoss g_wasValue g_wasNumber g_path g_heavyValue g_heavyTimes g_fewest g_which g_met m_n m_slots 0 m_allMany m_nodes m_partMany m_pathMany m_heavyMany m_mostMet p1 p2) (cwV 2 hts gX5_lost_X5_isRange rfl rfl rfl (by decide +kernel) ⟨Nat.le_of_ble_eq_true rfl, Nat.le_of_ble_eq_true rfl⟩) ⟨fun a U g mk q => by obtain ⟨q0, qP, qK⟩ := q; exact ⟨q0, qP, va_K.moved (u := U) (U := U.calling g mk a) (Vm.Alike.refl U.vm) qK⟩, va_recv hKc hPc (ci := 5) (q0 := 0) rfl rfl, fun U hU hW => ⟨rfl, by rw [hU]; exact hPc, va_K.moved hW.alike hKc⟩⟩ rfl rfl hl.1 rfl (lv_room (Nat.le_of_ble_eq_true rfl)) dX5_lost_15 ⟨Nat.le_of_ble_eq_true rfl, Nat.le_of_ble_eq_true rfl⟩) (fun r_3 w_3 => ?_)
      rcases w_3 with ⟨rfl, w_3⟩ | ⟨rfl, w_3⟩
      · have w_3 : (0 ≤ p1.toInt ∧ p1.toInt < p2.toInt ∧ p2.toInt ≤ m_n.toInt) := w_3
        refine lv_if_ne (tgt := 23) hx hb dX5_lost_18 (by decide) (fun c_4 => ?_) (fun c_4 => ?_)
        · refine lv_aload_n hx hb dX5_lost_23 rfl (lv_at hl 0 rfl) ?_
          refine lv_iload_n hx hb dX5_lost_24 rfl (lv_at hl 2 rfl) ?_
          refine lv_iload_n hx hb dX5_lost_25 rfl (lv_at hl 3 rfl) ?_
          have hPc := hP
          have hKc := hK
          have hDc := hD
          have hFc := kx_free hD hS hA
          refine va_callv (va_runV (As := [.int p1, .int p2]) (rest := []) ⟨hx, hb, hml, hown, hts⟩ (c_X5_sums l dC dI h0 g_row g_many g_loss g_less g_voteValue g_voteNumber g_allValue g_allNumber g_nodeL g_nodeR g_part g_wasMany g_wasLoss g_wasValue g_wasNumber g_path g_heavyValue g_heavyTimes g_fewest g_which g_met m_n m_slots 0 m_allMany m_nodes m_partMany m_pathMany m_heavyMany m_mostMet cyI fm fl fe vv vn f av an nl nr gp p1 p2 H.size a0 a1 sl0 sl1 s4 q0 (by omega) (by omega) (by omega)) (cwV 2 hts gX5_lost_X5_sums rfl rfl rfl (by decide +kernel) ⟨Nat.le_of_ble_eq_true rfl, Nat.le_of_ble_eq_true rfl⟩) ⟨fun a U g mk q => by obtain ⟨q0, q1, qP, qK, qD⟩ := q; exact ⟨q0, q1, qP, va_K.moved (u := U) (U := U.calling g mk a) (Vm.Alike.refl U.vm) qK, qD⟩, va_recv hKc hPc (ci := 5) (q0 := 0) rfl rfl, fun U hU hW => ⟨rfl, by rw [hU], by rw [hU]; exact hPc, va_K.moved hW.alike hKc, hDc.weaken (fun _ _ _ _ => trivial)⟩⟩ rfl rfl hl.1 rfl (lv_room (Nat.le_of_ble_eq_true rfl)) dX5_lost_26 ⟨Nat.le_of_ble_eq_true rfl, Nat.le_of_ble_eq_true rfl⟩) hS (fun q _ h => hFc q h) hFc (fun u t H1 locs ht hvm w_5 hB hz1 hk1 hS => ?_)
          obtain ⟨o_6, o_7, o_8, o_9, o_10, o_11, o_12, o_13, o_14, o_15, o_16, o_17, o_18⟩ := u
          dsimp only at w_5 hB
          obtain ⟨hP1, hK1, hD1⟩ := hB
          rw [ht] at hP1
          have hK1 := va_K.moved hvm.symm hK1
          have hD := hD1.weaken (fun _ q _ h => hFc q.1 h)
          have hP := hP1
          clear hP1 hD1 hK1 hk1 hz1 hFc hDc hPc hKc
          generalize H1 = H at hP hS ⊢
          have w_5 : six4 o_8 ∧ parts320 o_18 ∧ mj_L m_slots.toNatClampNeg f o_15 o_16 o_8 o_9 o_10 o_11 o_12 m_n.toInt o_6.toInt ∧ 0 ≤ o_6.toInt ∧ o_6.toInt ≤ 319 ∧ mj_F m_slots.toNatClampNeg o_15 o_16 o_8 o_9 o_11 o_12 o_8 o_9 o_11 o_12 p1.toInt p2.toInt (mj_pq o_15 o_16 p1.toInt p2.toInt o_6.toNatClampNeg) := w_5
          refine lv_aload_n hx hb dX5_lost_29 rfl (lv_at hl 0 rfl) ?_
          refine lv_iload_n hx hb dX5_lost_30 rfl (lv_at hl 1 rfl) ?_
          refine lv_iload_n hx hb dX5_lost_31 rfl (lv_at hl 2 rfl) ?_
          refine lv_iload_n hx hb dX5_lost_32 rfl (lv_at hl 3 rfl) ?_
          have hPc := hP.sub (ws' := [kx_5 h0 g_row m_n m_slots 0 g_many g_loss g_less g_voteValue g_voteNumber g_allValue g_allNumber o_7 g_nodeL g_nodeR o_6 g_part o_17 g_wasMany g_wasLoss g_wasValue g_wasNumber g_path m_pathMany g_heavyValue g_heavyTimes m_heavyMany g_fewest g_which g_met m_mostMet, kx_a g_row cyI 160 f]) [0, 1] rfl
          have hKc := hK
          refine vp_callSi (W.runV (As := [.int p0, .int p1, .int p2]) (rest := []) ⟨hx, hb, hml, hown, hts⟩ (c_X5_times l dC dI h0 g_row g_many g_loss g_less g_voteValue g_voteNumber g_allValue g_allNumber g_nodeL g_nodeR g_part g_wasMany g_wasLoss g_wasValue g_wasNumber g_path g_heavyValue g_heavyTimes g_fewest g_which g_met m_n m_slots 0 o_7 o_6 o_17 m_pathMany m_heavyMany m_mostMet cyI f p0 p1 p2 (by omega) (by omega)) (cwV 3 hts gX5_lost_X5_times rfl rfl rfl (by decide +kernel) ⟨Nat.le_of_ble_eq_true rfl, Nat.le_of_ble_eq_true rfl⟩) ⟨fun a U g mk q => by obtain ⟨q0, qP, qK⟩ := q; exact ⟨q0, qP, va_K.moved (u := U) (U := U.calling g mk a) (Vm.Alike.refl U.vm) qK⟩, va_recv hKc hPc (ci := 5) (q0 := 0) rfl rfl, fun U hU hW => ⟨rfl, by rw [hU]; exact hPc, va_K.moved hW.alike hKc⟩⟩ rfl rfl hl.1 rfl (lv_room (Nat.le_of_ble_eq_true rfl)) dX5_lost_33 ⟨Nat.le_of_ble_eq_true rfl, Nat.le_of_ble_eq_true rfl⟩) (fun r_19 w_19 => ?_)
          have w_19 : r_19.toInt = (cnt f p0 p1.toNatClampNeg (p2.toInt - p1.toInt).toNat : Int) := w_19
          refine lv_aload_n hx hb dX5_lost_36 rfl (lv_at hl 0 rfl) ?_
          refine lv_sipush (v := 320) hx hb dX5_lost_37 (by decide) ?_
          refine lv_iload_n hx hb dX5_lost_40 rfl (lv_at hl 1 rfl) ?_
          have hPc := hP.sub (ws' := [kx_5 h0 g_row m_n m_slots 0 g_many g_loss g_less g_voteValue g_voteNumber g_allValue g_allNumber o_7 g_nodeL g_nodeR o_6 g_part o_17 g_wasMany g_wasLoss g_wasValue g_wasNumber g_path m_pathMany g_heavyValue g_heavyTimes m_heavyMany g_fewest g_which g_met m_mostMet, kx_a g_many cyI 324 o_8, kx_a g_voteValue cyI 1944 o_11, kx_a g_voteNumber cyI 1944 o_12]) [0, 2, 5, 6] rfl
          have hKc := hK
          have k_20 : (320 : Int32).toInt = 320 := rfl
          refine vp_callSi (W.runV (As := [.int 320, .int p0]) (rest := [.int r_19]) ⟨hx, hb, hml, hown, hts⟩ (c_X5_numberOf_x l dC dI h0 g_row g_many g_loss g_less g_voteValue g_voteNumber g_allValue g_allNumber g_nodeL g_nodeR g_part g_wasMany g_wasLoss g_wasValue g_wasNumber g_path g_heavyValue g_heavyTimes g_fewest g_which g_met m_n m_slots 0 o_7 o_6 o_17 m_pathMany m_heavyMany m_mostMet cyI o_8 o_11 o_12 320 p0 (by omega) (by omega) w_5.1) (cwV 2 hts gX5_lost_X5_numberOf rfl rfl rfl (by decide +kernel) ⟨Nat.le_of_ble_eq_true rfl, Nat.le_of_ble_eq_true rfl⟩) ⟨fun a U g mk q => by obtain ⟨q0, qP, qK⟩ := q; exact ⟨q0, qP, va_K.moved (u := U) (U := U.calling g mk a) (Vm.Alike.refl U.vm) qK⟩, va_recv hKc hPc (ci := 5) (q0 := 0) rfl rfl, fun U hU hW => ⟨rfl, by rw [hU]; exact hPc, va_K.moved hW.alike hKc⟩⟩ rfl rfl hl.1 rfl (lv_room (Nat.le_of_ble_eq_true rfl)) dX5_lost_41 ⟨Nat.le_of_ble_eq_true rfl, Nat.le_of_ble_eq_true rfl⟩) (fun r_21 w_21 => ?_)
          subst w_21
          refine lv_isub hx hb dX5_lost_44 ?_
          refine lv_topi (fun y_22 ey_22 => ?_)
          have hP9 := hP
          have hD9 := hD
          have hK9 := hK
          exact W.iret (v := y_22) hx hb hr (fun t ht hW => ⟨⟨y_22, (o_6, o_7, o_8, o_9, o_10, o_11, o_12, o_13, o_14, o_15, o_16, o_17, o_18), rfl, ⟨Or.inl ⟨(by (try dsimp only); omega), ⟨⟨w_5.2.2.1, (by (try dsimp only); omega), (by (try dsimp only); omega)⟩, w_5.2.2.2.2.2⟩, ⟨r_19, w_19, ey_22⟩⟩, w_5.1, w_5.2.1⟩, by rw [ht]; exact hP9, va_K.moved hW.alike hK9, hD9⟩, hS.F ht⟩) hS.2.2 dX5_lost_45
        · exact absurd c_4 (by decide)
      · have w_3 : (p1.toInt < 0 ∨ p2.toInt ≤ p1.toInt ∨ m_n.toInt < p2.toInt) := w_3
        refine lv_if_ne (tgt := 23) hx hb dX5_lost_18 (by decide) (fun c_23 => ?_) (fun c_23 => ?_)
        · exact absurd c_23 (by decide)
        · refine lv_iconst (v := (-1)) hx hb dX5_lost_21 (by decide) ?_
          have hP9 := hP
          have hD9 := hD
          have hK9 := hK
          exact W.iret (v := (-1)) hx hb hr (fun t ht hW => ⟨⟨(-1), (m_nodes, m_allMany, fm, fl, fe, vv, vn, av, an, nl, nr, m_partMany, gp), rfl, ⟨Or.inr ⟨(by (try dsimp only); omega), rfl⟩, s4, q0⟩, by rw [ht]; exact hP9, va_K.moved hW.alike hK9, hD9⟩, hS.F ht⟩) hS.2.2 dX5_lost_22
  · have w_1 : (p0.toInt < -32768 ∨ 32767 < p0.toInt) := w_1
    refine lv_if_eq (tgt := 21) hx hb dX5_lost_9 (by decide) (fun c_24 => ?_) (fun c_24 => ?_)
    · refine lv_iconst (v := (-1)) hx hb dX5_lost_21 (by decide) ?_
      have hP9 := hP
      have hD9 := hD
      have hK9 := hK
      exact W.iret (v := (-1)) hx hb hr (fun t ht hW => ⟨⟨(-1), (m_nodes, m_allMany, fm, fl, fe, vv, vn, av, an, nl, nr, m_partMany, gp), rfl, ⟨Or.inr ⟨(by (try dsimp only); omega), rfl⟩, s4, q0⟩, by rw [ht]; exact hP9, va_K.moved hW.alike hK9, hD9⟩, hS.F ht⟩) hS.2.2 dX5_lost_22
    · exact absurd c_24 (by decide)

set_option maxHeartbeats 4000000 in
set_option maxRecDepth 100000 in
theorem c_X5_surely_x (l : Launch) (dC : Nat → ClassId) (dI : Nat → Nat → Nat) (h0 : Nat) (g_row : Nat) (g_many : Nat) (g_loss : Nat) (g_less : Nat) (g_voteValue : Nat) (g_voteNumber : Nat) (g_allValue : Nat) (g_allNumber : Nat) (g_nodeL : Nat) (g_nodeR : Nat) (g_part : Nat) (g_wasMany : Nat) (g_wasLoss : Nat) (g_wasValue : Nat) (g_wasNumber : Nat) (g_path : Nat) (g_heavyValue : Nat) (g_heavyTimes : Nat) (g_fewest : Nat) (g_which : Nat) (g_met : Nat) (m_n : Int32) (m_slots : Int32) (m_thrown : Int32) (m_allMany : Int32) (m_nodes : Int32) (m_partMany : Int32) (m_pathMany : Int32) (m_heavyMany : Int32) (m_mostMet : Int32) (cyI : ClassId) (fm : Nat → Int32) (fl : Nat → Int32) (fe : Nat → Int32) (vv : Nat → Int32) (vn : Nat → Int32) (f : Nat → Int32) (av : Nat → Int32) (an : Nat → Int32) (nl : Nat → Int32) (nr : Nat → Int32) (gp : Nat → Int32) (p0 : Int32) (p1 : Int32) (sz : Nat) (a0 : 0 ≤ m_n.toInt) (a1 : m_n.toInt ≤ 160) (sl0 : 1 ≤ m_slots.toInt) (sl1 : m_slots.toInt ≤ 6) (s4 : six4 fm) (q0 : parts320 gp) : Met l yX5_surely wsX5_surely ({ frames := 13, cells := 0, slots := 0, locals := 585 }) (va_Pc [.ref h0, .int p0, .int p1] (fun U => U.heap.size = sz ∧ va_P (dC, dI) vwCl [kx_5 h0 g_row m_n m_slots m_thrown g_many g_loss g_less g_voteValue g_voteNumber g_allValue g_allNumber m_allMany g_nodeL g_nodeR m_nodes g_part m_partMany g_wasMany g_wasLoss g_wasValue g_wasNumber g_path m_pathMany g_heavyValue g_heavyTimes m_heavyMany g_fewest g_which g_met m_mostMet, kx_a g_row cyI 160 f, kx_a g_many cyI 324 fm, kx_a g_loss cyI 324 fl, kx_a g_less cyI 324 fe, kx_a g_voteValue cyI 1944 vv, kx_a g_voteNumber cyI 1944 vn, kx_a g_allValue cyI 12 av, kx_a g_allNumber cyI 12 an, kx_a g_nodeL cyI 320 nl, kx_a g_nodeR cyI 320 nr, kx_a g_part cyI 320 gp] U.heap ∧ va_K (dC, dI) vwCl [(cyI, .int)] U ∧ va_D (fun _ => True) [kx_5 h0 g_row m_n m_slots m_thrown g_many g_loss g_less g_voteValue g_voteNumber g_allValue g_allNumber m_allMany g_nodeL g_nodeR m_nodes g_part m_partMany g_wasMany g_wasLoss g_wasValue g_wasNumber g_path m_pathMany g_heavyValue g_heavyTimes m_heavyMany g_fewest g_which g_met m_mostMet, kx_a g_row cyI 160 f, kx_a g_many cyI 324 fm, kx_a g_loss cyI 324 fl, kx_a g_less cyI 324 fe, kx_a g_voteValue cyI 1944 vv, kx_a g_voteNumber cyI 1944 vn, kx_a g_allValue cyI 12 av, kx_a g_allNumber cyI 12 an, kx_a g_nodeL cyI 320 nl, kx_a g_nodeR cyI 320 nr, kx_a g_part cyI 320 gp])) (va_Qi (fun (r : Int32) (u : Int32 × Int32 × (Nat → Int32) × (Nat → Int32) × (Nat → Int32) × (Nat → Int32) × (Nat → Int32) × (Nat → Int32) × (Nat → Int32) × (Nat → Int32) × (Nat → Int32) × Int32 × (Nat → Int32)) => (((0 ≤ p0.toInt ∧ p0.toInt < p1.toInt ∧ p1.toInt ≤ m_n.toInt) ∧ ((mj_L m_slots.toNatClampNeg f u.2.2.2.2.2.2.2.2.2.1 u.2.2.2.2.2.2.2.2.2.2.1 u.2.2.1 u.2.2.2.1 u.2.2.2.2.1 u.2.2.2.2.2.1 u.2.2.2.2.2.2.1 m_n.toInt u.1.toInt ∧ 0 ≤ u.1.toInt ∧ u.1.toInt ≤ 319) ∧ mj_F m_slots.toNatClampNeg u.2.2.2.2.2.2.2.2.2.1 u.2.2.2.2.2.2.2.2.2.2.1 u.2.2.1 u.2.2.2.1 u.2.2.2.2.2.1 u.2.2.2.2.2.2.1 u.2.2.1 u.2.2.2.1 u.2.2.2.2.2.1 u.2.2.2.2.2.2.1 p0.toInt p1.toInt (mj_pq u.2.2.2.2.2.2.2.2.2.1 u.2.2.2.2.2.2.2.2.2.2.1 p0.toInt p1.toInt u.1.toNatClampNeg)) ∧ r = mj_sr (u.2.2.1 320) (u.2.2.2.2.2.2.1 1920) (u.2.2.2.2.2.2.1 1921) (u.2.2.2.2.2.1 1920) (u.2.2.2.1 320)) ∨ ((p0.toInt < 0 ∨ p1.toInt ≤ p0.toInt ∨ m_n.toInt < p1.toInt) ∧ r = -40000)) ∧ six4 u.2.2.1 ∧ parts320 u.2.2.2.2.2.2.2.2.2.2.2.2) (fun (u : Int32 × Int32 × (Nat → Int32) × (Nat → Int32) × (Nat → Int32) × (Nat → Int32) × (Nat → Int32) × (Nat → Int32) × (Nat → Int32) × (Nat → Int32) × (Nat → Int32) × Int32 × (Nat → Int32)) (t : State) => va_P (dC, dI) vwCl [kx_5 h0 g_row m_n m_slots 0 g_many g_loss g_less g_voteValue g_voteNumber g_allValue g_allNumber u.2.1 g_nodeL g_nodeR u.1 g_part u.2.2.2.2.2.2.2.2.2.2.2.1 g_wasMany g_wasLoss g_wasValue g_wasNumber g_path m_pathMany g_heavyValue g_heavyTimes m_heavyMany g_fewest g_which g_met m_mostMet, kx_a g_row cyI 160 f, kx_a g_many cyI 324 u.2.2.1, kx_a g_loss cyI 324 u.2.2.2.1, kx_a g_less cyI 324 u.2.2.2.2.1, kx_a g_voteValue cyI 1944 u.2.2.2.2.2.1, kx_a g_voteNumber cyI 1944 u.2.2.2.2.2.2.1, kx_a g_allValue cyI 12 u.2.2.2.2.2.2.2.1, kx_a g_allNumber cyI 12 u.2.2.2.2.2.2.2.2.1, kx_a g_nodeL cyI 320 u.2.2.2.2.2.2.2.2.2.1, kx_a g_nodeR cyI 320 u.2.2.2.2.2.2.2.2.2.2.1, kx_a g_part cyI 320 u.2.2.2.2.2.2.2.2.2.2.2.2] t.heap ∧ va_K (dC, dI) vwCl [(cyI, .int)] t ∧ va_D (va_A [kx_5 h0 g_row m_n m_slots m_thrown g_many g_loss g_less g_voteValue g_voteNumber g_allValue g_allNumber m_allMany g_nodeL g_nodeR m_nodes g_part m_partMany g_wasMany g_wasLoss g_wasValue g_wasNumber g_path m_pathMany g_heavyValue g_heavyTimes m_heavyMany g_fewest g_which g_met m_mostMet, kx_a g_row cyI 160 f, kx_a g_many cyI 324 fm, kx_a g_loss cyI 324 fl, kx_a g_less cyI 324 fe, kx_a g_voteValue cyI 1944 vv, kx_a g_voteNumber cyI 1944 vn, kx_a g_allValue cyI 12 av, kx_a g_allNumber cyI 12 an, kx_a g_nodeL cyI 320 nl, kx_a g_nodeR cyI 320 nr, kx_a g_part cyI 320 gp] sz) [kx_5 h0 g_row m_n m_slots 0 g_many g_loss g_less g_voteValue g_voteNumber g_allValue g_allNumber u.2.1 g_nodeL g_nodeR u.1 g_part u.2.2.2.2.2.2.2.2.2.2.2.1 g_wasMany g_wasLoss g_wasValue g_wasNumber g_path m_pathMany g_heavyValue g_heavyTimes m_heavyMany g_fewest g_which g_met m_mostMet, kx_a g_row cyI 160 f, kx_a g_many cyI 324 u.2.2.1, kx_a g_loss cyI 324 u.2.2.2.1, kx_a g_less cyI 324 u.2.2.2.2.1, kx_a g_voteValue cyI 1944 u.2.2.2.2.2.1, kx_a g_voteNumber cyI 1944 u.2.2.2.2.2.2.1, kx_a g_allValue cyI 12 u.2.2.2.2.2.2.2.1, kx_a g_allNumber cyI 12 u.2.2.2.2.2.2.2.2.1, kx_a g_nodeL cyI 320 u.2.2.2.2.2.2.2.2.2.1, kx_a g_nodeR cyI 320 u.2.2.2.2.2.2.2.2.2.2.1, kx_a g_part cyI 320 u.2.2.2.2.2.2.2.2.2.2.2.2]) (va_A [kx_5 h0 g_row m_n m_slots m_thrown g_many g_loss g_less g_voteValue g_voteNumber g_allValue g_allNumber m_allMany g_nodeL g_nodeR m_nodes g_part m_partMany g_wasMany g_wasLoss g_wasValue g_wasNumber g_path m_pathMany g_heavyValue g_heavyTimes m_heavyMany g_fewest g_which g_met m_mostMet, kx_a g_row cyI 160 f, kx_a g_many cyI 324 fm, kx_a g_loss cyI 324 fl, kx_a g_less cyI 324 fe, kx_a g_voteValue cyI 1944 vv, kx_a g_voteNumber cyI 1944 vn, kx_a g_allValue cyI 12 av, kx_a g_allNumber cyI 12 an, kx_a g_nodeL cyI 320 nl, kx_a g_nodeR cyI 320 nr, kx_a g_part cyI 320 gp] sz)) 0 0 (va_A [kx_5 h0 g_row m_n m_slots m_thrown g_many g_loss g_less g_voteValue g_voteNumber g_allValue g_allNumber m_allMany g_nodeL g_nodeR m_nodes g_part m_partMany g_wasMany g_wasLoss g_wasValue g_wasNumber g_path m_pathMany g_heavyValue g_heavyTimes m_heavyMany g_fewest g_which g_met m_mostMet, kx_a g_row cyI 160 f, kx_a g_many cyI 324 fm, kx_a g_loss cyI 324 fl, kx_a g_less cyI 324 fe, kx_a g_voteValue cyI 1944 vv, kx_a g_voteNumber cyI 1944 vn, kx_a g_allValue cyI 12 av, kx_a g_allNumber cyI 12 an, kx_a g_nodeL cyI 320 nl, kx_a g_nodeR cyI 320 nr, kx_a g_part cyI 320 gp] sz) := by
  refine Met.ofW (cc := cX5_surely) (maxL := 5) (ret := (some .int)) (by decide) rfl ?_
  intro p e s m args below meth c s₁ B hml hv
  obtain ⟨rfl, hsz, hP, hK, hD0⟩ := hv
  have hx := B.exec
  have hb := B.bytes
  have hr := B.returns
  have hts := atoms_spec (ws := wsX5_surely) B.pre
  have hown : s.vm.findClass RX5 = some m.cls := findClass_of_methodNamed B.named
  have hlocks := B.notSynchronized
  subst hsz
  have hD := hD0.self (sz := s.heap.size)
  generalize hAe : va_A [kx_5 h0 g_row m_n m_slots m_thrown g_many g_loss g_less g_voteValue g_voteNumber g_allValue g_allNumber m_allMany g_nodeL g_nodeR m_nodes g_part m_partMany g_wasMany g_wasLoss g_wasValue g_wasNumber g_path m_pathMany g_heavyValue g_heavyTimes m_heavyMany g_fewest g_which g_met m_mostMet, kx_a g_row cyI 160 f, kx_a g_many cyI 324 fm, kx_a g_loss cyI 324 fl, kx_a g_less cyI 324 fe, kx_a g_voteValue cyI 1944 vv, kx_a g_voteNumber cyI 1944 vn, kx_a g_allValue cyI 12 av, kx_a g_allNumber cyI 12 an, kx_a g_nodeL cyI 320 nl, kx_a g_nodeR cyI 320 nr, kx_a g_part cyI 320 gp] s.heap.size = A at hD ⊢
  have hA : ∀ q : Nat, s.heap.size ≤ q → A q := fun q h => by rw [← hAe]; exact Or.inr h
  have hS : va_S A s.heap s.heap [] := va_S.rf
  have hP : va_P (dC, dI) vwCl [kx_5 h0 g_row m_n m_slots m_thrown g_many g_loss g_less g_voteValue g_voteNumber g_allValue g_allNumber m_allMany g_nodeL g_nodeR m_nodes g_part m_partMany g_wasMany g_wasLoss g_wasValue g_wasNumber g_path m_pathMany g_heavyValue g_heavyTimes m_heavyMany g_fewest g_which g_met m_mostMet, kx_a g_row cyI 160 f, kx_a g_many cyI 324 fm, kx_a g_loss cyI 324 fl, kx_a g_less cyI 324 fe, kx_a g_voteValue cyI 1944 vv, kx_a g_voteNumber cyI 1944 vn, kx_a g_allValue cyI 12 av, kx_a g_allNumber cyI 12 an, kx_a g_nodeL cyI 320 nl, kx_a g_nodeR cyI 320 nr, kx_a g_part cyI 320 gp] s.heap := hP
  have hl := lv_entry ([.ref h0, .int p0, .int p1]) (n := 5) (Nat.le_of_ble_eq_true rfl)
  rw [lg_entry_eq]
  generalize (lg_sl ([.ref h0, .int p0, .int p1]) ++ List.replicate (5 - (lg_sl ([.ref h0, .int p0, .int p1])).length) Slot.unset).toArray = ls at hl ⊢
  have hl : lv_has ls 5 [(0, .ref h0), (1, .int p0), (2, .int p1)] := hl
  have hf_77 := hts (.fieldLink RX5 77 "MajorityIndexModel" "thrown" "I") (List.mem_of_getElem? (i := 1) rfl)
  have hi_5 : ∀ w ∈ u_ws RX5 TX5 30, w ∈ wsX5_surely := fun w h => List.mem_cons_of_mem _ (List.mem_append_right _ h)
  have hf_17 := hts (.fieldLink RX5 17 "MajorityIndexModel" "many" "[I") (List.mem_of_getElem? (i := 3) rfl)
  have hf_29 := hts (.fieldLink RX5 29 "MajorityIndexModel" "voteNumber" "[I") (List.mem_of_getElem? (i := 4) rfl)
  have hf_20 := hts (.fieldLink RX5 20 "MajorityIndexModel" "loss" "[I") (List.mem_of_getElem? (i := 5) rfl)
  have hk_148 := hts (.constant RX5 148 (-40000)) (List.mem_of_getElem? (i := 2) rfl)
  have hf_26 := hts (.fieldLink RX5 26 "MajorityIndexModel" "voteValue" "[I") (List.mem_of_getElem? (i := 6) rfl)
  refine lv_aload_n hx hb dX5_surely_0 rfl (lv_at hl 0 rfl) ?_
  refine lv_iconst (v := 0) hx hb dX5_surely_1 (by decide) ?_
  refine va_put (D := (dC, dI)) (ci := 5) (v := .int 0) (ty := .int) (C := RX5) (T := TX5) (N := 30) hx hb hts hi_5 tyX5 tyX5_ok nmX5 hown hK hP hD hS 0 rfl rfl 3 (by decide) hf_77 (fun _ h9 => h9) rfl (by decide +kernel) rfl rfl (Nat.le_of_ble_eq_true rfl) dX5_surely_2 (fun H locs hP hD hS => ?_)
  have hP : va_P (dC, dI) vwCl [kx_5 h0 g_row m_n m_slots 0 g_many g_loss g_less g_voteValue g_voteNumber g_allValue g_allNumber m_allMany g_nodeL g_nodeR m_nodes g_part m_partMany g_wasMany g_wasLoss g_wasValue g_wasNumber g_path m_pathMany g_heavyValue g_heavyTimes m_heavyMany g_fewest g_which g_met m_mostMet, kx_a g_row cyI 160 f, kx_a g_many cyI 324 fm, kx_a g_loss cyI 324 fl, kx_a g_less cyI 324 fe, kx_a g_voteValue cyI 1944 vv, kx_a g_voteNumber cyI 1944 vn, kx_a g_allValue cyI 12 av, kx_a g_allNumber cyI 12 an, kx_a g_nodeL cyI 320 nl, kx_a g_nodeR cyI 320 nr, kx_a g_part cyI 320 gp] H := hP
  have hD : va_D A [kx_5 h0 g_row m_n m_slots 0 g_many g_loss g_less g_voteValue g_voteNumber g_allValue g_allNumber m_allMany g_nodeL g_nodeR m_nodes g_part m_partMany g_wasMany g_wasLoss g_wasValue g_wasNumber g_path m_pathMany g_heavyValue g_heavyTimes m_heavyMany g_fewest g_which g_met m_mostMet, kx_a g_row cyI 160 f, kx_a g_many cyI 324 fm, kx_a g_loss cyI 324 fl, kx_a g_less cyI 324 fe, kx_a g_voteValue cyI 1944 vv, kx_a g_voteNumber cyI 1944 vn, kx_a g_allValue cyI 12 av, kx_a g_allNumber cyI 12 an, kx_a g_nodeL cyI 320 nl, kx_a g_nodeR cyI 320 nr, kx_a g_part cyI 320 gp] := hD
  refine lv_aload_n hx hb dX5_surely_5 rfl (lv_at hl 0 rfl) ?_
  refine lv_iload_n hx hb dX5_surely_6 rfl (lv_at hl 1 rfl) ?_
  refine lv_iload_n hx hb dX5_surely_7 rfl (lv_at hl 2 rfl) ?_
  have hPc := hP.sub (ws' := [kx_5 h0 g_row m_n m_slots 0 g_many g_loss g_less g_voteValue g_voteNumber g_allValue g_allNumber m_allMany g_nodeL g_nodeR m_nodes g_part m_partMany g_wasMany g_wasLoss g_wasValue g_wasNumber g_path m_pathMany g_heavyValue g_heavyTimes m_heavyMany g_fewest g_which g_met m_mostMet]) [0] rfl
  have hKc := hK.sub (tys' := []) [] rfl
  refine vp_callSi (W.runV (As := [.int p0, .int p1]) (rest := []) ⟨hx, hb, hml, hown, hts⟩ (c_X5_isRange l dC dI h0 g_row g_many g_loss g_less g_voteValue g_voteNumber g_allValue g_allNumber g_nodeL g_nodeR g_part g_wasMany g_wasLoss g_wasValue g_wasNumber g_path g_heavyValue g_heavyTimes g_fewest g_which g_met m_n m_slots 0 m_allMany m_nodes m_partMany m_pathMany m_heavyMany m_mostMet p0 p1) (cwV 2 hts gX5_surely_X5_isRange rfl rfl rfl (by decide +kernel) ⟨Nat.le_of_ble_eq_true rfl, Nat.le_of_ble_eq_true rfl⟩) ⟨fun a U g mk q => by obtain ⟨q0, qP, qK⟩ := q; exact ⟨q0, qP, va_K.moved (u := U) (U := U.calling g mk a) (Vm.Alike.refl U.vm) qK⟩, va_recv hKc hPc (ci := 5) (q0 := 0) rfl rfl, fun U hU hW => ⟨rfl, by rw [hU]; exact hPc, va_K.moved hW.alike hKc⟩⟩ rfl rfl hl.1 rfl (lv_room (Nat.le_of_ble_eq_true rfl)) dX5_surely_8 ⟨Nat.le_of_ble_eq_true rfl, Nat.le_of_ble_eq_true rfl⟩) (fun r_1 w_1 => ?_)
  rcases w_1 with ⟨rfl, w_1⟩ | ⟨rfl, w_1⟩
  · have w_1 : (0 ≤ p0.toInt ∧ p0.toInt < p1.toInt ∧ p1.toInt ≤ m_n.toInt) := w_1
    refine lv_if_ne (tgt := 17) hx hb dX5_surely_11 (by decide) (fun c_2 => ?_) (fun c_2 => ?_)
    · refine lv_aload_n hx hb dX5_surely_17 rfl (lv_at hl 0 rfl) ?_
      refine lv_iload_n hx hb dX5_surely_18 rfl (lv_at hl 1 rfl) ?_
      refine lv_iload_n hx hb dX5_surely_19 rfl (lv_at hl 2 rfl) ?_
      have hPc := hP
      have hKc := hK
      have hDc := hD
      have hFc := kx_free hD hS hA
      refine va_callv (va_runV (As := [.int p0, .int p1]) (rest := []) ⟨hx, hb, hml, hown, hts⟩ (c_X5_sums l dC dI h0 g_row g_many g_loss g_less g_voteValue g_voteNumber g_allValue g_allNumber g_nodeL g_nodeR g_part g_wasMany g_wasLoss g_wasValue g_wasNumber g_path g_heavyValue g_heavyTimes g_fewest g_which g_met m_n m_slots 0 m_allMany m_nodes m_partMany m_pathMany m_heavyMany m_mostMet cyI fm fl fe vv vn f av an nl nr gp p0 p1 H.size a0 a1 sl0 sl1 s4 q0 (by omega) (by omega) (by omega)) (cwV 2 hts gX5_surely_X5_sums rfl rfl rfl (by decide +kernel) ⟨Nat.le_of_ble_eq_true rfl, Nat.le_of_ble_eq_true rfl⟩) ⟨fun a U g mk q => by obtain ⟨q0, q1, qP, qK, qD⟩ := q; exact ⟨q0, q1, qP, va_K.moved (u := U) (U := U.calling g mk a) (Vm.Alike.refl U.vm) qK, qD⟩, va_recv hKc hPc (ci := 5) (q0 := 0) rfl rfl, fun U hU hW => ⟨rfl, by rw [hU], by rw [hU]; exact hPc, va_K.moved hW.alike hKc, hDc.weaken (fun _ _ _ _ => trivial)⟩⟩ rfl rfl hl.1 rfl (lv_room (Nat.le_of_ble_eq_true rfl)) dX5_surely_20 ⟨Nat.le_of_ble_eq_true rfl, Nat.le_of_ble_eq_true rfl⟩) hS (fun q _ h => hFc q h) hFc (fun u t H1 locs ht hvm w_3 hB hz1 hk1 hS => ?_)
      obtain ⟨o_4, o_5, o_6, o_7, o_8, o_9, o_10, o_11, o_12, o_13, o_14, o_15, o_16⟩ := u
      dsimp only at w_3 hB
      obtain ⟨hP1, hK1, hD1⟩ := hB
      rw [ht] at hP1
      have hK1 := va_K.moved hvm.symm hK1
      have hD := hD1.weaken (fun _ q _ h => hFc q.1 h)
      have hP := hP1
      clear hP1 hD1 hK1 hk1 hz1 hFc hDc hPc hKc
      generalize H1 = H at hP hS ⊢
      have w_3 : six4 o_6 ∧ parts320 o_16 ∧ mj_L m_slots.toNatClampNeg f o_13 o_14 o_6 o_7 o_8 o_9 o_10 m_n.toInt o_4.toInt ∧ 0 ≤ o_4.toInt ∧ o_4.toInt ≤ 319 ∧ mj_F m_slots.toNatClampNeg o_13 o_14 o_6 o_7 o_9 o_10 o_6 o_7 o_9 o_10 p0.toInt p1.toInt (mj_pq o_13 o_14 p0.toInt p1.toInt o_4.toNatClampNeg) := w_3
      refine lv_aload_n hx hb dX5_surely_23 rfl (lv_at hl 0 rfl) ?_
      refine va_get (D := (dC, dI)) (ci := 5) (v := .ref g_many) (C := RX5) (T := TX5) (N := 30) hx hb hts hi_5 hown hK hP 0 rfl rfl 4 (by decide) hf_17 (fun _ h9 => h9) rfl dX5_surely_24 ?_
      refine lv_sipush (v := 320) hx hb dX5_surely_27 (by decide) ?_
      refine va_iald hx hb hK hP 2 0 rfl rfl (ki_inl (by decide)) dX5_surely_30 ?_
      refine lv_topi (fun y_17 ey_17 => ?_)
      have j_17 : y_17.toInt = (o_6 (320 : Int32).toNatClampNeg).toInt := congrArg Int32.toInt ey_17
      have n_18 : ((320 : Int32).toNatClampNeg : Int) = 320 := ki_nat _ rfl (by omega)
      have i_19 := w_3.1 (320 : Int32).toNatClampNeg (by omega)
      refine lv_if_ne (tgt := 37) hx hb dX5_surely_31 (by decide) (fun c_20 => ?_) (fun c_20 => ?_)
      · have i_20 : ¬ y_17.toInt = 0 := kc_ne c_20
        refine lv_aload_n hx hb dX5_surely_37 rfl (lv_at hl 0 rfl) ?_
        refine va_get (D := (dC, dI)) (ci := 5) (v := .ref g_voteNumber) (C := RX5) (T := TX5) (N := 30) hx hb hts hi_5 hown hK hP 0 rfl rfl 8 (by decide) hf_29 (fun _ h9 => h9) rfl dX5_surely_38 ?_
        refine lv_sipush (v := 1920) hx hb dX5_surely_41 (by decide) ?_
        refine va_iald hx hb hK hP 6 0 rfl rfl (ki_inl (by decide)) dX5_surely_44 ?_
        refine lv_topi (fun y_21 ey_21 => ?_)
        have j_21 : y_21.toInt = (o_10 (1920 : Int32).toNatClampNeg).toInt := congrArg Int32.toInt ey_21
        refine lv_istore_n (lv' := [(3, .int y_21), (0, .ref h0), (1, .int p0), (2, .int p1)]) hx hb dX5_surely_45 rfl hl (by decide) rfl (fun ls hl => ?_)
        refine lv_aload_n hx hb dX5_surely_46 rfl (lv_at hl 1 rfl) ?_
        refine va_get (D := (dC, dI)) (ci := 5) (v := .ref g_many) (C := RX5) (T := TX5) (N := 30) hx hb hts hi_5 hown hK hP 0 rfl rfl 4 (by decide) hf_17 (fun _ h9 => h9) rfl dX5_surely_47 ?_
        refine lv_sipush (v := 320) hx hb dX5_surely_50 (by decide) ?_
        refine va_iald hx hb hK hP 2 0 rfl rfl (ki_inl (by decide)) dX5_surely_53 ?_
        refine lv_topi (fun y_22 ey_22 => ?_)
        have j_22 : y_22.toInt = (o_6 (320 : Int32).toNatClampNeg).toInt := congrArg Int32.toInt ey_22
        have n_23 : ((320 : Int32).toNatClampNeg : Int) = 320 := ki_nat _ rfl (by omega)
        have i_24 := w_3.1 (320 : Int32).toNatClampNeg (by omega)
        refine lv_iconst (v := 1) hx hb dX5_surely_54 (by decide) ?_
        refine lv_icmp_le (tgt := 69) hx hb dX5_surely_55 (by decide) (fun c_25 => ?_) (fun c_25 => ?_)
        · have i_25 : y_22.toInt ≤ 1 := kc_le c_25
          refine lv_iconst (v := 0) hx hb dX5_surely_69 (by decide) ?_
          refine lv_istore (lv' := [(4, .int 0), (3, .int y_21), (0, .ref h0), (1, .int p0), (2, .int p1)]) hx hb dX5_surely_70 hl (by decide) rfl (fun ls hl => ?_)
          refine lv_iload_n hx hb dX5_surely_72 rfl (lv_at hl 1 rfl) ?_
          refine lv_iload hx hb dX5_surely_73 (lv_at hl 0 rfl) ?_
          refine lv_aload_n hx hb dX5_surely_75 rfl (lv_at hl 2 rfl) ?_
          refine va_get (D := (dC, dI)) (ci := 5) (v := .ref g_loss) (C := RX5) (T := TX5) (N := 30) hx hb hts hi_5 hown hK hP 0 rfl rfl 5 (by decide) hf_20 (fun _ h9 => h9) rfl dX5_surely_76 ?_
          refine lv_sipush (v := 320) hx hb dX5_surely_79 (by decide) ?_
          refine va_iald hx hb hK hP 3 0 rfl rfl (ki_inl (by decide)) dX5_surely_82 ?_
          refine lv_topi (fun y_26 ey_26 => ?_)
          have j_26 : y_26.toInt = (o_7 (320 : Int32).toNatClampNeg).toInt := congrArg Int32.toInt ey_26
          refine lv_iadd hx hb dX5_surely_83 ?_
          refine lv_topi (fun y_27 ey_27 => ?_)
          refine lv_icmp_le (tgt := 98) hx hb dX5_surely_84 (by decide) (fun c_28 => ?_) (fun c_28 => ?_)
          · have i_28 : y_21.toInt ≤ y_27.toInt := kc_le c_28
            refine lv_ldc (v := (-40000)) hx hb hown hk_148 dX5_surely_98 ?_
            have hP9 := hP
            have hD9 := hD
            have hK9 := hK
            have q_s : y_27 = (if 1 < (o_6 320).toInt then o_10 1921 else 0) + o_7 320 := by
              rw [if_neg (show ¬ 1 < (o_6 320).toInt by have : y_22.toInt = (o_6 320).toInt := congrArg Int32.toInt ey_22; omega)]
              rw [ey_27, ey_26]; rfl
            have q_n : y_21.toInt = (o_10 1920).toInt := congrArg Int32.toInt ey_21
            have q_z : ¬ (o_6 320).toInt = 0 := by have : y_17.toInt = (o_6 320).toInt := congrArg Int32.toInt ey_17; omega
            exact W.iret (v := (-40000)) hx hb hr (fun t ht hW => ⟨⟨(-40000), (o_4, o_5, o_6, o_7, o_8, o_9, o_10, o_11, o_12, o_13, o_14, o_15, o_16), rfl, ⟨Or.inl ⟨(by (try dsimp only); omega), ⟨⟨w_3.2.2.1, (by (try dsimp only); omega), (by (try dsimp only); omega)⟩, w_3.2.2.2.2.2⟩, (by (try dsimp only); unfold mj_sr; rw [if_neg q_z, ← q_s, if_neg (by omega)])⟩, w_3.1, w_3.2.1⟩, by rw [ht]; exact hP9, va_K.moved hW.alike hK9, hD9⟩, hS.F ht⟩) hS.2.2 dX5_surely_100
          · have i_28 : y_27.toInt < y_21.toInt := kc_nle c_28
            refine lv_aload_n hx hb dX5_surely_87 rfl (lv_at hl 2 rfl) ?_
            refine va_get (D := (dC, dI)) (ci := 5) (v := .ref g_voteValue) (C := RX5) (T := TX5) (N := 30) hx hb hts hi_5 hown hK hP 0 rfl rfl 7 (by decide) hf_26 (fun _ h9 => h9) rfl dX5_surely_88 ?_
            refine lv_sipush (v := 1920) hx hb dX5_surely_91 (by decide) ?_
            refine va_iald hx hb hK hP 5 0 rfl rfl (ki_inl (by decide)) dX5_surely_94 ?_
            refine lv_topi (fun y_29 ey_29 => ?_)
            have j_29 : y_29.toInt = (o_9 (1920 : Int32).toNatClampNeg).toInt := congrArg Int32.toInt ey_29
            refine lv_goto (tgt := 100) hx hb dX5_surely_95 (by decide) ?_
            have hP9 := hP
            have hD9 := hD
            have hK9 := hK
            have q_s : y_27 = (if 1 < (o_6 320).toInt then o_10 1921 else 0) + o_7 320 := by
              rw [if_neg (show ¬ 1 < (o_6 320).toInt by have : y_22.toInt = (o_6 320).toInt := congrArg Int32.toInt ey_22; omega)]
              rw [ey_27, ey_26]; rfl
            have q_n : y_21.toInt = (o_10 1920).toInt := congrArg Int32.toInt ey_21
            have q_z : ¬ (o_6 320).toInt = 0 := by have : y_17.toInt = (o_6 320).toInt := congrArg Int32.toInt ey_17; omega
            exact W.iret (v := y_29) hx hb hr (fun t ht hW => ⟨⟨y_29, (o_4, o_5, o_6, o_7, o_8, o_9, o_10, o_11, o_12, o_13, o_14, o_15, o_16), rfl, ⟨Or.inl ⟨(by (try dsimp only); omega), ⟨⟨w_3.2.2.1, (by (try dsimp only); omega), (by (try dsimp only); omega)⟩, w_3.2.2.2.2.2⟩, (by (try dsimp only); unfold mj_sr; rw [if_neg q_z, ← q_s, if_pos (by omega), ey_29]; rfl)⟩, w_3.1, w_3.2.1⟩, by rw [ht]; exact hP9, va_K.moved hW.alike hK9, hD9⟩, hS.F ht⟩) hS.2.2 dX5_surely_100
        · have i_25 : 1 < y_22.toInt := kc_nle c_25
          refine lv_aload_n hx hb dX5_surely_58 rfl (lv_at hl 1 rfl) ?_
          refine va_get (D := (dC, dI)) (ci := 5) (v := .ref g_voteNumber) (C := RX5) (T := TX5) (N := 30) hx hb hts hi_5 hown hK hP 0 rfl rfl 8 (by decide) hf_29 (fun _ h9 => h9) rfl dX5_surely_59 ?_
          refine lv_sipush (v := 1921) hx hb dX5_surely_62 (by decide) ?_
          refine va_iald hx hb hK hP 6 0 rfl rfl (ki_inl (by decide)) dX5_surely_65 ?_
          refine lv_topi (fun y_30 ey_30 => ?_)
          have j_30 : y_30.toInt = (o_10 (1921 : Int32).toNatClampNeg).toInt := congrArg Int32.toInt ey_30
          refine lv_goto (tgt := 70) hx hb dX5_surely_66 (by decide) ?_
          refine lv_istore (lv' := [(4, .int y_30), (3, .int y_21), (0, .ref h0), (1, .int p0), (2, .int p1)]) hx hb dX5_surely_70 hl (by decide) rfl (fun ls hl => ?_)
          refine lv_iload_n hx hb dX5_surely_72 rfl (lv_at hl 1 rfl) ?_
          refine lv_iload hx hb dX5_surely_73 (lv_at hl 0 rfl) ?_
          refine lv_aload_n hx hb dX5_surely_75 rfl (lv_at hl 2 rfl) ?_
          refine va_get (D := (dC, dI)) (ci := 5) (v := .ref g_loss) (C := RX5) (T := TX5) (N := 30) hx hb hts hi_5 hown hK hP 0 rfl rfl 5 (by decide) hf_20 (fun _ h9 => h9) rfl dX5_surely_76 ?_
          refine lv_sipush (v := 320) hx hb dX5_surely_79 (by decide) ?_
          refine va_iald hx hb hK hP 3 0 rfl rfl (ki_inl (by decide)) dX5_surely_82 ?_
          refine lv_topi (fun y_31 ey_31 => ?_)
          have j_31 : y_31.toInt = (o_7 (320 : Int32).toNatClampNeg).toInt := congrArg Int32.toInt ey_31
          refine lv_iadd hx hb dX5_surely_83 ?_
          refine lv_topi (fun y_32 ey_32 => ?_)
          refine lv_icmp_le (tgt := 98) hx hb dX5_surely_84 (by decide) (fun c_33 => ?_) (fun c_33 => ?_)
          · have i_33 : y_21.toInt ≤ y_32.toInt := kc_le c_33
            refine lv_ldc (v := (-40000)) hx hb hown hk_148 dX5_surely_98 ?_
            have hP9 := hP
            have hD9 := hD
            have hK9 := hK
            have q_s : y_32 = (if 1 < (o_6 320).toInt then o_10 1921 else 0) + o_7 320 := by
              rw [if_pos (show 1 < (o_6 320).toInt by have : y_22.toInt = (o_6 320).toInt := congrArg Int32.toInt ey_22; omega)]
              rw [ey_32, ey_30, ey_31]; rfl
            have q_n : y_21.toInt = (o_10 1920).toInt := congrArg Int32.toInt ey_21
            have q_z : ¬ (o_6 320).toInt = 0 := by have : y_17.toInt = (o_6 320).toInt := congrArg Int32.toInt ey_17; omega
            exact W.iret (v := (-40000)) hx hb hr (fun t ht hW => ⟨⟨(-40000), (o_4, o_5, o_6, o_7, o_8, o_9, o_10, o_11, o_12, o_13, o_14, o_15, o_16), rfl, ⟨Or.inl ⟨(by (try dsimp only); omega), ⟨⟨w_3.2.2.1, (by (try dsimp only); omega), (by (try dsimp only); omega)⟩, w_3.2.2.2.2.2⟩, (by (try dsimp only); unfold mj_sr; rw [if_neg q_z, ← q_s, if_neg (by omega)])⟩, w_3.1, w_3.2.1⟩, by rw [ht]; exact hP9, va_K.moved hW.alike hK9, hD9⟩, hS.F ht⟩) hS.2.2 dX5_surely_100
          · have i_33 : y_32.toInt < y_21.toInt := kc_nle c_33
            refine lv_aload_n hx hb dX5_surely_87 rfl (lv_at hl 2 rfl) ?_
            refine va_get (D := (dC, dI)) (ci := 5) (v := .ref g_voteValue) (C := RX5) (T := TX5) (N := 30) hx hb hts hi_5 hown hK hP 0 rfl rfl 7 (by decide) hf_26 (fun _ h9 => h9) rfl dX5_surely_88 ?_
            refine lv_sipush (v := 1920) hx hb dX5_surely_91 (by decide) ?_
            refine va_iald hx hb hK hP 5 0 rfl rfl (ki_inl (by decide)) dX5_surely_94 ?_
            refine lv_topi (fun y_34 ey_34 => ?_)
            have j_34 : y_34.toInt = (o_9 (1920 : Int32).toNatClampNeg).toInt := congrArg Int32.toInt ey_34
            refine lv_goto (tgt := 100) hx hb dX5_surely_95 (by decide) ?_
            have hP9 := hP
            have hD9 := hD
            have hK9 := hK
            have q_s : y_32 = (if 1 < (o_6 320).toInt then o_10 1921 else 0) + o_7 320 := by
              rw [if_pos (show 1 < (o_6 320).toInt by have : y_22.toInt = (o_6 320).toInt := congrArg Int32.toInt ey_22; omega)]
              rw [ey_32, ey_30, ey_31]; rfl
            have q_n : y_21.toInt = (o_10 1920).toInt := congrArg Int32.toInt ey_21
            have q_z : ¬ (o_6 320).toInt = 0 := by have : y_17.toInt = (o_6 320).toInt := congrArg Int32.toInt ey_17; omega
            exact W.iret (v := y_34) hx hb hr (fun t ht hW => ⟨⟨y_34, (o_4, o_5, o_6, o_7, o_8, o_9, o_10, o_11, o_12, o_13, o_14, o_15, o_16), rfl, ⟨Or.inl ⟨(by (try dsimp only); omega), ⟨⟨w_3.2.2.1, (by (try dsimp only); omega), (by (try dsimp only); omega)⟩, w_3.2.2.2.2.2⟩, (by (try dsimp only); unfold mj_sr; rw [if_neg q_z, ← q_s, if_pos (by omega), ey_34]; rfl)⟩, w_3.1, w_3.2.1⟩, by rw [ht]; exact hP9, va_K.moved hW.alike hK9, hD9⟩, hS.F ht⟩) hS.2.2 dX5_surely_100
      · have i_20 : y_17.toInt = 0 := kc_eq c_20
        refine lv_ldc (v := (-40000)) hx hb hown hk_148 dX5_surely_34 ?_
        have hP9 := hP
        have hD9 := hD
        have hK9 := hK
        exact W.iret (v := (-40000)) hx hb hr (fun t ht hW => ⟨⟨(-40000), (o_4, o_5, o_6, o_7, o_8, o_9, o_10, o_11, o_12, o_13, o_14, o_15, o_16), rfl, ⟨Or.inl ⟨(by (try dsimp only); omega), ⟨⟨w_3.2.2.1, (by (try dsimp only); omega), (by (try dsimp only); omega)⟩, w_3.2.2.2.2.2⟩, (by (try dsimp only); unfold mj_sr; rw [if_pos (by have : y_17.toInt = (o_6 320).toInt := congrArg Int32.toInt ey_17; omega)])⟩, w_3.1, w_3.2.1⟩, by rw [ht]; exact hP9, va_K.moved hW.alike hK9, hD9⟩, hS.F ht⟩) hS.2.2 dX5_surely_36
    · exact absurd c_2 (by decide)
  · have w_1 : (p0.toInt < 0 ∨ p1.toInt ≤ p0.toInt ∨ m_n.toInt < p1.toInt) := w_1
    refine lv_if_ne (tgt := 17) hx hb dX5_surely_11 (by decide) (fun c_35 => ?_) (fun c_35 => ?_)
    · exact absurd c_35 (by decide)
    · refine lv_ldc (v := (-40000)) hx hb hown hk_148 dX5_surely_14 ?_
      have hP9 := hP
      have hD9 := hD
      have hK9 := hK
      exact W.iret (v := (-40000)) hx hb hr (fun t ht hW => ⟨⟨(-40000), (m_nodes, m_allMany, fm, fl, fe, vv, vn, av, an, nl, nr, m_partMany, gp), rfl, ⟨Or.inr ⟨(by (try dsimp only); omega), rfl⟩, s4, q0⟩, by rw [ht]; exact hP9, va_K.moved hW.alike hK9, hD9⟩, hS.F ht⟩) hS.2.2 dX5_surely_16

set_option maxHeartbeats 4000000 in
set_option maxRecDepth 100000 in
theorem c_X4_lost_y (l : Launch) (dC : Nat → ClassId) (dI : Nat → Nat → Nat) (m_ : Nat) (q_row : Nat) (q_t : Nat) (t_ : Nat) (h0 : Nat) (k0 : Nat) (w_ : Nat) (z_ : Nat) (slots : Int32) (old : Int32) (q_joined : Nat) (q_from : Nat) (q_to : Nat) (q_size : Nat) (q_lossOf : Nat) (q_lessBy : Nat) (q_value : Nat) (q_number : Nat) (nodes : Int32) (here : Int32) (q_cell : Nat) (cyI : ClassId) (len : Int32) (f : Nat → Int32) (ff : Nat → Int32) (ft : Nat → Int32) (fs : Nat → Int32) (fo : Nat → Int32) (uv : Nat → Int32) (un : Nat → Int32) (fe : Nat → Int32) (j_v : Nat) (j_n : Nat) (js : Int32) (jl : Int32) (je : Int32) (jv : Nat → Int32) (jn : Nat → Int32) (a_v : Nat) (a_n : Nat) (vs : Int32) (lo : Int32) (le : Int32) (fv : Nat → Int32) (fn : Nat → Int32) (p0 : Int32) (p1 : Int32) (p2 : Int32) (sz : Nat) (a0 : 0 ≤ len.toInt) (a1 : len.toInt ≤ 160) (s0 : sixes fs) (sl0 : 1 ≤ slots.toInt) (sl1 : slots.toInt ≤ 6) (l0 : laidX old slots here f ff ft fs fo fe uv un nodes len) : Met l yX4_lost wsX4_lost ({ frames := 6, cells := 0, slots := 0, locals := 270 }) (va_Pc [.ref m_, .int p0, .int p1, .int p2] (fun U => U.heap.size = sz ∧ va_P (dC, dI) vwCl [kx_4 m_ q_row q_t t_ h0 k0 w_ z_ slots old, kx_2 q_t q_row q_joined q_from q_to q_size q_lossOf q_lessBy q_value q_number nodes here, kx_0 q_row q_cell len, kx_a q_cell cyI 160 f, kx_a q_from cyI 319 ff, kx_a q_to cyI 319 ft, kx_a q_size cyI 319 fs, kx_a q_lossOf cyI 319 fo, kx_a q_lessBy cyI 319 fe, kx_a q_value cyI 1914 uv, kx_a q_number cyI 1914 un, kx_3 q_joined j_v j_n js jl je, kx_a j_v cyI 12 jv, kx_a j_n cyI 12 jn, kx_3 h0 a_v a_n vs lo le, kx_a a_v cyI 12 fv, kx_a a_n cyI 12 fn] U.heap ∧ va_K (dC, dI) vwCl [(cyI, .int)] U ∧ va_D (fun _ => True) [kx_4 m_ q_row q_t t_ h0 k0 w_ z_ slots old, kx_2 q_t q_row q_joined q_from q_to q_size q_lossOf q_lessBy q_value q_number nodes here, kx_0 q_row q_cell len, kx_a q_cell cyI 160 f, kx_a q_from cyI 319 ff, kx_a q_to cyI 319 ft, kx_a q_size cyI 319 fs, kx_a q_lossOf cyI 319 fo, kx_a q_lessBy cyI 319 fe, kx_a q_value cyI 1914 uv, kx_a q_number cyI 1914 un, kx_3 q_joined j_v j_n js jl je, kx_a j_v cyI 12 jv, kx_a j_n cyI 12 jn, kx_3 h0 a_v a_n vs lo le, kx_a a_v cyI 12 fv, kx_a a_n cyI 12 fn])) (va_Qi (fun (r : Int32) (u : Int32 × Int32 × Int32 × (Nat → Int32) × (Nat → Int32) × (Nat → Int32) × (Nat → Int32) × (Nat → Int32) × (Nat → Int32) × (Nat → Int32) × Int32 × Int32 × Int32 × (Nat → Int32) × (Nat → Int32) × Int32 × Int32 × Int32 × (Nat → Int32) × (Nat → Int32)) => (((-32768 ≤ p0.toInt ∧ p0.toInt ≤ 32767 ∧ 0 ≤ p1.toInt ∧ p1.toInt < p2.toInt ∧ p2.toInt ≤ len.toInt) ∧ u.1.toInt = 0 ∧ mj_GA slots.toNatClampNeg u.2.2.2.1 u.2.2.2.2.1 u.2.2.2.2.2.1 u.2.2.2.2.2.2.1 u.2.2.2.2.2.2.2.2.1 u.2.2.2.2.2.2.2.2.2.1 p1.toInt p2.toInt (mj_pq u.2.2.2.1 u.2.2.2.2.1 p1.toInt p2.toInt u.2.1.toNatClampNeg) u.2.2.2.2.2.2.2.2.2.2.2.2.2.2.2.1 u.2.2.2.2.2.2.2.2.2.2.2.2.2.2.2.2.1 u.2.2.2.2.2.2.2.2.2.2.2.2.2.2.2.2.2.2.1 u.2.2.2.2.2.2.2.2.2.2.2.2.2.2.2.2.2.2.2 ∧ mj_lr (cnt f p0 p1.toNatClampNeg (p2.toInt - p1.toInt).toNat : Int) (mj_nb u.2.2.2.2.2.2.2.2.2.2.2.2.2.2.2.2.2.2.1 u.2.2.2.2.2.2.2.2.2.2.2.2.2.2.2.2.2.2.2 p0 0 u.2.2.2.2.2.2.2.2.2.2.2.2.2.2.2.1.toNatClampNeg) r) ∨ ((p0.toInt < -32768 ∨ 32767 < p0.toInt ∨ p1.toInt < 0 ∨ p2.toInt ≤ p1.toInt ∨ len.toInt < p2.toInt) ∧ r = -1)) ∧ laidX u.1 slots u.2.2.1 f u.2.2.2.1 u.2.2.2.2.1 u.2.2.2.2.2.1 u.2.2.2.2.2.2.1 u.2.2.2.2.2.2.2.1 u.2.2.2.2.2.2.2.2.1 u.2.2.2.2.2.2.2.2.2.1 u.2.1 len ∧ sixes u.2.2.2.2.2.1) (fun (u : Int32 × Int32 × Int32 × (Nat → Int32) × (Nat → Int32) × (Nat → Int32) × (Nat → Int32) × (Nat → Int32) × (Nat → Int32) × (Nat → Int32) × Int32 × Int32 × Int32 × (Nat → Int32) × (Nat → Int32) × Int32 × Int32 × Int32 × (Nat → Int32) × (Nat → Int32)) (t : State) => va_P (dC, dI) vwCl [kx_4 m_ q_row q_t t_ h0 k0 w_ z_ slots u.1, kx_2 q_t q_row q_joined q_from q_to q_size q_lossOf q_lessBy q_value q_number u.2.1 u.2.2.1, kx_0 q_row q_cell len, kx_a q_cell cyI 160 f, kx_a q_from cyI 319 u.2.2.2.1, kx_a q_to cyI 319 u.2.2.2.2.1, kx_a q_size cyI 319 u.2.2.2.2.2.1, kx_a q_lossOf cyI 319 u.2.2.2.2.2.2.1, kx_a q_lessBy cyI 319 u.2.2.2.2.2.2.2.1, kx_a q_value cyI 1914 u.2.2.2.2.2.2.2.2.1, kx_a q_number cyI 1914 u.2.2.2.2.2.2.2.2.2.1, kx_3 q_joined j_v j_n u.2.2.2.2.2.2.2.2.2.2.1 u.2.2.2.2.2.2.2.2.2.2.2.1 u.2.2.2.2.2.2.2.2.2.2.2.2.1, kx_a j_v cyI 12 u.2.2.2.2.2.2.2.2.2.2.2.2.2.1, kx_a j_n cyI 12 u.2.2.2.2.2.2.2.2.2.2.2.2.2.2.1, kx_3 h0 a_v a_n u.2.2.2.2.2.2.2.2.2.2.2.2.2.2.2.1 u.2.2.2.2.2.2.2.2.2.2.2.2.2.2.2.2.1 u.2.2.2.2.2.2.2.2.2.2.2.2.2.2.2.2.2.1, kx_a a_v cyI 12 u.2.2.2.2.2.2.2.2.2.2.2.2.2.2.2.2.2.2.1, kx_a a_n cyI 12 u.2.2.2.2.2.2.2.2.2.2.2.2.2.2.2.2.2.2.2] t.heap ∧ va_K (dC, dI) vwCl [(cyI, .int)] t ∧ va_D (va_A [kx_4 m_ q_row q_t t_ h0 k0 w_ z_ slots old, kx_2 q_t q_row q_joined q_from q_to q_size q_lossOf q_lessBy q_value q_number nodes here, kx_0 q_row q_cell len, kx_a q_cell cyI 160 f, kx_a q_from cyI 319 ff, kx_a q_to cyI 319 ft, kx_a q_size cyI 319 fs, kx_a q_lossOf cyI 319 fo, kx_a q_lessBy cyI 319 fe, kx_a q_value cyI 1914 uv, kx_a q_number cyI 1914 un, kx_3 q_joined j_v j_n js jl je, kx_a j_v cyI 12 jv, kx_a j_n cyI 12 jn, kx_3 h0 a_v a_n vs lo le, kx_a a_v cyI 12 fv, kx_a a_n cyI 12 fn] sz) [kx_4 m_ q_row q_t t_ h0 k0 w_ z_ slots u.1, kx_2 q_t q_row q_joined q_from q_to q_size q_lossOf q_lessBy q_value q_number u.2.1 u.2.2.1, kx_0 q_row q_cell len, kx_a q_cell cyI 160 f, kx_a q_from cyI 319 u.2.2.2.1, kx_a q_to cyI 319 u.2.2.2.2.1, kx_a q_size cyI 319 u.2.2.2.2.2.1, kx_a q_lossOf cyI 319 u.2.2.2.2.2.2.1, kx_a q_lessBy cyI 319 u.2.2.2.2.2.2.2.1, kx_a q_value cyI 1914 u.2.2.2.2.2.2.2.2.1, kx_a q_number cyI 1914 u.2.2.2.2.2.2.2.2.2.1, kx_3 q_joined j_v j_n u.2.2.2.2.2.2.2.2.2.2.1 u.2.2.2.2.2.2.2.2.2.2.2.1 u.2.2.2.2.2.2.2.2.2.2.2.2.1, kx_a j_v cyI 12 u.2.2.2.2.2.2.2.2.2.2.2.2.2.1, kx_a j_n cyI 12 u.2.2.2.2.2.2.2.2.2.2.2.2.2.2.1, kx_3 h0 a_v a_n u.2.2.2.2.2.2.2.2.2.2.2.2.2.2.2.1 u.2.2.2.2.2.2.2.2.2.2.2.2.2.2.2.2.1 u.2.2.2.2.2.2.2.2.2.2.2.2.2.2.2.2.2.1, kx_a a_v cyI 12 u.2.2.2.2.2.2.2.2.2.2.2.2.2.2.2.2.2.2.1, kx_a a_n cyI 12 u.2.2.2.2.2.2.2.2.2.2.2.2.2.2.2.2.2.2.2]) (va_A [kx_4 m_ q_row q_t t_ h0 k0 w_ z_ slots old, kx_2 q_t q_row q_joined q_from q_to q_size q_lossOf q_lessBy q_value q_number nodes here, kx_0 q_row q_cell len, kx_a q_cell cyI 160 f, kx_a q_from cyI 319 ff, kx_a q_to cyI 319 ft, kx_a q_size cyI 319 fs, kx_a q_lossOf cyI 319 fo, kx_a q_lessBy cyI 319 fe, kx_a q_value cyI 1914 uv, kx_a q_number cyI 1914 un, kx_3 q_joined j_v j_n js jl je, kx_a j_v cyI 12 jv, kx_a j_n cyI 12 jn, kx_3 h0 a_v a_n vs lo le, kx_a a_v cyI 12 fv, kx_a a_n cyI 12 fn] sz)) 0 0 (va_A [kx_4 m_ q_row q_t t_ h0 k0 w_ z_ slots old, kx_2 q_t q_row q_joined q_from q_to q_size q_lossOf q_lessBy q_value q_number nodes here, kx_0 q_row q_cell len, kx_a q_cell cyI 160 f, kx_a q_from cyI 319 ff, kx_a q_to cyI 319 ft, kx_a q_size cyI 319 fs, kx_a q_lossOf cyI 319 fo, kx_a q_lessBy cyI 319 fe, kx_a q_value cyI 1914 uv, kx_a q_number cyI 1914 un, kx_3 q_joined j_v j_n js jl je, kx_a j_v cyI 12 jv, kx_a j_n cyI 12 jn, kx_3 h0 a_v a_n vs lo le, kx_a a_v cyI 12 fv, kx_a a_n cyI 12 fn] sz) := by
  refine Met.ofW (cc := cX4_lost) (maxL := 4) (ret := (some .int)) (by decide) rfl ?_
  intro p e s m args below meth c s₁ B hml hv
  obtain ⟨rfl, hsz, hP, hK, hD0⟩ := hv
  have hx := B.exec
  have hb := B.bytes
  have hr := B.returns
  have hts := atoms_spec (ws := wsX4_lost) B.pre
  have hown : s.vm.findClass RX4 = some m.cls := findClass_of_methodNamed B.named
  have hlocks := B.notSynchronized
  subst hsz
  have hD := hD0.self (sz := s.heap.size)
  generalize hAe : va_A [kx_4 m_ q_row q_t t_ h0 k0 w_ z_ slots old, kx_2 q_t q_row q_joined q_from q_to q_size q_lossOf q_lessBy q_value q_number nodes here, kx_0 q_row q_cell len, kx_a q_cell cyI 160 f, kx_a q_from cyI 319 ff, kx_a q_to cyI 319 ft, kx_a q_size cyI 319 fs, kx_a q_lossOf cyI 319 fo, kx_a q_lessBy cyI 319 fe, kx_a q_value cyI 1914 uv, kx_a q_number cyI 1914 un, kx_3 q_joined j_v j_n js jl je, kx_a j_v cyI 12 jv, kx_a j_n cyI 12 jn, kx_3 h0 a_v a_n vs lo le, kx_a a_v cyI 12 fv, kx_a a_n cyI 12 fn] s.heap.size = A at hD ⊢
  have hA : ∀ q : Nat, s.heap.size ≤ q → A q := fun q h => by rw [← hAe]; exact Or.inr h
  have hS : va_S A s.heap s.heap [] := va_S.rf
  have hP : va_P (dC, dI) vwCl [kx_4 m_ q_row q_t t_ h0 k0 w_ z_ slots old, kx_2 q_t q_row q_joined q_from q_to q_size q_lossOf q_lessBy q_value q_number nodes here, kx_0 q_row q_cell len, kx_a q_cell cyI 160 f, kx_a q_from cyI 319 ff, kx_a q_to cyI 319 ft, kx_a q_size cyI 319 fs, kx_a q_lossOf cyI 319 fo, kx_a q_lessBy cyI 319 fe, kx_a q_value cyI 1914 uv, kx_a q_number cyI 1914 un, kx_3 q_joined j_v j_n js jl je, kx_a j_v cyI 12 jv, kx_a j_n cyI 12 jn, kx_3 h0 a_v a_n vs lo le, kx_a a_v cyI 12 fv, kx_a a_n cyI 12 fn] s.heap := hP
  have hl := lv_entry ([.ref m_, .int p0, .int p1, .int p2]) (n := 4) (Nat.le_of_ble_eq_true rfl)
  rw [lg_entry_eq]
  generalize (lg_sl ([.ref m_, .int p0, .int p1, .int p2]) ++ List.replicate (4 - (lg_sl ([.ref m_, .int p0, .int p1, .int p2])).length) Slot.unset).toArray = ls at hl ⊢
  have hl : lv_has ls 4 [(0, .ref m_), (1, .int p0), (2, .int p1), (3, .int p2)] := hl
  have hf_12 := hts (.fieldLink RX4 12 "MajorityIndex" "row" "LMajorityIndex$Row;") (List.mem_of_getElem? (i := 1) rfl)
  have hi_4 : ∀ w ∈ u_ws RX4 TX4 9, w ∈ wsX4_lost := fun w h => List.mem_cons_of_mem _ (List.mem_append_left _ (List.mem_append_left _ (List.mem_append_left _ (List.mem_append_right _ h))))
  have hf_35 := hts (.fieldLink RX4 35 "MajorityIndex" "votes" "LMajorityIndex$Votes;") (List.mem_of_getElem? (i := 2) rfl)
  refine lv_iload_n hx hb dX4_lost_0 rfl (lv_at hl 1 rfl) ?_
  have hPc := hP.sub (ws' := []) [] rfl
  have hKc := hK.sub (tys' := []) [] rfl
  refine vp_callSi (W.runS (As := [.int p0]) (rest := []) ⟨hx, hb, hml, hown, hts⟩ (c_X4_isValue l dC dI p0) (va_cwS 1 hts gX4_lost_X4_isValue rfl rfl rfl (by decide +kernel) ⟨Nat.le_of_ble_eq_true rfl, Nat.le_of_ble_eq_true rfl⟩) ⟨fun a U g mk q => by obtain ⟨q0, qP, qK⟩ := q; exact ⟨q0, qP, va_K.moved (u := U) (U := U.calling g mk a) (Vm.Alike.refl U.vm) qK⟩, fun U hU hW => ⟨rfl, by rw [hU]; exact hPc, va_K.moved hW.alike hKc⟩⟩ rfl rfl hl.1 rfl (lv_room (Nat.le_of_ble_eq_true rfl)) dX4_lost_1 ⟨Nat.le_of_ble_eq_true rfl, Nat.le_of_ble_eq_true rfl⟩) (fun r_1 w_1 => ?_)
  rcases w_1 with ⟨rfl, w_1⟩ | ⟨rfl, w_1⟩
  · have w_1 : (-32768 ≤ p0.toInt ∧ p0.toInt ≤ 32767) := w_1
    refine lv_if_eq (tgt := 19) hx hb dX4_lost_4 (by decide) (fun c_2 => ?_) (fun c_2 => ?_)
    · exact absurd c_2 (by decide)
    · refine lv_aload_n hx hb dX4_lost_7 rfl (lv_at hl 0 rfl) ?_
      refine va_get (D := (dC, dI)) (ci := 4) (v := .ref q_row) (C := RX4) (T := TX4) (N := 9) hx hb hts hi_4 hown hK hP 0 rfl rfl 0 (by decide) hf_12 (fun _ h9 => h9) rfl dX4_lost_8 ?_
      refine lv_iload_n hx hb dX4_lost_11 rfl (lv_at hl 2 rfl) ?_
      refine lv_iload_n hx hb dX4_lost_12 rfl (lv_at hl 3 rfl) ?_
      have hPc := hP.sub (ws' := [kx_0 q_row q_cell len]) [2] rfl
      have hKc := hK.sub (tys' := []) [] rfl
      refine vp_callSi (W.runV (As := [.int p1, .int p2]) (rest := []) ⟨hx, hb, hml, hown, hts⟩ (c_X0_hasRange l dC dI q_row q_cell len p1 p2) (cwV 2 hts gX4_lost_X0_hasRange rfl rfl rfl (by decide +kernel) ⟨Nat.le_of_ble_eq_true rfl, Nat.le_of_ble_eq_true rfl⟩) ⟨fun a U g mk q => by obtain ⟨q0, qP, qK⟩ := q; exact ⟨q0, qP, va_K.moved (u := U) (U := U.calling g mk a) (Vm.Alike.refl U.vm) qK⟩, va_recv hKc hPc (ci := 0) (q0 := 0) rfl rfl, fun U hU hW => ⟨rfl, by rw [hU]; exact hPc, va_K.moved hW.alike hKc⟩⟩ rfl rfl hl.1 rfl (lv_room (Nat.le_of_ble_eq_true rfl)) dX4_lost_13 ⟨Nat.le_of_ble_eq_true rfl, Nat.le_of_ble_eq_true rfl⟩) (fun r_3 w_3 => ?_)
      rcases w_3 with ⟨rfl, w_3⟩ | ⟨rfl, w_3⟩
      · have w_3 : (0 ≤ p1.toInt ∧ p1.toInt < p2.toInt ∧ p2.toInt ≤ len.toInt) := w_3
        refine lv_if_ne (tgt := 21) hx hb dX4_lost_16 (by decide) (fun c_4 => ?_) (fun c_4 => ?_)
        · refine lv_aload_n hx hb dX4_lost_21 rfl (lv_at hl 0 rfl) ?_
          have hPc := hP.sub (ws' := [kx_4 m_ q_row q_t t_ h0 k0 w_ z_ slots old, kx_2 q_t q_row q_joined q_from q_to q_size q_lossOf q_lessBy q_value q_number nodes here, kx_0 q_row q_cell len, kx_a q_cell cyI 160 f, kx_a q_from cyI 319 ff, kx_a q_to cyI 319 ft, kx_a q_size cyI 319 fs, kx_a q_lossOf cyI 319 fo, kx_a q_lessBy cyI 319 fe, kx_a q_value cyI 1914 uv, kx_a q_number cyI 1914 un, kx_3 q_joined j_v j_n js jl je, kx_a j_v cyI 12 jv, kx_a j_n cyI 12 jn]) [0, 1, 2, 3, 4, 5, 6, 7, 8, 9, 10, 11, 12, 13] rfl
          have hKc := hK
          have hDc := hD.sub (ws' := [kx_4 m_ q_row q_t t_ h0 k0 w_ z_ slots old, kx_2 q_t q_row q_joined q_from q_to q_size q_lossOf q_lessBy q_value q_number nodes here, kx_0 q_row q_cell len, kx_a q_cell cyI 160 f, kx_a q_from cyI 319 ff, kx_a q_to cyI 319 ft, kx_a q_size cyI 319 fs, kx_a q_lossOf cyI 319 fo, kx_a q_lessBy cyI 319 fe, kx_a q_value cyI 1914 uv, kx_a q_number cyI 1914 un, kx_3 q_joined j_v j_n js jl je, kx_a j_v cyI 12 jv, kx_a j_n cyI 12 jn]) [0, 1, 2, 3, 4, 5, 6, 7, 8, 9, 10, 11, 12, 13] (by decide) rfl
          have hFc := va_free (wc := [kx_4 m_ q_row q_t t_ h0 k0 w_ z_ slots old, kx_2 q_t q_row q_joined q_from q_to q_size q_lossOf q_lessBy q_value q_number nodes here, kx_0 q_row q_cell len, kx_a q_cell cyI 160 f, kx_a q_from cyI 319 ff, kx_a q_to cyI 319 ft, kx_a q_size cyI 319 fs, kx_a q_lossOf cyI 319 fo, kx_a q_lessBy cyI 319 fe, kx_a q_value cyI 1914 uv, kx_a q_number cyI 1914 un, kx_3 q_joined j_v j_n js jl je, kx_a j_v cyI 12 jv, kx_a j_n cyI 12 jn]) hD hS hA [0, 1, 2, 3, 4, 5, 6, 7, 8, 9, 10, 11, 12, 13] rfl
          refine va_callr (va_runV (As := []) (rest := []) ⟨hx, hb, hml, hown, hts⟩ (c_X4_laidTree_x l dC dI m_ q_row q_t t_ h0 k0 w_ z_ slots old q_joined q_from q_to q_size q_lossOf q_lessBy q_value q_number nodes here q_cell cyI len f ff ft fs fo uv un fe j_v j_n js jl je jv jn s.heap.size a0 a1 s0 sl0 sl1 l0) (cwV 0 hts gX4_lost_X4_laidTree rfl rfl rfl (by decide +kernel) ⟨Nat.le_of_ble_eq_true rfl, Nat.le_of_ble_eq_true rfl⟩) ⟨fun a U g mk q => by obtain ⟨q0, q1, qP, qK, qD⟩ := q; exact ⟨q0, q1, qP, va_K.moved (u := U) (U := U.calling g mk a) (Vm.Alike.refl U.vm) qK, qD⟩, va_recv hKc hPc (ci := 4) (q0 := 0) rfl rfl, fun U hU hW => ⟨rfl, by rw [hU], by rw [hU]; exact hPc, va_K.moved hW.alike hKc, hDc.weaken (fun _ _ _ _ => trivial)⟩⟩ rfl rfl hl.1 rfl (lv_room (Nat.le_of_ble_eq_true rfl)) dX4_lost_22 ⟨Nat.le_of_ble_eq_true rfl, Nat.le_of_ble_eq_true rfl⟩) hS (fun q _ h => hFc q h) hFc (fun u ra t H1 locs ht hvm w_5 hB hz1 hk1 hS => ?_)
          obtain ⟨o_6, o_7, o_8, o_9, o_10, o_11, o_12, o_13, o_14, o_15, o_16, o_17, o_18, o_19, o_20⟩ := u
          dsimp only at w_5 hB
          obtain ⟨er, hP1, hK1, hD1⟩ := hB
          rw [ht] at hP1
          have hK1 := va_K.moved hvm.symm hK1
          obtain ⟨hP, hD⟩ := va_join (wr := [kx_3 h0 a_v a_n vs lo le, kx_a a_v cyI 12 fv, kx_a a_n cyI 12 fn]) (w1 := [kx_4 m_ q_row q_t t_ h0 k0 w_ z_ slots o_6, kx_2 q_t q_row q_joined q_from q_to q_size q_lossOf q_lessBy q_value q_number o_7 o_8, kx_0 q_row q_cell len, kx_a q_cell cyI 160 f, kx_a q_from cyI 319 o_9, kx_a q_to cyI 319 o_10, kx_a q_size cyI 319 o_11, kx_a q_lossOf cyI 319 o_12, kx_a q_lessBy cyI 319 o_13, kx_a q_value cyI 1914 o_14, kx_a q_number cyI 1914 o_15, kx_3 q_joined j_v j_n o_16 o_17 o_18, kx_a j_v cyI 12 o_19, kx_a j_n cyI 12 o_20]) hP hD [0, 1, 2, 3, 4, 5, 6, 7, 8, 9, 10, 11, 12, 13] [14, 15, 16] rfl rfl (by decide) (by decide) hk1 hFc hP1 hD1
          clear hP1 hD1 hK1 hk1 hz1 hFc hDc hPc hKc
          generalize H1 = H at hP hS ⊢
          have hP : va_P (dC, dI) vwCl [kx_3 h0 a_v a_n vs lo le, kx_a a_v cyI 12 fv, kx_a a_n cyI 12 fn, kx_4 m_ q_row q_t t_ h0 k0 w_ z_ slots o_6, kx_2 q_t q_row q_joined q_from q_to q_size q_lossOf q_lessBy q_value q_number o_7 o_8, kx_0 q_row q_cell len, kx_a q_cell cyI 160 f, kx_a q_from cyI 319 o_9, kx_a q_to cyI 319 o_10, kx_a q_size cyI 319 o_11, kx_a q_lossOf cyI 319 o_12, kx_a q_lessBy cyI 319 o_13, kx_a q_value cyI 1914 o_14, kx_a q_number cyI 1914 o_15, kx_3 q_joined j_v j_n o_16 o_17 o_18, kx_a j_v cyI 12 o_19, kx_a j_n cyI 12 o_20] H := hP
          have hD : va_D A [kx_3 h0 a_v a_n vs lo le, kx_a a_v cyI 12 fv, kx_a a_n cyI 12 fn, kx_4 m_ q_row q_t t_ h0 k0 w_ z_ slots o_6, kx_2 q_t q_row q_joined q_from q_to q_size q_lossOf q_lessBy q_value q_number o_7 o_8, kx_0 q_row q_cell len, kx_a q_cell cyI 160 f, kx_a q_from cyI 319 o_9, kx_a q_to cyI 319 o_10, kx_a q_size cyI 319 o_11, kx_a q_lossOf cyI 319 o_12, kx_a q_lessBy cyI 319 o_13, kx_a q_value cyI 1914 o_14, kx_a q_number cyI 1914 o_15, kx_3 q_joined j_v j_n o_16 o_17 o_18, kx_a j_v cyI 12 o_19, kx_a j_n cyI 12 o_20] := hD
          have w_5 : o_6.toInt = 0 ∧ o_8 = slots ∧ sixes o_11 ∧ mj_C slots.toNatClampNeg f o_9 o_10 o_11 o_12 o_13 o_14 o_15 o_7.toInt len.toInt ∧ 0 ≤ o_7.toInt ∧ o_7.toInt ≤ 319 ∧ treeOk o_9 o_10 o_7.toInt len.toInt := w_5
          rw [er]
          have i_hs := congrArg Int32.toInt w_5.2.1
          refine lv_aload_n hx hb dX4_lost_25 rfl (lv_at hl 0 rfl) ?_
          refine va_get (D := (dC, dI)) (ci := 4) (v := .ref h0) (C := RX4) (T := TX4) (N := 9) hx hb hts hi_4 hown hK hP 3 rfl rfl 3 (by decide) hf_35 (fun _ h9 => h9) rfl dX4_lost_26 ?_
          refine lv_iload_n hx hb dX4_lost_29 rfl (lv_at hl 2 rfl) ?_
          refine lv_iload_n hx hb dX4_lost_30 rfl (lv_at hl 3 rfl) ?_
          have hPc := hP.sub (ws' := [kx_2 q_t q_row q_joined q_from q_to q_size q_lossOf q_lessBy q_value q_number o_7 o_8, kx_a q_from cyI 319 o_9, kx_a q_to cyI 319 o_10, kx_a q_size cyI 319 o_11, kx_a q_lossOf cyI 319 o_12, kx_a q_value cyI 1914 o_14, kx_a q_number cyI 1914 o_15, kx_3 h0 a_v a_n vs lo le, kx_a a_v cyI 12 fv, kx_a a_n cyI 12 fn]) [4, 7, 8, 9, 10, 12, 13, 0, 1, 2] rfl
          have hKc := hK
          have hDc := hD.sub (ws' := [kx_2 q_t q_row q_joined q_from q_to q_size q_lossOf q_lessBy q_value q_number o_7 o_8, kx_a q_from cyI 319 o_9, kx_a q_to cyI 319 o_10, kx_a q_size cyI 319 o_11, kx_a q_lossOf cyI 319 o_12, kx_a q_value cyI 1914 o_14, kx_a q_number cyI 1914 o_15, kx_3 h0 a_v a_n vs lo le, kx_a a_v cyI 12 fv, kx_a a_n cyI 12 fn]) [4, 7, 8, 9, 10, 12, 13, 0, 1, 2] (by decide) rfl
          have hFc := va_free (wc := [kx_2 q_t q_row q_joined q_from q_to q_size q_lossOf q_lessBy q_value q_number o_7 o_8, kx_a q_from cyI 319 o_9, kx_a q_to cyI 319 o_10, kx_a q_size cyI 319 o_11, kx_a q_lossOf cyI 319 o_12, kx_a q_value cyI 1914 o_14, kx_a q_number cyI 1914 o_15, kx_3 h0 a_v a_n vs lo le, kx_a a_v cyI 12 fv, kx_a a_n cyI 12 fn]) hD hS hA [4, 7, 8, 9, 10, 12, 13, 0, 1, 2] rfl
          refine va_callv (va_runV (As := [.ref h0, .int p1, .int p2]) (rest := []) ⟨hx, hb, hml, hown, hts⟩ (c_X2_gather_x l dC dI q_t q_row q_joined q_from q_to q_size q_lossOf q_lessBy q_value q_number o_7 o_8 h0 a_v a_n cyI vs lo le fv fn len f o_9 o_10 o_11 o_12 o_14 o_15 o_13 p1 p2 H.size w_5.2.2.2.2.1 w_5.2.2.2.2.2.1 w_5.2.2.1 a1 (by rw [w_5.2.1]; omega) (by rw [w_5.2.1]; omega) w_5.2.2.2.2.2.2 (by rw [w_5.2.1]; exact w_5.2.2.2.1.2.2.2.2.2.2)) (cwV 3 hts gX4_lost_X2_gather rfl rfl rfl (by decide +kernel) ⟨Nat.le_of_ble_eq_true rfl, Nat.le_of_ble_eq_true rfl⟩) ⟨fun a U g mk q => by obtain ⟨q0, q1, qP, qK, qD⟩ := q; exact ⟨q0, q1, qP, va_K.moved (u := U) (U := U.calling g mk a) (Vm.Alike.refl U.vm) qK, qD⟩, va_recv hKc hPc (ci := 2) (q0 := 0) rfl rfl, fun U hU hW => ⟨rfl, by rw [hU], by rw [hU]; exact hPc, va_K.moved hW.alike hKc, hDc.weaken (fun _ _ _ _ => trivial)⟩⟩ rfl rfl hl.1 rfl (lv_room (Nat.le_of_ble_eq_true rfl)) dX4_lost_31 ⟨Nat.le_of_ble_eq_true rfl, Nat.le_of_ble_eq_true rfl⟩) hS (fun q _ h => hFc q h) hFc (fun u t H1 locs ht hvm w_21 hB hz1 hk1 hS => ?_)
          obtain ⟨o_22, o_23, o_24, o_25, o_26⟩ := u
          dsimp only at w_21 hB
          obtain ⟨hP1, hK1, hD1⟩ := hB
          rw [ht] at hP1
          have hK1 := va_K.moved hvm.symm hK1
          obtain ⟨hP, hD⟩ := va_join (wr := [kx_4 m_ q_row q_t t_ h0 k0 w_ z_ slots o_6, kx_0 q_row q_cell len, kx_a q_cell cyI 160 f, kx_a q_lessBy cyI 319 o_13, kx_3 q_joined j_v j_n o_16 o_17 o_18, kx_a j_v cyI 12 o_19, kx_a j_n cyI 12 o_20]) (w1 := [kx_2 q_t q_row q_joined q_from q_to q_size q_lossOf q_lessBy q_value q_number o_7 o_8, kx_a q_from cyI 319 o_9, kx_a q_to cyI 319 o_10, kx_a q_size cyI 319 o_11, kx_a q_lossOf cyI 319 o_12, kx_a q_value cyI 1914 o_14, kx_a q_number cyI 1914 o_15, kx_3 h0 a_v a_n o_22 o_23 o_24, kx_a a_v cyI 12 o_25, kx_a a_n cyI 12 o_26]) hP hD [4, 7, 8, 9, 10, 12, 13, 0, 1, 2] [3, 5, 6, 11, 14, 15, 16] rfl rfl (by decide) (by decide) hk1 hFc hP1 hD1
          clear hP1 hD1 hK1 hk1 hz1 hFc hDc hPc hKc
          generalize H1 = H at hP hS ⊢
          have hP : va_P (dC, dI) vwCl [kx_4 m_ q_row q_t t_ h0 k0 w_ z_ slots o_6, kx_0 q_row q_cell len, kx_a q_cell cyI 160 f, kx_a q_lessBy cyI 319 o_13, kx_3 q_joined j_v j_n o_16 o_17 o_18, kx_a j_v cyI 12 o_19, kx_a j_n cyI 12 o_20, kx_2 q_t q_row q_joined q_from q_to q_size q_lossOf q_lessBy q_value q_number o_7 o_8, kx_a q_from cyI 319 o_9, kx_a q_to cyI 319 o_10, kx_a q_size cyI 319 o_11, kx_a q_lossOf cyI 319 o_12, kx_a q_value cyI 1914 o_14, kx_a q_number cyI 1914 o_15, kx_3 h0 a_v a_n o_22 o_23 o_24, kx_a a_v cyI 12 o_25, kx_a a_n cyI 12 o_26] H := hP
          have hD : va_D A [kx_4 m_ q_row q_t t_ h0 k0 w_ z_ slots o_6, kx_0 q_row q_cell len, kx_a q_cell cyI 160 f, kx_a q_lessBy cyI 319 o_13, kx_3 q_joined j_v j_n o_16 o_17 o_18, kx_a j_v cyI 12 o_19, kx_a j_n cyI 12 o_20, kx_2 q_t q_row q_joined q_from q_to q_size q_lossOf q_lessBy q_value q_number o_7 o_8, kx_a q_from cyI 319 o_9, kx_a q_to cyI 319 o_10, kx_a q_size cyI 319 o_11, kx_a q_lossOf cyI 319 o_12, kx_a q_value cyI 1914 o_14, kx_a q_number cyI 1914 o_15, kx_3 h0 a_v a_n o_22 o_23 o_24, kx_a a_v cyI 12 o_25, kx_a a_n cyI 12 o_26] := hD
          have w_21 : mj_GA o_8.toNatClampNeg o_9 o_10 o_11 o_12 o_14 o_15 p1.toInt p2.toInt (mj_pq o_9 o_10 p1.toInt p2.toInt o_7.toNatClampNeg) o_22 o_23 o_25 o_26 ∧ 0 ≤ o_22.toInt ∧ o_22.toInt ≤ o_8.toInt := w_21
          refine lv_aload_n hx hb dX4_lost_34 rfl (lv_at hl 0 rfl) ?_
          refine va_get (D := (dC, dI)) (ci := 4) (v := .ref q_row) (C := RX4) (T := TX4) (N := 9) hx hb hts hi_4 hown hK hP 0 rfl rfl 0 (by decide) hf_12 (fun _ h9 => h9) rfl dX4_lost_35 ?_
          refine lv_iload_n hx hb dX4_lost_38 rfl (lv_at hl 1 rfl) ?_
          refine lv_iload_n hx hb dX4_lost_39 rfl (lv_at hl 2 rfl) ?_
          refine lv_iload_n hx hb dX4_lost_40 rfl (lv_at hl 3 rfl) ?_
          have hPc := hP.sub (ws' := [kx_0 q_row q_cell len, kx_a q_cell cyI 160 f]) [1, 2] rfl
          have hKc := hK
          refine vp_callSi (W.runV (As := [.int p0, .int p1, .int p2]) (rest := []) ⟨hx, hb, hml, hown, hts⟩ (c_X0_oftenIn l dC dI q_row q_cell cyI len f p0 p1 p2 (by omega) (by omega)) (cwV 3 hts gX4_lost_X0_oftenIn rfl rfl rfl (by decide +kernel) ⟨Nat.le_of_ble_eq_true rfl, Nat.le_of_ble_eq_true rfl⟩) ⟨fun a U g mk q => by obtain ⟨q0, qP, qK⟩ := q; exact ⟨q0, qP, va_K.moved (u := U) (U := U.calling g mk a) (Vm.Alike.refl U.vm) qK⟩, va_recv hKc hPc (ci := 0) (q0 := 0) rfl rfl, fun U hU hW => ⟨rfl, by rw [hU]; exact hPc, va_K.moved hW.alike hKc⟩⟩ rfl rfl hl.1 rfl (lv_room (Nat.le_of_ble_eq_true rfl)) dX4_lost_41 ⟨Nat.le_of_ble_eq_true rfl, Nat.le_of_ble_eq_true rfl⟩) (fun r_27 w_27 => ?_)
          have w_27 : r_27.toInt = (cnt f p0 p1.toNatClampNeg (p2.toInt - p1.toInt).toNat : Int) := w_27
          refine lv_aload_n hx hb dX4_lost_44 rfl (lv_at hl 0 rfl) ?_
          refine va_get (D := (dC, dI)) (ci := 4) (v := .ref h0) (C := RX4) (T := TX4) (N := 9) hx hb hts hi_4 hown hK hP 0 rfl rfl 3 (by decide) hf_35 (fun _ h9 => h9) rfl dX4_lost_45 ?_
          refine lv_iload_n hx hb dX4_lost_48 rfl (lv_at hl 1 rfl) ?_
          have hPc := hP.sub (ws' := [kx_3 h0 a_v a_n o_22 o_23 o_24, kx_a a_v cyI 12 o_25, kx_a a_n cyI 12 o_26]) [14, 15, 16] rfl
          have hKc := hK
          refine vp_callSi (W.runV (As := [.int p0]) (rest := [.int r_27]) ⟨hx, hb, hml, hown, hts⟩ (c_X3_numberOf_x l dC dI h0 a_v a_n cyI o_22 o_23 o_24 o_25 o_26 p0 w_21.2.1 (by omega)) (cwV 1 hts gX4_lost_X3_numberOf rfl rfl rfl (by decide +kernel) ⟨Nat.le_of_ble_eq_true rfl, Nat.le_of_ble_eq_true rfl⟩) ⟨fun a U g mk q => by obtain ⟨q0, qP, qK⟩ := q; exact ⟨q0, qP, va_K.moved (u := U) (U := U.calling g mk a) (Vm.Alike.refl U.vm) qK⟩, va_recv hKc hPc (ci := 3) (q0 := 0) rfl rfl, fun U hU hW => ⟨rfl, by rw [hU]; exact hPc, va_K.moved hW.alike hKc⟩⟩ rfl rfl hl.1 rfl (lv_room (Nat.le_of_ble_eq_true rfl)) dX4_lost_49 ⟨Nat.le_of_ble_eq_true rfl, Nat.le_of_ble_eq_true rfl⟩) (fun r_28 w_28 => ?_)
          subst w_28
          refine lv_isub hx hb dX4_lost_52 ?_
          refine lv_topi (fun y_29 ey_29 => ?_)
          have hP9 := hP.sub (ws' := [kx_4 m_ q_row q_t t_ h0 k0 w_ z_ slots o_6, kx_2 q_t q_row q_joined q_from q_to q_size q_lossOf q_lessBy q_value q_number o_7 o_8, kx_0 q_row q_cell len, kx_a q_cell cyI 160 f, kx_a q_from cyI 319 o_9, kx_a q_to cyI 319 o_10, kx_a q_size cyI 319 o_11, kx_a q_lossOf cyI 319 o_12, kx_a q_lessBy cyI 319 o_13, kx_a q_value cyI 1914 o_14, kx_a q_number cyI 1914 o_15, kx_3 q_joined j_v j_n o_16 o_17 o_18, kx_a j_v cyI 12 o_19, kx_a j_n cyI 12 o_20, kx_3 h0 a_v a_n o_22 o_23 o_24, kx_a a_v cyI 12 o_25, kx_a a_n cyI 12 o_26]) [0, 7, 1, 2, 8, 9, 10, 11, 3, 12, 13, 4, 5, 6, 14, 15, 16] rfl
          have hD9 := hD.sub (ws' := [kx_4 m_ q_row q_t t_ h0 k0 w_ z_ slots o_6, kx_2 q_t q_row q_joined q_from q_to q_size q_lossOf q_lessBy q_value q_number o_7 o_8, kx_0 q_row q_cell len, kx_a q_cell cyI 160 f, kx_a q_from cyI 319 o_9, kx_a q_to cyI 319 o_10, kx_a q_size cyI 319 o_11, kx_a q_lossOf cyI 319 o_12, kx_a q_lessBy cyI 319 o_13, kx_a q_value cyI 1914 o_14, kx_a q_number cyI 1914 o_15, kx_3 q_joined j_v j_n o_16 o_17 o_18, kx_a j_v cyI 12 o_19, kx_a j_n cyI 12 o_20, kx_3 h0 a_v a_n o_22 o_23 o_24, kx_a a_v cyI 12 o_25, kx_a a_n cyI 12 o_26]) [0, 7, 1, 2, 8, 9, 10, 11, 3, 12, 13, 4, 5, 6, 14, 15, 16] (by decide) rfl
          have hK9 := hK
          have h_ga := w_21.1
          rw [w_5.2.1] at h_ga
          exact W.iret (v := y_29) hx hb hr (fun t ht hW => ⟨⟨y_29, (o_6, o_7, o_8, o_9, o_10, o_11, o_12, o_13, o_14, o_15, o_16, o_17, o_18, o_19, o_20, o_22, o_23, o_24, o_25, o_26), rfl, ⟨Or.inl ⟨(by (try dsimp only); omega), w_5.1, h_ga, ⟨r_27, w_27, ey_29⟩⟩, (fun _ => ⟨w_5.2.1, w_5.2.2.2.1⟩), w_5.2.2.1⟩, by rw [ht]; exact hP9, va_K.moved hW.alike hK9, hD9⟩, hS.F ht⟩) hS.2.2 dX4_lost_53
        · exact absurd c_4 (by decide)
      · have w_3 : (p1.toInt < 0 ∨ p2.toInt ≤ p1.toInt ∨ len.toInt < p2.toInt) := w_3
        refine lv_if_ne (tgt := 21) hx hb dX4_lost_16 (by decide) (fun c_30 => ?_) (fun c_30 => ?_)
        · exact absurd c_30 (by decide)
        · refine lv_iconst (v := (-1)) hx hb dX4_lost_19 (by decide) ?_
          have hP9 := hP
          have hD9 := hD
          have hK9 := hK
          exact W.iret (v := (-1)) hx hb hr (fun t ht hW => ⟨⟨(-1), (old, nodes, here, ff, ft, fs, fo, fe, uv, un, js, jl, je, jv, jn, vs, lo, le, fv, fn), rfl, ⟨Or.inr ⟨(by (try dsimp only); omega), rfl⟩, l0, s0⟩, by rw [ht]; exact hP9, va_K.moved hW.alike hK9, hD9⟩, hS.F ht⟩) hS.2.2 dX4_lost_20
  · have w_1 : (p0.toInt < -32768 ∨ 32767 < p0.toInt) := w_1
    refine lv_if_eq (tgt := 19) hx hb dX4_lost_4 (by decide) (fun c_31 => ?_) (fun c_31 => ?_)
    · refine lv_iconst (v := (-1)) hx hb dX4_lost_19 (by decide) ?_
      have hP9 := hP
      have hD9 := hD
      have hK9 := hK
      exact W.iret (v := (-1)) hx hb hr (fun t ht hW => ⟨⟨(-1), (old, nodes, here, ff, ft, fs, fo, fe, uv, un, js, jl, je, jv, jn, vs, lo, le, fv, fn), rfl, ⟨Or.inr ⟨(by (try dsimp only); omega), rfl⟩, l0, s0⟩, by rw [ht]; exact hP9, va_K.moved hW.alike hK9, hD9⟩, hS.F ht⟩) hS.2.2 dX4_lost_20
    · exact absurd c_31 (by decide)

set_option maxHeartbeats 4000000 in
set_option maxRecDepth 100000 in
theorem c_X4_surely_y (l : Launch) (dC : Nat → ClassId) (dI : Nat → Nat → Nat) (m_ : Nat) (q_row : Nat) (q_t : Nat) (t_ : Nat) (h0 : Nat) (k0 : Nat) (w_ : Nat) (z_ : Nat) (slots : Int32) (old : Int32) (q_joined : Nat) (q_from : Nat) (q_to : Nat) (q_size : Nat) (q_lossOf : Nat) (q_lessBy : Nat) (q_value : Nat) (q_number : Nat) (nodes : Int32) (here : Int32) (q_cell : Nat) (cyI : ClassId) (len : Int32) (f : Nat → Int32) (ff : Nat → Int32) (ft : Nat → Int32) (fs : Nat → Int32) (fo : Nat → Int32) (uv : Nat → Int32) (un : Nat → Int32) (fe : Nat → Int32) (j_v : Nat) (j_n : Nat) (js : Int32) (jl : Int32) (je : Int32) (jv : Nat → Int32) (jn : Nat → Int32) (a_v : Nat) (a_n : Nat) (vs : Int32) (lo : Int32) (le : Int32) (fv : Nat → Int32) (fn : Nat → Int32) (p0 : Int32) (p1 : Int32) (sz : Nat) (a0 : 0 ≤ len.toInt) (a1 : len.toInt ≤ 160) (s0 : sixes fs) (sl0 : 1 ≤ slots.toInt) (sl1 : slots.toInt ≤ 6) (l0 : laidX old slots here f ff ft fs fo fe uv un nodes len) : Met l yX4_surely wsX4_surely ({ frames := 6, cells := 0, slots := 0, locals := 270 }) (va_Pc [.ref m_, .int p0, .int p1] (fun U => U.heap.size = sz ∧ va_P (dC, dI) vwCl [kx_4 m_ q_row q_t t_ h0 k0 w_ z_ slots old, kx_2 q_t q_row q_joined q_from q_to q_size q_lossOf q_lessBy q_value q_number nodes here, kx_0 q_row q_cell len, kx_a q_cell cyI 160 f, kx_a q_from cyI 319 ff, kx_a q_to cyI 319 ft, kx_a q_size cyI 319 fs, kx_a q_lossOf cyI 319 fo, kx_a q_lessBy cyI 319 fe, kx_a q_value cyI 1914 uv, kx_a q_number cyI 1914 un, kx_3 q_joined j_v j_n js jl je, kx_a j_v cyI 12 jv, kx_a j_n cyI 12 jn, kx_3 h0 a_v a_n vs lo le, kx_a a_v cyI 12 fv, kx_a a_n cyI 12 fn] U.heap ∧ va_K (dC, dI) vwCl [(cyI, .int)] U ∧ va_D (fun _ => True) [kx_4 m_ q_row q_t t_ h0 k0 w_ z_ slots old, kx_2 q_t q_row q_joined q_from q_to q_size q_lossOf q_lessBy q_value q_number nodes here, kx_0 q_row q_cell len, kx_a q_cell cyI 160 f, kx_a q_from cyI 319 ff, kx_a q_to cyI 319 ft, kx_a q_size cyI 319 fs, kx_a q_lossOf cyI 319 fo, kx_a q_lessBy cyI 319 fe, kx_a q_value cyI 1914 uv, kx_a q_number cyI 1914 un, kx_3 q_joined j_v j_n js jl je, kx_a j_v cyI 12 jv, kx_a j_n cyI 12 jn, kx_3 h0 a_v a_n vs lo le, kx_a a_v cyI 12 fv, kx_a a_n cyI 12 fn])) (va_Qi (fun (r : Int32) (u : Int32 × Int32 × Int32 × (Nat → Int32) × (Nat → Int32) × (Nat → Int32) × (Nat → Int32) × (Nat → Int32) × (Nat → Int32) × (Nat → Int32) × Int32 × Int32 × Int32 × (Nat → Int32) × (Nat → Int32) × Int32 × Int32 × Int32 × (Nat → Int32) × (Nat → Int32)) => (((0 ≤ p0.toInt ∧ p0.toInt < p1.toInt ∧ p1.toInt ≤ len.toInt) ∧ u.1.toInt = 0 ∧ mj_GA slots.toNatClampNeg u.2.2.2.1 u.2.2.2.2.1 u.2.2.2.2.2.1 u.2.2.2.2.2.2.1 u.2.2.2.2.2.2.2.2.1 u.2.2.2.2.2.2.2.2.2.1 p0.toInt p1.toInt (mj_pq u.2.2.2.1 u.2.2.2.2.1 p0.toInt p1.toInt u.2.1.toNatClampNeg) u.2.2.2.2.2.2.2.2.2.2.2.2.2.2.2.1 u.2.2.2.2.2.2.2.2.2.2.2.2.2.2.2.2.1 u.2.2.2.2.2.2.2.2.2.2.2.2.2.2.2.2.2.2.1 u.2.2.2.2.2.2.2.2.2.2.2.2.2.2.2.2.2.2.2 ∧ r = mj_sr u.2.2.2.2.2.2.2.2.2.2.2.2.2.2.2.1 (u.2.2.2.2.2.2.2.2.2.2.2.2.2.2.2.2.2.2.2 0) (u.2.2.2.2.2.2.2.2.2.2.2.2.2.2.2.2.2.2.2 1) (u.2.2.2.2.2.2.2.2.2.2.2.2.2.2.2.2.2.2.1 0) u.2.2.2.2.2.2.2.2.2.2.2.2.2.2.2.2.1) ∨ ((p0.toInt < 0 ∨ p1.toInt ≤ p0.toInt ∨ len.toInt < p1.toInt) ∧ r = -40000)) ∧ laidX u.1 slots u.2.2.1 f u.2.2.2.1 u.2.2.2.2.1 u.2.2.2.2.2.1 u.2.2.2.2.2.2.1 u.2.2.2.2.2.2.2.1 u.2.2.2.2.2.2.2.2.1 u.2.2.2.2.2.2.2.2.2.1 u.2.1 len ∧ sixes u.2.2.2.2.2.1) (fun (u : Int32 × Int32 × Int32 × (Nat → Int32) × (Nat → Int32) × (Nat → Int32) × (Nat → Int32) × (Nat → Int32) × (Nat → Int32) × (Nat → Int32) × Int32 × Int32 × Int32 × (Nat → Int32) × (Nat → Int32) × Int32 × Int32 × Int32 × (Nat → Int32) × (Nat → Int32)) (t : State) => va_P (dC, dI) vwCl [kx_4 m_ q_row q_t t_ h0 k0 w_ z_ slots u.1, kx_2 q_t q_row q_joined q_from q_to q_size q_lossOf q_lessBy q_value q_number u.2.1 u.2.2.1, kx_0 q_row q_cell len, kx_a q_cell cyI 160 f, kx_a q_from cyI 319 u.2.2.2.1, kx_a q_to cyI 319 u.2.2.2.2.1, kx_a q_size cyI 319 u.2.2.2.2.2.1, kx_a q_lossOf cyI 319 u.2.2.2.2.2.2.1, kx_a q_lessBy cyI 319 u.2.2.2.2.2.2.2.1, kx_a q_value cyI 1914 u.2.2.2.2.2.2.2.2.1, kx_a q_number cyI 1914 u.2.2.2.2.2.2.2.2.2.1, kx_3 q_joined j_v j_n u.2.2.2.2.2.2.2.2.2.2.1 u.2.2.2.2.2.2.2.2.2.2.2.1 u.2.2.2.2.2.2.2.2.2.2.2.2.1, kx_a j_v cyI 12 u.2.2.2.2.2.2.2.2.2.2.2.2.2.1, kx_a j_n cyI 12 u.2.2.2.2.2.2.2.2.2.2.2.2.2.2.1, kx_3 h0 a_v a_n u.2.2.2.2.2.2.2.2.2.2.2.2.2.2.2.1 u.2.2.2.2.2.2.2.2.2.2.2.2.2.2.2.2.1 u.2.2.2.2.2.2.2.2.2.2.2.2.2.2.2.2.2.1, kx_a a_v cyI 12 u.2.2.2.2.2.2.2.2.2.2.2.2.2.2.2.2.2.2.1, kx_a a_n cyI 12 u.2.2.2.2.2.2.2.2.2.2.2.2.2.2.2.2.2.2.2] t.heap ∧ va_K (dC, dI) vwCl [(cyI, .int)] t ∧ va_D (va_A [kx_4 m_ q_row q_t t_ h0 k0 w_ z_ slots old, kx_2 q_t q_row q_joined q_from q_to q_size q_lossOf q_lessBy q_value q_number nodes here, kx_0 q_row q_cell len, kx_a q_cell cyI 160 f, kx_a q_from cyI 319 ff, kx_a q_to cyI 319 ft, kx_a q_size cyI 319 fs, kx_a q_lossOf cyI 319 fo, kx_a q_lessBy cyI 319 fe, kx_a q_value cyI 1914 uv, kx_a q_number cyI 1914 un, kx_3 q_joined j_v j_n js jl je, kx_a j_v cyI 12 jv, kx_a j_n cyI 12 jn, kx_3 h0 a_v a_n vs lo le, kx_a a_v cyI 12 fv, kx_a a_n cyI 12 fn] sz) [kx_4 m_ q_row q_t t_ h0 k0 w_ z_ slots u.1, kx_2 q_t q_row q_joined q_from q_to q_size q_lossOf q_lessBy q_value q_number u.2.1 u.2.2.1, kx_0 q_row q_cell len, kx_a q_cell cyI 160 f, kx_a q_from cyI 319 u.2.2.2.1, kx_a q_to cyI 319 u.2.2.2.2.1, kx_a q_size cyI 319 u.2.2.2.2.2.1, kx_a q_lossOf cyI 319 u.2.2.2.2.2.2.1, kx_a q_lessBy cyI 319 u.2.2.2.2.2.2.2.1, kx_a q_value cyI 1914 u.2.2.2.2.2.2.2.2.1, kx_a q_number cyI 1914 u.2.2.2.2.2.2.2.2.2.1, kx_3 q_joined j_v j_n u.2.2.2.2.2.2.2.2.2.2.1 u.2.2.2.2.2.2.2.2.2.2.2.1 u.2.2.2.2.2.2.2.2.2.2.2.2.1, kx_a j_v cyI 12 u.2.2.2.2.2.2.2.2.2.2.2.2.2.1, kx_a j_n cyI 12 u.2.2.2.2.2.2.2.2.2.2.2.2.2.2.1, kx_3 h0 a_v a_n u.2.2.2.2.2.2.2.2.2.2.2.2.2.2.2.1 u.2.2.2.2.2.2.2.2.2.2.2.2.2.2.2.2.1 u.2.2.2.2.2.2.2.2.2.2.2.2.2.2.2.2.2.1, kx_a a_v cyI 12 u.2.2.2.2.2.2.2.2.2.2.2.2.2.2.2.2.2.2.1, kx_a a_n cyI 12 u.2.2.2.2.2.2.2.2.2.2.2.2.2.2.2.2.2.2.2]) (va_A [kx_4 m_ q_row q_t t_ h0 k0 w_ z_ slots old, kx_2 q_t q_row q_joined q_from q_to q_size q_lossOf q_lessBy q_value q_number nodes here, kx_0 q_row q_cell len, kx_a q_cell cyI 160 f, kx_a q_from cyI 319 ff, kx_a q_to cyI 319 ft, kx_a q_size cyI 319 fs, kx_a q_lossOf cyI 319 fo, kx_a q_lessBy cyI 319 fe, kx_a q_value cyI 1914 uv, kx_a q_number cyI 1914 un, kx_3 q_joined j_v j_n js jl je, kx_a j_v cyI 12 jv, kx_a j_n cyI 12 jn, kx_3 h0 a_v a_n vs lo le, kx_a a_v cyI 12 fv, kx_a a_n cyI 12 fn] sz)) 0 0 (va_A [kx_4 m_ q_row q_t t_ h0 k0 w_ z_ slots old, kx_2 q_t q_row q_joined q_from q_to q_size q_lossOf q_lessBy q_value q_number nodes here, kx_0 q_row q_cell len, kx_a q_cell cyI 160 f, kx_a q_from cyI 319 ff, kx_a q_to cyI 319 ft, kx_a q_size cyI 319 fs, kx_a q_lossOf cyI 319 fo, kx_a q_lessBy cyI 319 fe, kx_a q_value cyI 1914 uv, kx_a q_number cyI 1914 un, kx_3 q_joined j_v j_n js jl je, kx_a j_v cyI 12 jv, kx_a j_n cyI 12 jn, kx_3 h0 a_v a_n vs lo le, kx_a a_v cyI 12 fv, kx_a a_n cyI 12 fn] sz) := by
  refine Met.ofW (cc := cX4_surely) (maxL := 4) (ret := (some .int)) (by decide) rfl ?_
  intro p e s m args below meth c s₁ B hml hv
  obtain ⟨rfl, hsz, hP, hK, hD0⟩ := hv
  have hx := B.exec
  have hb := B.bytes
  have hr := B.returns
  have hts := atoms_spec (ws := wsX4_surely) B.pre
  have hown : s.vm.findClass RX4 = some m.cls := findClass_of_methodNamed B.named
  have hlocks := B.notSynchronized
  subst hsz
  have hD := hD0.self (sz := s.heap.size)
  generalize hAe : va_A [kx_4 m_ q_row q_t t_ h0 k0 w_ z_ slots old, kx_2 q_t q_row q_joined q_from q_to q_size q_lossOf q_lessBy q_value q_number nodes here, kx_0 q_row q_cell len, kx_a q_cell cyI 160 f, kx_a q_from cyI 319 ff, kx_a q_to cyI 319 ft, kx_a q_size cyI 319 fs, kx_a q_lossOf cyI 319 fo, kx_a q_lessBy cyI 319 fe, kx_a q_value cyI 1914 uv, kx_a q_number cyI 1914 un, kx_3 q_joined j_v j_n js jl je, kx_a j_v cyI 12 jv, kx_a j_n cyI 12 jn, kx_3 h0 a_v a_n vs lo le, kx_a a_v cyI 12 fv, kx_a a_n cyI 12 fn] s.heap.size = A at hD ⊢
  have hA : ∀ q : Nat, s.heap.size ≤ q → A q := fun q h => by rw [← hAe]; exact Or.inr h
  have hS : va_S A s.heap s.heap [] := va_S.rf
  have hP : va_P (dC, dI) vwCl [kx_4 m_ q_row q_t t_ h0 k0 w_ z_ slots old, kx_2 q_t q_row q_joined q_from q_to q_size q_lossOf q_lessBy q_value q_number nodes here, kx_0 q_row q_cell len, kx_a q_cell cyI 160 f, kx_a q_from cyI 319 ff, kx_a q_to cyI 319 ft, kx_a q_size cyI 319 fs, kx_a q_lossOf cyI 319 fo, kx_a q_lessBy cyI 319 fe, kx_a q_value cyI 1914 uv, kx_a q_number cyI 1914 un, kx_3 q_joined j_v j_n js jl je, kx_a j_v cyI 12 jv, kx_a j_n cyI 12 jn, kx_3 h0 a_v a_n vs lo le, kx_a a_v cyI 12 fv, kx_a a_n cyI 12 fn] s.heap := hP
  have hl := lv_entry ([.ref m_, .int p0, .int p1]) (n := 4) (Nat.le_of_ble_eq_true rfl)
  rw [lg_entry_eq]
  generalize (lg_sl ([.ref m_, .int p0, .int p1]) ++ List.replicate (4 - (lg_sl ([.ref m_, .int p0, .int p1])).length) Slot.unset).toArray = ls at hl ⊢
  have hl : lv_has ls 4 [(0, .ref m_), (1, .int p0), (2, .int p1)] := hl
  have hf_12 := hts (.fieldLink RX4 12 "MajorityIndex" "row" "LMajorityIndex$Row;") (List.mem_of_getElem? (i := 1) rfl)
  have hi_4 : ∀ w ∈ u_ws RX4 TX4 9, w ∈ wsX4_surely := fun w h => List.mem_cons_of_mem _ (List.mem_append_left _ (List.mem_append_left _ (List.mem_append_left _ (List.mem_append_right _ h))))
  have hf_35 := hts (.fieldLink RX4 35 "MajorityIndex" "votes" "LMajorityIndex$Votes;") (List.mem_of_getElem? (i := 3) rfl)
  have hf_174 := hts (.fieldLink RX4 174 "MajorityIndex$Votes" "size" "I") (List.mem_of_getElem? (i := 4) rfl)
  have hi_3 : ∀ w ∈ u_ws RX3 TX3 5, w ∈ wsX4_surely := fun w h => List.mem_cons_of_mem _ (List.mem_append_left _ (List.mem_append_left _ (List.mem_append_right _ h)))
  have hf_136 := hts (.fieldLink RX4 136 "MajorityIndex$Votes" "number" "[I") (List.mem_of_getElem? (i := 5) rfl)
  have hf_180 := hts (.fieldLink RX4 180 "MajorityIndex$Votes" "lost" "I") (List.mem_of_getElem? (i := 6) rfl)
  have hk_102 := hts (.constant RX4 102 (-40000)) (List.mem_of_getElem? (i := 2) rfl)
  have hf_133 := hts (.fieldLink RX4 133 "MajorityIndex$Votes" "value" "[I") (List.mem_of_getElem? (i := 7) rfl)
  refine lv_aload_n hx hb dX4_surely_0 rfl (lv_at hl 0 rfl) ?_
  refine va_get (D := (dC, dI)) (ci := 4) (v := .ref q_row) (C := RX4) (T := TX4) (N := 9) hx hb hts hi_4 hown hK hP 0 rfl rfl 0 (by decide) hf_12 (fun _ h9 => h9) rfl dX4_surely_1 ?_
  refine lv_iload_n hx hb dX4_surely_4 rfl (lv_at hl 1 rfl) ?_
  refine lv_iload_n hx hb dX4_surely_5 rfl (lv_at hl 2 rfl) ?_
  have hPc := hP.sub (ws' := [kx_0 q_row q_cell len]) [2] rfl
  have hKc := hK.sub (tys' := []) [] rfl
  refine vp_callSi (W.runV (As := [.int p0, .int p1]) (rest := []) ⟨hx, hb, hml, hown, hts⟩ (c_X0_hasRange l dC dI q_row q_cell len p0 p1) (cwV 2 hts gX4_surely_X0_hasRange rfl rfl rfl (by decide +kernel) ⟨Nat.le_of_ble_eq_true rfl, Nat.le_of_ble_eq_true rfl⟩) ⟨fun a U g mk q => by obtain ⟨q0, qP, qK⟩ := q; exact ⟨q0, qP, va_K.moved (u := U) (U := U.calling g mk a) (Vm.Alike.refl U.vm) qK⟩, va_recv hKc hPc (ci := 0) (q0 := 0) rfl rfl, fun U hU hW => ⟨rfl, by rw [hU]; exact hPc, va_K.moved hW.alike hKc⟩⟩ rfl rfl hl.1 rfl (lv_room (Nat.le_of_ble_eq_true rfl)) dX4_surely_6 ⟨Nat.le_of_ble_eq_true rfl, Nat.le_of_ble_eq_true rfl⟩) (fun r_1 w_1 => ?_)
  rcases w_1 with ⟨rfl, w_1⟩ | ⟨rfl, w_1⟩
  · have w_1 : (0 ≤ p0.toInt ∧ p0.toInt < p1.toInt ∧ p1.toInt ≤ len.toInt) := w_1
    refine lv_if_ne (tgt := 15) hx hb dX4_surely_9 (by decide) (fun c_2 => ?_) (fun c_2 => ?_)
    · refine lv_aload_n hx hb dX4_surely_15 rfl (lv_at hl 0 rfl) ?_
      have hPc := hP.sub (ws' := [kx_4 m_ q_row q_t t_ h0 k0 w_ z_ slots old, kx_2 q_t q_row q_joined q_from q_to q_size q_lossOf q_lessBy q_value q_number nodes here, kx_0 q_row q_cell len, kx_a q_cell cyI 160 f, kx_a q_from cyI 319 ff, kx_a q_to cyI 319 ft, kx_a q_size cyI 319 fs, kx_a q_lossOf cyI 319 fo, kx_a q_lessBy cyI 319 fe, kx_a q_value cyI 1914 uv, kx_a q_number cyI 1914 un, kx_3 q_joined j_v j_n js jl je, kx_a j_v cyI 12 jv, kx_a j_n cyI 12 jn]) [0, 1, 2, 3, 4, 5, 6, 7, 8, 9, 10, 11, 12, 13] rfl
      have hKc := hK
      have hDc := hD.sub (ws' := [kx_4 m_ q_row q_t t_ h0 k0 w_ z_ slots old, kx_2 q_t q_row q_joined q_from q_to q_size q_lossOf q_lessBy q_value q_number nodes here, kx_0 q_row q_cell len, kx_a q_cell cyI 160 f, kx_a q_from cyI 319 ff, kx_a q_to cyI 319 ft, kx_a q_size cyI 319 fs, kx_a q_lossOf cyI 319 fo, kx_a q_lessBy cyI 319 fe, kx_a q_value cyI 1914 uv, kx_a q_number cyI 1914 un, kx_3 q_joined j_v j_n js jl je, kx_a j_v cyI 12 jv, kx_a j_n cyI 12 jn]) [0, 1, 2, 3, 4, 5, 6, 7, 8, 9, 10, 11, 12, 13] (by decide) rfl
      have hFc := va_free (wc := [kx_4 m_ q_row q_t t_ h0 k0 w_ z_ slots old, kx_2 q_t q_row q_joined q_from q_to q_size q_lossOf q_lessBy q_value q_number nodes here, kx_0 q_row q_cell len, kx_a q_cell cyI 160 f, kx_a q_from cyI 319 ff, kx_a q_to cyI 319 ft, kx_a q_size cyI 319 fs, kx_a q_lossOf cyI 319 fo, kx_a q_lessBy cyI 319 fe, kx_a q_value cyI 1914 uv, kx_a q_number cyI 1914 un, kx_3 q_joined j_v j_n js jl je, kx_a j_v cyI 12 jv, kx_a j_n cyI 12 jn]) hD hS hA [0, 1, 2, 3, 4, 5, 6, 7, 8, 9, 10, 11, 12, 13] rfl
      refine va_callr (va_runV (As := []) (rest := []) ⟨hx, hb, hml, hown, hts⟩ (c_X4_laidTree_x l dC dI m_ q_row q_t t_ h0 k0 w_ z_ slots old q_joined q_from q_to q_size q_lossOf q_lessBy q_value q_number nodes here q_cell cyI len f ff ft fs fo uv un fe j_v j_n js jl je jv jn s.heap.size a0 a1 s0 sl0 sl1 l0) (cwV 0 hts gX4_surely_X4_laidTree rfl rfl rfl (by decide +kernel) ⟨Nat.le_of_ble_eq_true rfl, Nat.le_of_ble_eq_true rfl⟩) ⟨fun a U g mk q => by obtain ⟨q0, q1, qP, qK, qD⟩ := q; exact ⟨q0, q1, qP, va_K.moved (u := U) (U := U.calling g mk a) (Vm.Alike.refl U.vm) qK, qD⟩, va_recv hKc hPc (ci := 4) (q0 := 0) rfl rfl, fun U hU hW => ⟨rfl, by rw [hU], by rw [hU]; exact hPc, va_K.moved hW.alike hKc, hDc.weaken (fun _ _ _ _ => trivial)⟩⟩ rfl rfl hl.1 rfl (lv_room (Nat.le_of_ble_eq_true rfl)) dX4_surely_16 ⟨Nat.le_of_ble_eq_true rfl, Nat.le_of_ble_eq_true rfl⟩) hS (fun q _ h => hFc q h) hFc (fun u ra t H1 locs ht hvm w_3 hB hz1 hk1 hS => ?_)
      obtain ⟨o_4, o_5, o_6, o_7, o_8, o_9, o_10, o_11, o_12, o_13, o_14, o_15, o_16, o_17, o_18⟩ := u
      dsimp only at w_3 hB
      obtain ⟨er, hP1, hK1, hD1⟩ := hB
      rw [ht] at hP1
      have hK1 := va_K.moved hvm.symm hK1
      obtain ⟨hP, hD⟩ := va_join (wr := [kx_3 h0 a_v a_n vs lo le, kx_a a_v cyI 12 fv, kx_a a_n cyI 12 fn]) (w1 := [kx_4 m_ q_row q_t t_ h0 k0 w_ z_ slots o_4, kx_2 q_t q_row q_joined q_from q_to q_size q_lossOf q_lessBy q_value q_number o_5 o_6, kx_0 q_row q_cell len, kx_a q_cell cyI 160 f, kx_a q_from cyI 319 o_7, kx_a q_to cyI 319 o_8, kx_a q_size cyI 319 o_9, kx_a q_lossOf cyI 319 o_10, kx_a q_lessBy cyI 319 o_11, kx_a q_value cyI 1914 o_12, kx_a q_number cyI 1914 o_13, kx_3 q_joined j_v j_n o_14 o_15 o_16, kx_a j_v cyI 12 o_17, kx_a j_n cyI 12 o_18]) hP hD [0, 1, 2, 3, 4, 5, 6, 7, 8, 9, 10, 11, 12, 13] [14, 15, 16] rfl rfl (by decide) (by decide) hk1 hFc hP1 hD1
      clear hP1 hD1 hK1 hk1 hz1 hFc hDc hPc hKc
      generalize H1 = H at hP hS ⊢
      have hP : va_P (dC, dI) vwCl [kx_3 h0 a_v a_n vs lo le, kx_a a_v cyI 12 fv, kx_a a_n cyI 12 fn, kx_4 m_ q_row q_t t_ h0 k0 w_ z_ slots o_4, kx_2 q_t q_row q_joined q_from q_to q_size q_lossOf q_lessBy q_value q_number o_5 o_6, kx_0 q_row q_cell len, kx_a q_cell cyI 160 f, kx_a q_from cyI 319 o_7, kx_a q_to cyI 319 o_8, kx_a q_size cyI 319 o_9, kx_a q_lossOf cyI 319 o_10, kx_a q_lessBy cyI 319 o_11, kx_a q_value cyI 1914 o_12, kx_a q_number cyI 1914 o_13, kx_3 q_joined j_v j_n o_14 o_15 o_16, kx_a j_v cyI 12 o_17, kx_a j_n cyI 12 o_18] H := hP
      have hD : va_D A [kx_3 h0 a_v a_n vs lo le, kx_a a_v cyI 12 fv, kx_a a_n cyI 12 fn, kx_4 m_ q_row q_t t_ h0 k0 w_ z_ slots o_4, kx_2 q_t q_row q_joined q_from q_to q_size q_lossOf q_lessBy q_value q_number o_5 o_6, kx_0 q_row q_cell len, kx_a q_cell cyI 160 f, kx_a q_from cyI 319 o_7, kx_a q_to cyI 319 o_8, kx_a q_size cyI 319 o_9, kx_a q_lossOf cyI 319 o_10, kx_a q_lessBy cyI 319 o_11, kx_a q_value cyI 1914 o_12, kx_a q_number cyI 1914 o_13, kx_3 q_joined j_v j_n o_14 o_15 o_16, kx_a j_v cyI 12 o_17, kx_a j_n cyI 12 o_18] := hD
      have w_3 : o_4.toInt = 0 ∧ o_6 = slots ∧ sixes o_9 ∧ mj_C slots.toNatClampNeg f o_7 o_8 o_9 o_10 o_11 o_12 o_13 o_5.toInt len.toInt ∧ 0 ≤ o_5.toInt ∧ o_5.toInt ≤ 319 ∧ treeOk o_7 o_8 o_5.toInt len.toInt := w_3
      rw [er]
      have i_hs := congrArg Int32.toInt w_3.2.1
      refine lv_aload_n hx hb dX4_surely_19 rfl (lv_at hl 0 rfl) ?_
      refine va_get (D := (dC, dI)) (ci := 4) (v := .ref h0) (C := RX4) (T := TX4) (N := 9) hx hb hts hi_4 hown hK hP 3 rfl rfl 3 (by decide) hf_35 (fun _ h9 => h9) rfl dX4_surely_20 ?_
      refine lv_iload_n hx hb dX4_surely_23 rfl (lv_at hl 1 rfl) ?_
      refine lv_iload_n hx hb dX4_surely_24 rfl (lv_at hl 2 rfl) ?_
      have hPc := hP.sub (ws' := [kx_2 q_t q_row q_joined q_from q_to q_size q_lossOf q_lessBy q_value q_number o_5 o_6, kx_a q_from cyI 319 o_7, kx_a q_to cyI 319 o_8, kx_a q_size cyI 319 o_9, kx_a q_lossOf cyI 319 o_10, kx_a q_value cyI 1914 o_12, kx_a q_number cyI 1914 o_13, kx_3 h0 a_v a_n vs lo le, kx_a a_v cyI 12 fv, kx_a a_n cyI 12 fn]) [4, 7, 8, 9, 10, 12, 13, 0, 1, 2] rfl
      have hKc := hK
      have hDc := hD.sub (ws' := [kx_2 q_t q_row q_joined q_from q_to q_size q_lossOf q_lessBy q_value q_number o_5 o_6, kx_a q_from cyI 319 o_7, kx_a q_to cyI 319 o_8, kx_a q_size cyI 319 o_9, kx_a q_lossOf cyI 319 o_10, kx_a q_value cyI 1914 o_12, kx_a q_number cyI 1914 o_13, kx_3 h0 a_v a_n vs lo le, kx_a a_v cyI 12 fv, kx_a a_n cyI 12 fn]) [4, 7, 8, 9, 10, 12, 13, 0, 1, 2] (by decide) rfl
      have hFc := va_free (wc := [kx_2 q_t q_row q_joined q_from q_to q_size q_lossOf q_lessBy q_value q_number o_5 o_6, kx_a q_from cyI 319 o_7, kx_a q_to cyI 319 o_8, kx_a q_size cyI 319 o_9, kx_a q_lossOf cyI 319 o_10, kx_a q_value cyI 1914 o_12, kx_a q_number cyI 1914 o_13, kx_3 h0 a_v a_n vs lo le, kx_a a_v cyI 12 fv, kx_a a_n cyI 12 fn]) hD hS hA [4, 7, 8, 9, 10, 12, 13, 0, 1, 2] rfl
      refine va_callv (va_runV (As := [.ref h0, .int p0, .int p1]) (rest := []) ⟨hx, hb, hml, hown, hts⟩ (c_X2_gather_x l dC dI q_t q_row q_joined q_from q_to q_size q_lossOf q_lessBy q_value q_number o_5 o_6 h0 a_v a_n cyI vs lo le fv fn len f o_7 o_8 o_9 o_10 o_12 o_13 o_11 p0 p1 H.size w_3.2.2.2.2.1 w_3.2.2.2.2.2.1 w_3.2.2.1 a1 (by rw [w_3.2.1]; omega) (by rw [w_3.2.1]; omega) w_3.2.2.2.2.2.2 (by rw [w_3.2.1]; exact w_3.2.2.2.1.2.2.2.2.2.2)) (cwV 3 hts gX4_surely_X2_gather rfl rfl rfl (by decide +kernel) ⟨Nat.le_of_ble_eq_true rfl, Nat.le_of_ble_eq_true rfl⟩) ⟨fun a U g mk q => by obtain ⟨q0, q1, qP, qK, qD⟩ := q; exact ⟨q0, q1, qP, va_K.moved (u := U) (U := U.calling g mk a) (Vm.Alike.refl U.vm) qK, qD⟩, va_recv hKc hPc (ci := 2) (q0 := 0) rfl rfl, fun U hU hW => ⟨rfl, by rw [hU], by rw [hU]; exact hPc, va_K.moved hW.alike hKc, hDc.weaken (fun _ _ _ _ => trivial)⟩⟩ rfl rfl hl.1 rfl (lv_room (Nat.le_of_ble_eq_true rfl)) dX4_surely_25 ⟨Nat.le_of_ble_eq_true rfl, Nat.le_of_ble_eq_true rfl⟩) hS (fun q _ h => hFc q h) hFc (fun u t H1 locs ht hvm w_19 hB hz1 hk1 hS => ?_)
      obtain ⟨o_20, o_21, o_22, o_23, o_24⟩ := u
      dsimp only at w_19 hB
      obtain ⟨hP1, hK1, hD1⟩ := hB
      rw [ht] at hP1
      have hK1 := va_K.moved hvm.symm hK1
      obtain ⟨hP, hD⟩ := va_join (wr := [kx_4 m_ q_row q_t t_ h0 k0 w_ z_ slots o_4, kx_0 q_row q_cell len, kx_a q_cell cyI 160 f, kx_a q_lessBy cyI 319 o_11, kx_3 q_joined j_v j_n o_14 o_15 o_16, kx_a j_v cyI 12 o_17, kx_a j_n cyI 12 o_18]) (w1 := [kx_2 q_t q_row q_joined q_from q_to q_size q_lossOf q_lessBy q_value q_number o_5 o_6, kx_a q_from cyI 319 o_7, kx_a q_to cyI 319 o_8, kx_a q_size cyI 319 o_9, kx_a q_lossOf cyI 319 o_10, kx_a q_value cyI 1914 o_12, kx_a q_number cyI 1914 o_13, kx_3 h0 a_v a_n o_20 o_21 o_22, kx_a a_v cyI 12 o_23, kx_a a_n cyI 12 o_24]) hP hD [4, 7, 8, 9, 10, 12, 13, 0, 1, 2] [3, 5, 6, 11, 14, 15, 16] rfl rfl (by decide) (by decide) hk1 hFc hP1 hD1
      clear hP1 hD1 hK1 hk1 hz1 hFc hDc hPc hKc
      generalize H1 = H at hP hS ⊢
      have hP : va_P (dC, dI) vwCl [kx_4 m_ q_row q_t t_ h0 k0 w_ z_ slots o_4, kx_0 q_row q_cell len, kx_a q_cell cyI 160 f, kx_a q_lessBy cyI 319 o_11, kx_3 q_joined j_v j_n o_14 o_15 o_16, kx_a j_v cyI 12 o_17, kx_a j_n cyI 12 o_18, kx_2 q_t q_row q_joined q_from q_to q_size q_lossOf q_lessBy q_value q_number o_5 o_6, kx_a q_from cyI 319 o_7, kx_a q_to cyI 319 o_8, kx_a q_size cyI 319 o_9, kx_a q_lossOf cyI 319 o_10, kx_a q_value cyI 1914 o_12, kx_a q_number cyI 1914 o_13, kx_3 h0 a_v a_n o_20 o_21 o_22, kx_a a_v cyI 12 o_23, kx_a a_n cyI 12 o_24] H := hP
      have hD : va_D A [kx_4 m_ q_row q_t t_ h0 k0 w_ z_ slots o_4, kx_0 q_row q_cell len, kx_a q_cell cyI 160 f, kx_a q_lessBy cyI 319 o_11, kx_3 q_joined j_v j_n o_14 o_15 o_16, kx_a j_v cyI 12 o_17, kx_a j_n cyI 12 o_18, kx_2 q_t q_row q_joined q_from q_to q_size q_lossOf q_lessBy q_value q_number o_5 o_6, kx_a q_from cyI 319 o_7, kx_a q_to cyI 319 o_8, kx_a q_size cyI 319 o_9, kx_a q_lossOf cyI 319 o_10, kx_a q_value cyI 1914 o_12, kx_a q_number cyI 1914 o_13, kx_3 h0 a_v a_n o_20 o_21 o_22, kx_a a_v cyI 12 o_23, kx_a a_n cyI 12 o_24] := hD
      have w_19 : mj_GA o_6.toNatClampNeg o_7 o_8 o_9 o_10 o_12 o_13 p0.toInt p1.toInt (mj_pq o_7 o_8 p0.toInt p1.toInt o_5.toNatClampNeg) o_20 o_21 o_23 o_24 ∧ 0 ≤ o_20.toInt ∧ o_20.toInt ≤ o_6.toInt := w_19
      refine lv_aload_n hx hb dX4_surely_28 rfl (lv_at hl 0 rfl) ?_
      refine va_get (D := (dC, dI)) (ci := 4) (v := .ref h0) (C := RX4) (T := TX4) (N := 9) hx hb hts hi_4 hown hK hP 0 rfl rfl 3 (by decide) hf_35 (fun _ h9 => h9) rfl dX4_surely_29 ?_
      refine va_get (D := (dC, dI)) (ci := 3) (v := .int o_20) (C := RX3) (T := TX3) (N := 5) hx hb hts hi_3 hown hK hP 14 rfl rfl 2 (by decide) hf_174 (fun _ h9 => h9) rfl dX4_surely_32 ?_
      refine lv_if_ne (tgt := 41) hx hb dX4_surely_35 (by decide) (fun c_25 => ?_) (fun c_25 => ?_)
      · have i_25 : ¬ o_20.toInt = 0 := kc_ne c_25
        refine lv_aload_n hx hb dX4_surely_41 rfl (lv_at hl 0 rfl) ?_
        refine va_get (D := (dC, dI)) (ci := 4) (v := .ref h0) (C := RX4) (T := TX4) (N := 9) hx hb hts hi_4 hown hK hP 0 rfl rfl 3 (by decide) hf_35 (fun _ h9 => h9) rfl dX4_surely_42 ?_
        refine va_get (D := (dC, dI)) (ci := 3) (v := .int o_20) (C := RX3) (T := TX3) (N := 5) hx hb hts hi_3 hown hK hP 14 rfl rfl 2 (by decide) hf_174 (fun _ h9 => h9) rfl dX4_surely_45 ?_
        refine lv_iconst (v := 1) hx hb dX4_surely_48 (by decide) ?_
        refine lv_icmp_le (tgt := 64) hx hb dX4_surely_49 (by decide) (fun c_26 => ?_) (fun c_26 => ?_)
        · have i_26 : o_20.toInt ≤ 1 := kc_le c_26
          refine lv_iconst (v := 0) hx hb dX4_surely_64 (by decide) ?_
          refine lv_istore_n (lv' := [(3, .int 0), (0, .ref m_), (1, .int p0), (2, .int p1)]) hx hb dX4_surely_65 rfl hl (by decide) rfl (fun ls hl => ?_)
          refine lv_aload_n hx hb dX4_surely_66 rfl (lv_at hl 1 rfl) ?_
          refine va_get (D := (dC, dI)) (ci := 4) (v := .ref h0) (C := RX4) (T := TX4) (N := 9) hx hb hts hi_4 hown hK hP 0 rfl rfl 3 (by decide) hf_35 (fun _ h9 => h9) rfl dX4_surely_67 ?_
          refine va_get (D := (dC, dI)) (ci := 3) (v := .ref a_n) (C := RX3) (T := TX3) (N := 5) hx hb hts hi_3 hown hK hP 14 rfl rfl 1 (by decide) hf_136 (fun _ h9 => h9) rfl dX4_surely_70 ?_
          refine lv_iconst (v := 0) hx hb dX4_surely_73 (by decide) ?_
          refine va_iald hx hb hK hP 16 0 rfl rfl (ki_inl (by decide)) dX4_surely_74 ?_
          refine lv_topi (fun y_27 ey_27 => ?_)
          have j_27 : y_27.toInt = (o_24 (0 : Int32).toNatClampNeg).toInt := congrArg Int32.toInt ey_27
          refine lv_iload_n hx hb dX4_surely_75 rfl (lv_at hl 0 rfl) ?_
          refine lv_aload_n hx hb dX4_surely_76 rfl (lv_at hl 1 rfl) ?_
          refine va_get (D := (dC, dI)) (ci := 4) (v := .ref h0) (C := RX4) (T := TX4) (N := 9) hx hb hts hi_4 hown hK hP 0 rfl rfl 3 (by decide) hf_35 (fun _ h9 => h9) rfl dX4_surely_77 ?_
          refine va_get (D := (dC, dI)) (ci := 3) (v := .int o_21) (C := RX3) (T := TX3) (N := 5) hx hb hts hi_3 hown hK hP 14 rfl rfl 3 (by decide) hf_180 (fun _ h9 => h9) rfl dX4_surely_80 ?_
          refine lv_iadd hx hb dX4_surely_83 ?_
          refine lv_topi (fun y_28 ey_28 => ?_)
          refine lv_icmp_le (tgt := 99) hx hb dX4_surely_84 (by decide) (fun c_29 => ?_) (fun c_29 => ?_)
          · have i_29 : y_27.toInt ≤ y_28.toInt := kc_le c_29
            refine lv_ldc (v := (-40000)) hx hb hown hk_102 dX4_surely_99 ?_
            have hP9 := hP.sub (ws' := [kx_4 m_ q_row q_t t_ h0 k0 w_ z_ slots o_4, kx_2 q_t q_row q_joined q_from q_to q_size q_lossOf q_lessBy q_value q_number o_5 o_6, kx_0 q_row q_cell len, kx_a q_cell cyI 160 f, kx_a q_from cyI 319 o_7, kx_a q_to cyI 319 o_8, kx_a q_size cyI 319 o_9, kx_a q_lossOf cyI 319 o_10, kx_a q_lessBy cyI 319 o_11, kx_a q_value cyI 1914 o_12, kx_a q_number cyI 1914 o_13, kx_3 q_joined j_v j_n o_14 o_15 o_16, kx_a j_v cyI 12 o_17, kx_a j_n cyI 12 o_18, kx_3 h0 a_v a_n o_20 o_21 o_22, kx_a a_v cyI 12 o_23, kx_a a_n cyI 12 o_24]) [0, 7, 1, 2, 8, 9, 10, 11, 3, 12, 13, 4, 5, 6, 14, 15, 16] rfl
            have hD9 := hD.sub (ws' := [kx_4 m_ q_row q_t t_ h0 k0 w_ z_ slots o_4, kx_2 q_t q_row q_joined q_from q_to q_size q_lossOf q_lessBy q_value q_number o_5 o_6, kx_0 q_row q_cell len, kx_a q_cell cyI 160 f, kx_a q_from cyI 319 o_7, kx_a q_to cyI 319 o_8, kx_a q_size cyI 319 o_9, kx_a q_lossOf cyI 319 o_10, kx_a q_lessBy cyI 319 o_11, kx_a q_value cyI 1914 o_12, kx_a q_number cyI 1914 o_13, kx_3 q_joined j_v j_n o_14 o_15 o_16, kx_a j_v cyI 12 o_17, kx_a j_n cyI 12 o_18, kx_3 h0 a_v a_n o_20 o_21 o_22, kx_a a_v cyI 12 o_23, kx_a a_n cyI 12 o_24]) [0, 7, 1, 2, 8, 9, 10, 11, 3, 12, 13, 4, 5, 6, 14, 15, 16] (by decide) rfl
            have hK9 := hK
            have h_ga := w_19.1
            rw [w_3.2.1] at h_ga
            have q_s : y_28 = (if 1 < o_20.toInt then o_24 1 else 0) + o_21 := by
              rw [if_neg (show ¬ 1 < o_20.toInt by omega)]
              rw [ey_28]
            have q_n : y_27.toInt = (o_24 0).toInt := congrArg Int32.toInt ey_27
            have q_z : ¬ o_20.toInt = 0 := by omega
            exact W.iret (v := (-40000)) hx hb hr (fun t ht hW => ⟨⟨(-40000), (o_4, o_5, o_6, o_7, o_8, o_9, o_10, o_11, o_12, o_13, o_14, o_15, o_16, o_17, o_18, o_20, o_21, o_22, o_23, o_24), rfl, ⟨Or.inl ⟨(by (try dsimp only); omega), w_3.1, h_ga, (by (try dsimp only); unfold mj_sr; rw [if_neg q_z, ← q_s, if_neg (by omega)])⟩, (fun _ => ⟨w_3.2.1, w_3.2.2.2.1⟩), w_3.2.2.1⟩, by rw [ht]; exact hP9, va_K.moved hW.alike hK9, hD9⟩, hS.F ht⟩) hS.2.2 dX4_surely_101
          · have i_29 : y_28.toInt < y_27.toInt := kc_nle c_29
            refine lv_aload_n hx hb dX4_surely_87 rfl (lv_at hl 1 rfl) ?_
            refine va_get (D := (dC, dI)) (ci := 4) (v := .ref h0) (C := RX4) (T := TX4) (N := 9) hx hb hts hi_4 hown hK hP 0 rfl rfl 3 (by decide) hf_35 (fun _ h9 => h9) rfl dX4_surely_88 ?_
            refine va_get (D := (dC, dI)) (ci := 3) (v := .ref a_v) (C := RX3) (T := TX3) (N := 5) hx hb hts hi_3 hown hK hP 14 rfl rfl 0 (by decide) hf_133 (fun _ h9 => h9) rfl dX4_surely_91 ?_
            refine lv_iconst (v := 0) hx hb dX4_surely_94 (by decide) ?_
            refine va_iald hx hb hK hP 15 0 rfl rfl (ki_inl (by decide)) dX4_surely_95 ?_
            refine lv_topi (fun y_30 ey_30 => ?_)
            have j_30 : y_30.toInt = (o_23 (0 : Int32).toNatClampNeg).toInt := congrArg Int32.toInt ey_30
            refine lv_goto (tgt := 101) hx hb dX4_surely_96 (by decide) ?_
            have hP9 := hP.sub (ws' := [kx_4 m_ q_row q_t t_ h0 k0 w_ z_ slots o_4, kx_2 q_t q_row q_joined q_from q_to q_size q_lossOf q_lessBy q_value q_number o_5 o_6, kx_0 q_row q_cell len, kx_a q_cell cyI 160 f, kx_a q_from cyI 319 o_7, kx_a q_to cyI 319 o_8, kx_a q_size cyI 319 o_9, kx_a q_lossOf cyI 319 o_10, kx_a q_lessBy cyI 319 o_11, kx_a q_value cyI 1914 o_12, kx_a q_number cyI 1914 o_13, kx_3 q_joined j_v j_n o_14 o_15 o_16, kx_a j_v cyI 12 o_17, kx_a j_n cyI 12 o_18, kx_3 h0 a_v a_n o_20 o_21 o_22, kx_a a_v cyI 12 o_23, kx_a a_n cyI 12 o_24]) [0, 7, 1, 2, 8, 9, 10, 11, 3, 12, 13, 4, 5, 6, 14, 15, 16] rfl
            have hD9 := hD.sub (ws' := [kx_4 m_ q_row q_t t_ h0 k0 w_ z_ slots o_4, kx_2 q_t q_row q_joined q_from q_to q_size q_lossOf q_lessBy q_value q_number o_5 o_6, kx_0 q_row q_cell len, kx_a q_cell cyI 160 f, kx_a q_from cyI 319 o_7, kx_a q_to cyI 319 o_8, kx_a q_size cyI 319 o_9, kx_a q_lossOf cyI 319 o_10, kx_a q_lessBy cyI 319 o_11, kx_a q_value cyI 1914 o_12, kx_a q_number cyI 1914 o_13, kx_3 q_joined j_v j_n o_14 o_15 o_16, kx_a j_v cyI 12 o_17, kx_a j_n cyI 12 o_18, kx_3 h0 a_v a_n o_20 o_21 o_22, kx_a a_v cyI 12 o_23, kx_a a_n cyI 12 o_24]) [0, 7, 1, 2, 8, 9, 10, 11, 3, 12, 13, 4, 5, 6, 14, 15, 16] (by decide) rfl
            have hK9 := hK
            have h_ga := w_19.1
            rw [w_3.2.1] at h_ga
            have q_s : y_28 = (if 1 < o_20.toInt then o_24 1 else 0) + o_21 := by
              rw [if_neg (show ¬ 1 < o_20.toInt by omega)]
              rw [ey_28]
            have q_n : y_27.toInt = (o_24 0).toInt := congrArg Int32.toInt ey_27
            have q_z : ¬ o_20.toInt = 0 := by omega
            exact W.iret (v := y_30) hx hb hr (fun t ht hW => ⟨⟨y_30, (o_4, o_5, o_6, o_7, o_8, o_9, o_10, o_11, o_12, o_13, o_14, o_15, o_16, o_17, o_18, o_20, o_21, o_22, o_23, o_24), rfl, ⟨Or.inl ⟨(by (try dsimp only); omega), w_3.1, h_ga, (by (try dsimp only); unfold mj_sr; rw [if_neg q_z, ← q_s, if_pos (by omega), ey_30]; rfl)⟩, (fun _ => ⟨w_3.2.1, w_3.2.2.2.1⟩), w_3.2.2.1⟩, by rw [ht]; exact hP9, va_K.moved hW.alike hK9, hD9⟩, hS.F ht⟩) hS.2.2 dX4_surely_101
        · have i_26 : 1 < o_20.toInt := kc_nle c_26
          refine lv_aload_n hx hb dX4_surely_52 rfl (lv_at hl 0 rfl) ?_
          refine va_get (D := (dC, dI)) (ci := 4) (v := .ref h0) (C := RX4) (T := TX4) (N := 9) hx hb hts hi_4 hown hK hP 0 rfl rfl 3 (by decide) hf_35 (fun _ h9 => h9) rfl dX4_surely_53 ?_
          refine va_get (D := (dC, dI)) (ci := 3) (v := .ref a_n) (C := RX3) (T := TX3) (N := 5) hx hb hts hi_3 hown hK hP 14 rfl rfl 1 (by decide) hf_136 (fun _ h9 => h9) rfl dX4_surely_56 ?_
          refine lv_iconst (v := 1) hx hb dX4_surely_59 (by decide) ?_
          refine va_iald hx hb hK hP 16 0 rfl rfl (ki_inl (by decide)) dX4_surely_60 ?_
          refine lv_topi (fun y_31 ey_31 => ?_)
          have j_31 : y_31.toInt = (o_24 (1 : Int32).toNatClampNeg).toInt := congrArg Int32.toInt ey_31
          refine lv_goto (tgt := 65) hx hb dX4_surely_61 (by decide) ?_
          refine lv_istore_n (lv' := [(3, .int y_31), (0, .ref m_), (1, .int p0), (2, .int p1)]) hx hb dX4_surely_65 rfl hl (by decide) rfl (fun ls hl => ?_)
          refine lv_aload_n hx hb dX4_surely_66 rfl (lv_at hl 1 rfl) ?_
          refine va_get (D := (dC, dI)) (ci := 4) (v := .ref h0) (C := RX4) (T := TX4) (N := 9) hx hb hts hi_4 hown hK hP 0 rfl rfl 3 (by decide) hf_35 (fun _ h9 => h9) rfl dX4_surely_67 ?_
          refine va_get (D := (dC, dI)) (ci := 3) (v := .ref a_n) (C := RX3) (T := TX3) (N := 5) hx hb hts hi_3 hown hK hP 14 rfl rfl 1 (by decide) hf_136 (fun _ h9 => h9) rfl dX4_surely_70 ?_
          refine lv_iconst (v := 0) hx hb dX4_surely_73 (by decide) ?_
          refine va_iald hx hb hK hP 16 0 rfl rfl (ki_inl (by decide)) dX4_surely_74 ?_
          refine lv_topi (fun y_32 ey_32 => ?_)
          have j_32 : y_32.toInt = (o_24 (0 : Int32).toNatClampNeg).toInt := congrArg Int32.toInt ey_32
          refine lv_iload_n hx hb dX4_surely_75 rfl (lv_at hl 0 rfl) ?_
          refine lv_aload_n hx hb dX4_surely_76 rfl (lv_at hl 1 rfl) ?_
          refine va_get (D := (dC, dI)) (ci := 4) (v := .ref h0) (C := RX4) (T := TX4) (N := 9) hx hb hts hi_4 hown hK hP 0 rfl rfl 3 (by decide) hf_35 (fun _ h9 => h9) rfl dX4_surely_77 ?_
          refine va_get (D := (dC, dI)) (ci := 3) (v := .int o_21) (C := RX3) (T := TX3) (N := 5) hx hb hts hi_3 hown hK hP 14 rfl rfl 3 (by decide) hf_180 (fun _ h9 => h9) rfl dX4_surely_80 ?_
          refine lv_iadd hx hb dX4_surely_83 ?_
          refine lv_topi (fun y_33 ey_33 => ?_)
          refine lv_icmp_le (tgt := 99) hx hb dX4_surely_84 (by decide) (fun c_34 => ?_) (fun c_34 => ?_)
          · have i_34 : y_32.toInt ≤ y_33.toInt := kc_le c_34
            refine lv_ldc (v := (-40000)) hx hb hown hk_102 dX4_surely_99 ?_
            have hP9 := hP.sub (ws' := [kx_4 m_ q_row q_t t_ h0 k0 w_ z_ slots o_4, kx_2 q_t q_row q_joined q_from q_to q_size q_lossOf q_lessBy q_value q_number o_5 o_6, kx_0 q_row q_cell len, kx_a q_cell cyI 160 f, kx_a q_from cyI 319 o_7, kx_a q_to cyI 319 o_8, kx_a q_size cyI 319 o_9, kx_a q_lossOf cyI 319 o_10, kx_a q_lessBy cyI 319 o_11, kx_a q_value cyI 1914 o_12, kx_a q_number cyI 1914 o_13, kx_3 q_joined j_v j_n o_14 o_15 o_16, kx_a j_v cyI 12 o_17, kx_a j_n cyI 12 o_18, kx_3 h0 a_v a_n o_20 o_21 o_22, kx_a a_v cyI 12 o_23, kx_a a_n cyI 12 o_24]) [0, 7, 1, 2, 8, 9, 10, 11, 3, 12, 13, 4, 5, 6, 14, 15, 16] rfl
            have hD9 := hD.sub (ws' := [kx_4 m_ q_row q_t t_ h0 k0 w_ z_ slots o_4, kx_2 q_t q_row q_joined q_from q_to q_size q_lossOf q_lessBy q_value q_number o_5 o_6, kx_0 q_row q_cell len, kx_a q_cell cyI 160 f, kx_a q_from cyI 319 o_7, kx_a q_to cyI 319 o_8, kx_a q_size cyI 319 o_9, kx_a q_lossOf cyI 319 o_10, kx_a q_lessBy cyI 319 o_11, kx_a q_value cyI 1914 o_12, kx_a q_number cyI 1914 o_13, kx_3 q_joined j_v j_n o_14 o_15 o_16, kx_a j_v cyI 12 o_17, kx_a j_n cyI 12 o_18, kx_3 h0 a_v a_n o_20 o_21 o_22, kx_a a_v cyI 12 o_23, kx_a a_n cyI 12 o_24]) [0, 7, 1, 2, 8, 9, 10, 11, 3, 12, 13, 4, 5, 6, 14, 15, 16] (by decide) rfl
            have hK9 := hK
            have h_ga := w_19.1
            rw [w_3.2.1] at h_ga
            have q_s : y_33 = (if 1 < o_20.toInt then o_24 1 else 0) + o_21 := by
              rw [if_pos (show 1 < o_20.toInt by omega)]
              rw [ey_33, ey_31]; rfl
            have q_n : y_32.toInt = (o_24 0).toInt := congrArg Int32.toInt ey_32
            have q_z : ¬ o_20.toInt = 0 := by omega
            exact W.iret (v := (-40000)) hx hb hr (fun t ht hW => ⟨⟨(-40000), (o_4, o_5, o_6, o_7, o_8, o_9, o_10, o_11, o_12, o_13, o_14, o_15, o_16, o_17, o_18, o_20, o_21, o_22, o_23, o_24), rfl, ⟨Or.inl ⟨(by (try dsimp only); omega), w_3.1, h_ga, (by (try dsimp only); unfold mj_sr; rw [if_neg q_z, ← q_s, if_neg (by omega)])⟩, (fun _ => ⟨w_3.2.1, w_3.2.2.2.1⟩), w_3.2.2.1⟩, by rw [ht]; exact hP9, va_K.moved hW.alike hK9, hD9⟩, hS.F ht⟩) hS.2.2 dX4_surely_101
          · have i_34 : y_33.toInt < y_32.toInt := kc_nle c_34
            refine lv_aload_n hx hb dX4_surely_87 rfl (lv_at hl 1 rfl) ?_
            refine va_get (D := (dC, dI)) (ci := 4) (v := .ref h0) (C := RX4) (T := TX4) (N := 9) hx hb hts hi_4 hown hK hP 0 rfl rfl 3 (by decide) hf_35 (fun _ h9 => h9) rfl dX4_surely_88 ?_
            refine va_get (D := (dC, dI)) (ci := 3) (v := .ref a_v) (C := RX3) (T := TX3) (N := 5) hx hb hts hi_3 hown hK hP 14 rfl rfl 0 (by decide) hf_133 (fun _ h9 => h9) rfl dX4_surely_91 ?_
            refine lv_iconst (v := 0) hx hb dX4_surely_94 (by decide) ?_
            refine va_iald hx hb hK hP 15 0 rfl rfl (ki_inl (by decide)) dX4_surely_95 ?_
            refine lv_topi (fun y_35 ey_35 => ?_)
            have j_35 : y_35.toInt = (o_23 (0 : Int32).toNatClampNeg).toInt := congrArg Int32.toInt ey_35
            refine lv_goto (tgt := 101) hx hb dX4_surely_96 (by decide) ?_
            have hP9 := hP.sub (ws' := [kx_4 m_ q_row q_t t_ h0 k0 w_ z_ slots o_4, kx_2 q_t q_row q_joined q_from q_to q_size q_lossOf q_lessBy q_value q_number o_5 o_6, kx_0 q_row q_cell len, kx_a q_cell cyI 160 f, kx_a q_from cyI 319 o_7, kx_a q_to cyI 319 o_8, kx_a q_size cyI 319 o_9, kx_a q_lossOf cyI 319 o_10, kx_a q_lessBy cyI 319 o_11, kx_a q_value cyI 1914 o_12, kx_a q_number cyI 1914 o_13, kx_3 q_joined j_v j_n o_14 o_15 o_16, kx_a j_v cyI 12 o_17, kx_a j_n cyI 12 o_18, kx_3 h0 a_v a_n o_20 o_21 o_22, kx_a a_v cyI 12 o_23, kx_a a_n cyI 12 o_24]) [0, 7, 1, 2, 8, 9, 10, 11, 3, 12, 13, 4, 5, 6, 14, 15, 16] rfl
            have hD9 := hD.sub (ws' := [kx_4 m_ q_row q_t t_ h0 k0 w_ z_ slots o_4, kx_2 q_t q_row q_joined q_from q_to q_size q_lossOf q_lessBy q_value q_number o_5 o_6, kx_0 q_row q_cell len, kx_a q_cell cyI 160 f, kx_a q_from cyI 319 o_7, kx_a q_to cyI 319 o_8, kx_a q_size cyI 319 o_9, kx_a q_lossOf cyI 319 o_10, kx_a q_lessBy cyI 319 o_11, kx_a q_value cyI 1914 o_12, kx_a q_number cyI 1914 o_13, kx_3 q_joined j_v j_n o_14 o_15 o_16, kx_a j_v cyI 12 o_17, kx_a j_n cyI 12 o_18, kx_3 h0 a_v a_n o_20 o_21 o_22, kx_a a_v cyI 12 o_23, kx_a a_n cyI 12 o_24]) [0, 7, 1, 2, 8, 9, 10, 11, 3, 12, 13, 4, 5, 6, 14, 15, 16] (by decide) rfl
            have hK9 := hK
            have h_ga := w_19.1
            rw [w_3.2.1] at h_ga
            have q_s : y_33 = (if 1 < o_20.toInt then o_24 1 else 0) + o_21 := by
              rw [if_pos (show 1 < o_20.toInt by omega)]
              rw [ey_33, ey_31]; rfl
            have q_n : y_32.toInt = (o_24 0).toInt := congrArg Int32.toInt ey_32
            have q_z : ¬ o_20.toInt = 0 := by omega
            exact W.iret (v := y_35) hx hb hr (fun t ht hW => ⟨⟨y_35, (o_4, o_5, o_6, o_7, o_8, o_9, o_10, o_11, o_12, o_13, o_14, o_15, o_16, o_17, o_18, o_20, o_21, o_22, o_23, o_24), rfl, ⟨Or.inl ⟨(by (try dsimp only); omega), w_3.1, h_ga, (by (try dsimp only); unfold mj_sr; rw [if_neg q_z, ← q_s, if_pos (by omega), ey_35]; rfl)⟩, (fun _ => ⟨w_3.2.1, w_3.2.2.2.1⟩), w_3.2.2.1⟩, by rw [ht]; exact hP9, va_K.moved hW.alike hK9, hD9⟩, hS.F ht⟩) hS.2.2 dX4_surely_101
      · have i_25 : o_20.toInt = 0 := kc_eq c_25
        refine lv_ldc (v := (-40000)) hx hb hown hk_102 dX4_surely_38 ?_
        have hP9 := hP.sub (ws' := [kx_4 m_ q_row q_t t_ h0 k0 w_ z_ slots o_4, kx_2 q_t q_row q_joined q_from q_to q_size q_lossOf q_lessBy q_value q_number o_5 o_6, kx_0 q_row q_cell len, kx_a q_cell cyI 160 f, kx_a q_from cyI 319 o_7, kx_a q_to cyI 319 o_8, kx_a q_size cyI 319 o_9, kx_a q_lossOf cyI 319 o_10, kx_a q_lessBy cyI 319 o_11, kx_a q_value cyI 1914 o_12, kx_a q_number cyI 1914 o_13, kx_3 q_joined j_v j_n o_14 o_15 o_16, kx_a j_v cyI 12 o_17, kx_a j_n cyI 12 o_18, kx_3 h0 a_v a_n o_20 o_21 o_22, kx_a a_v cyI 12 o_23, kx_a a_n cyI 12 o_24]) [0, 7, 1, 2, 8, 9, 10, 11, 3, 12, 13, 4, 5, 6, 14, 15, 16] rfl
        have hD9 := hD.sub (ws' := [kx_4 m_ q_row q_t t_ h0 k0 w_ z_ slots o_4, kx_2 q_t q_row q_joined q_from q_to q_size q_lossOf q_lessBy q_value q_number o_5 o_6, kx_0 q_row q_cell len, kx_a q_cell cyI 160 f, kx_a q_from cyI 319 o_7, kx_a q_to cyI 319 o_8, kx_a q_size cyI 319 o_9, kx_a q_lossOf cyI 319 o_10, kx_a q_lessBy cyI 319 o_11, kx_a q_value cyI 1914 o_12, kx_a q_number cyI 1914 o_13, kx_3 q_joined j_v j_n o_14 o_15 o_16, kx_a j_v cyI 12 o_17, kx_a j_n cyI 12 o_18, kx_3 h0 a_v a_n o_20 o_21 o_22, kx_a a_v cyI 12 o_23, kx_a a_n cyI 12 o_24]) [0, 7, 1, 2, 8, 9, 10, 11, 3, 12, 13, 4, 5, 6, 14, 15, 16] (by decide) rfl
        have hK9 := hK
        have h_ga := w_19.1
        rw [w_3.2.1] at h_ga
        exact W.iret (v := (-40000)) hx hb hr (fun t ht hW => ⟨⟨(-40000), (o_4, o_5, o_6, o_7, o_8, o_9, o_10, o_11, o_12, o_13, o_14, o_15, o_16, o_17, o_18, o_20, o_21, o_22, o_23, o_24), rfl, ⟨Or.inl ⟨(by (try dsimp only); omega), w_3.1, h_ga, (by (try dsimp only); unfold mj_sr; rw [if_pos (by omega)])⟩, (fun _ => ⟨w_3.2.1, w_3.2.2.2.1⟩), w_3.2.2.1⟩, by rw [ht]; exact hP9, va_K.moved hW.alike hK9, hD9⟩, hS.F ht⟩) hS.2.2 dX4_surely_40
    · exact absurd c_2 (by decide)
  · have w_1 : (p0.toInt < 0 ∨ p1.toInt ≤ p0.toInt ∨ len.toInt < p1.toInt) := w_1
    refine lv_if_ne (tgt := 15) hx hb dX4_surely_9 (by decide) (fun c_36 => ?_) (fun c_36 => ?_)
    · exact absurd c_36 (by decide)
    · refine lv_ldc (v := (-40000)) hx hb hown hk_102 dX4_surely_12 ?_
      have hP9 := hP
      have hD9 := hD
      have hK9 := hK
      exact W.iret (v := (-40000)) hx hb hr (fun t ht hW => ⟨⟨(-40000), (old, nodes, here, ff, ft, fs, fo, fe, uv, un, js, jl, je, jv, jn, vs, lo, le, fv, fn), rfl, ⟨Or.inr ⟨(by (try dsimp only); omega), rfl⟩, l0, s0⟩, by rw [ht]; exact hP9, va_K.moved hW.alike hK9, hD9⟩, hS.F ht⟩) hS.2.2 dX4_surely_14


