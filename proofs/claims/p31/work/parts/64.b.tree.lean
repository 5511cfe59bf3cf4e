def sixes (f : Nat → Int32) : Prop := ∀ k : Nat, k < 319 → 0 ≤ (f k).toInt ∧ (f k).toInt ≤ 6
theorem sixes_upd {f : Nat → Int32} {k : Nat} {x : Int32} (h : sixes f) (h1 : 0 ≤ x.toInt) (h2 : x.toInt ≤ 6) : sixes (upd f k x) := by
  intro j hj
  unfold upd
  split
  · exact ⟨h1, h2⟩
  · exact h j hj
def okAt (ff ft : Nat → Int32) (nd n : Int) (k : Nat) : Prop := 0 ≤ (ff k).toInt ∧ (ff k).toInt < (ft k).toInt ∧ (ft k).toInt ≤ n ∧ (k : Int) + 2 * ((ft k).toInt - (ff k).toInt) - 1 ≤ nd
def treeOk (ff ft : Nat → Int32) (nd n : Int) : Prop := ∀ k : Nat, (k : Int) < nd → okAt ff ft nd n k
def pend (ff ft : Nat → Int32) (nd n : Int) : Nat → Nat → Prop
  | 0, k => (k : Int) = nd
  | c + 1, k => okAt ff ft nd n k ∧ pend ff ft nd n c (k + (2 * ((ft k).toInt - (ff k).toInt) - 1).toNat)
theorem pend_congr {ff ft ff2 ft2 : Nat → Int32} {nd n : Int} : ∀ (c k : Nat), (∀ j : Nat, k ≤ j → ff2 j = ff j ∧ ft2 j = ft j) → pend ff ft nd n c k → pend ff2 ft2 nd n c k
  | 0, _, _, h => h
  | c + 1, k, hj, h => by
    obtain ⟨h1, h2⟩ := h
    have e := hj k (Nat.le_refl k)
    refine ⟨?_, ?_⟩
    · unfold okAt at h1 ⊢
      rw [e.1, e.2]
      exact h1
    · rw [e.1, e.2]
      exact pend_congr c _ (fun j h => hj j (by omega)) h2
theorem pend_split {ff ft ff2 ft2 : Nat → Int32} {nd n : Int} {c k r : Nat} {md fk tk : Int32} (h : pend ff ft nd n (c + 1) k) (hf : fk = ff k) (ht : tk = ft k) (hw : 2 ≤ tk.toInt - fk.toInt) (hm : md.toInt = (fk.toInt + tk.toInt) / 2) (hr : (r : Int) = (k : Int) + 2 * (md.toInt - fk.toInt))
    (e1 : ff2 = upd (upd ff (k + 1) fk) r md) (e2 : ft2 = upd (upd ft (k + 1) md) r tk) : pend ff2 ft2 nd n (c + 2) (k + 1) ∧ ∀ j : Nat, j ≤ k → okAt ff ft nd n j → okAt ff2 ft2 nd n j := by
  subst hf; subst ht; subst e1; subst e2
  obtain ⟨h1, h2⟩ := h
  unfold okAt at h1
  have ne : r ≠ k + 1 := by omega
  have a1 : upd (upd ff (k + 1) (ff k)) r md (k + 1) = ff k := by unfold upd; rw [if_neg (Ne.symm ne), if_pos rfl]
  have a2 : upd (upd ft (k + 1) md) r (ft k) (k + 1) = md := by unfold upd; rw [if_neg (Ne.symm ne), if_pos rfl]
  have b1 : upd (upd ff (k + 1) (ff k)) r md r = md := by unfold upd; rw [if_pos rfl]
  have b2 : upd (upd ft (k + 1) md) r (ft k) r = ft k := by unfold upd; rw [if_pos rfl]
  have oth1 : ∀ j : Nat, j ≠ r → j ≠ k + 1 → upd (upd ff (k + 1) (ff k)) r md j = ff j := fun j x y => by unfold upd; rw [if_neg x, if_neg y]
  have oth2 : ∀ j : Nat, j ≠ r → j ≠ k + 1 → upd (upd ft (k + 1) md) r (ft k) j = ft j := fun j x y => by unfold upd; rw [if_neg x, if_neg y]
  refine ⟨⟨?_, ?_⟩, ?_⟩
  · unfold okAt
    rw [a1, a2]
    omega
  · rw [a1, a2, show k + 1 + (2 * (md.toInt - (ff k).toInt) - 1).toNat = r by omega]
    refine ⟨?_, ?_⟩
    · unfold okAt
      rw [b1, b2]
      omega
    · rw [b1, b2, show r + (2 * ((ft k).toInt - md.toInt) - 1).toNat = k + (2 * ((ft k).toInt - (ff k).toInt) - 1).toNat by omega]
      exact pend_congr c _ (fun j hj => ⟨oth1 j (by omega) (by omega), oth2 j (by omega) (by omega)⟩) h2
  · intro j hj h
    unfold okAt at h ⊢
    rw [oth1 j (by omega) (by omega), oth2 j (by omega) (by omega)]
    exact h
theorem pend_leaf {ff ft : Nat → Int32} {nd n : Int} {c k : Nat} (h : pend ff ft nd n (c + 1) k) (hw : (ft k).toInt - (ff k).toInt ≤ 1) : pend ff ft nd n c (k + 1) := by
  obtain ⟨h1, h2⟩ := h
  unfold okAt at h1
  rw [show k + (2 * ((ft k).toInt - (ff k).toInt) - 1).toNat = k + 1 by omega] at h2
  exact h2

set_option maxHeartbeats 4000000 in
set_option maxRecDepth 100000 in
theorem c_X2_rightBelow (l : Launch) (dC : Nat → ClassId) (dI : Nat → Nat → Nat) (q_t : Nat) (q_row : Nat) (q_joined : Nat) (q_from : Nat) (q_to : Nat) (q_size : Nat) (q_lossOf : Nat) (q_lessBy : Nat) (q_value : Nat) (q_number : Nat) (nodes : Int32) (here : Int32) (cyI : ClassId) (ff : Nat → Int32) (ft : Nat → Int32) (p0 : Int32) (b0 : 0 ≤ p0.toInt) (b1 : p0.toInt < 319) (b2 : 0 ≤ (ff p0.toNatClampNeg).toInt) (b3 : (ff p0.toNatClampNeg).toInt < (ft p0.toNatClampNeg).toInt) (b4 : (ft p0.toNatClampNeg).toInt ≤ 160) : Met l yX2_rightBelow wsX2_rightBelow ({ frames := 0, cells := 0, slots := 0, locals := 0 }) (va_Pc [.ref q_t, .int p0] (fun U => va_P (dC, dI) vwCl [kx_2 q_t q_row q_joined q_from q_to q_size q_lossOf q_lessBy q_value q_number nodes here, kx_a q_from cyI 319 ff, kx_a q_to cyI 319 ft] U.heap ∧ va_K (dC, dI) vwCl [(cyI, .int)] U)) (vp_Si (fun r : Int32 => r.toInt = p0.toInt + 2 * (((ff p0.toNatClampNeg).toInt + (ft p0.toNatClampNeg).toInt) / 2 - (ff p0.toNatClampNeg).toInt))) 0 0 (fun _ => False) := by
  refine Met.ofW (cc := cX2_rightBelow) (maxL := 3) (ret := (some .int)) (by decide) rfl ?_
  intro p e s m args below meth c s₁ B hml hv
  obtain ⟨rfl, hP, hK⟩ := hv
  have hx := B.exec
  have hb := B.bytes
  have hr := B.returns
  have hts := atoms_spec (ws := wsX2_rightBelow) B.pre
  have hown : s.vm.findClass RX2 = some m.cls := findClass_of_methodNamed B.named
  have hlocks := B.notSynchronized
  have hP : va_P (dC, dI) vwCl [kx_2 q_t q_row q_joined q_from q_to q_size q_lossOf q_lessBy q_value q_number nodes here, kx_a q_from cyI 319 ff, kx_a q_to cyI 319 ft] s.heap := hP
  have hl := lv_entry ([.ref q_t, .int p0]) (n := 3) (Nat.le_of_ble_eq_true rfl)
  rw [lg_entry_eq]
  generalize (lg_sl ([.ref q_t, .int p0]) ++ List.replicate (3 - (lg_sl ([.ref q_t, .int p0])).length) Slot.unset).toArray = ls at hl ⊢
  have hl : lv_has ls 3 [(0, .ref q_t), (1, .int p0)] := hl
  have hf_18 := hts (.fieldLink RX2 18 "MajorityIndex$Tree" "from" "[I") (List.mem_of_getElem? (i := 1) rfl)
  have hi_2 : ∀ w ∈ u_ws RX2 TX2 11, w ∈ wsX2_rightBelow := fun w h => List.mem_cons_of_mem _ (List.mem_append_right _ h)
  have hf_22 := hts (.fieldLink RX2 22 "MajorityIndex$Tree" "to" "[I") (List.mem_of_getElem? (i := 2) rfl)
  refine lv_aload_n hx hb dX2_rightBelow_0 rfl (lv_at hl 0 rfl) ?_
  refine va_get (D := (dC, dI)) (ci := 2) (v := .ref q_from) (C := RX2) (T := TX2) (N := 11) hx hb hts hi_2 hown hK hP 0 rfl rfl 2 (by decide) hf_18 (fun _ h9 => h9) rfl dX2_rightBelow_1 ?_
  refine lv_iload_n hx hb dX2_rightBelow_4 rfl (lv_at hl 1 rfl) ?_
  refine va_iald hx hb hK hP 1 0 rfl rfl (ki_in (om_8 b0) (om_54 b1)) dX2_rightBelow_5 ?_
  refine lv_topi (fun y_1 ey_1 => ?_)
  have j_1 : y_1.toInt = (ff p0.toNatClampNeg).toInt := congrArg Int32.toInt ey_1
  refine lv_aload_n hx hb dX2_rightBelow_6 rfl (lv_at hl 0 rfl) ?_
  refine va_get (D := (dC, dI)) (ci := 2) (v := .ref q_to) (C := RX2) (T := TX2) (N := 11) hx hb hts hi_2 hown hK hP 0 rfl rfl 3 (by decide) hf_22 (fun _ h9 => h9) rfl dX2_rightBelow_7 ?_
  refine lv_iload_n hx hb dX2_rightBelow_10 rfl (lv_at hl 1 rfl) ?_
  refine va_iald hx hb hK hP 2 0 rfl rfl (ki_in (om_8 b0) (om_54 b1)) dX2_rightBelow_11 ?_
  refine lv_topi (fun y_2 ey_2 => ?_)
  have j_2 : y_2.toInt = (ft p0.toNatClampNeg).toInt := congrArg Int32.toInt ey_2
  refine lv_iadd hx hb dX2_rightBelow_12 ?_
  refine lv_topi (fun y_3 ey_3 => ?_)
  have i_3 : y_3.toInt = y_1.toInt + y_2.toInt := ki_add ey_3 rfl rfl (by omega) (by omega)
  refine lv_iconst (v := 2) hx hb dX2_rightBelow_13 (by decide) ?_
  refine lv_idiv hx hb dX2_rightBelow_14 (by decide) ?_
  refine lv_topi (fun y_4 ey_4 => ?_)
  have i_4 : y_4.toInt = y_3.toInt / 2 := ki_div2 ey_4 rfl (by omega)
  refine lv_istore_n (lv' := [(2, .int y_4), (0, .ref q_t), (1, .int p0)]) hx hb dX2_rightBelow_15 rfl hl (by decide) rfl (fun ls hl => ?_)
  refine lv_iload_n hx hb dX2_rightBelow_16 rfl (lv_at hl 2 rfl) ?_
  refine lv_iconst (v := 2) hx hb dX2_rightBelow_17 (by decide) ?_
  refine lv_iload_n hx hb dX2_rightBelow_18 rfl (lv_at hl 0 rfl) ?_
  refine lv_aload_n hx hb dX2_rightBelow_19 rfl (lv_at hl 1 rfl) ?_
  refine va_get (D := (dC, dI)) (ci := 2) (v := .ref q_from) (C := RX2) (T := TX2) (N := 11) hx hb hts hi_2 hown hK hP 0 rfl rfl 2 (by decide) hf_18 (fun _ h9 => h9) rfl dX2_rightBelow_20 ?_
  refine lv_iload_n hx hb dX2_rightBelow_23 rfl (lv_at hl 2 rfl) ?_
  refine va_iald hx hb hK hP 1 0 rfl rfl (ki_in (om_8 b0) (om_54 b1)) dX2_rightBelow_24 ?_
  refine lv_topi (fun y_5 ey_5 => ?_)
  have j_5 : y_5.toInt = (ff p0.toNatClampNeg).toInt := congrArg Int32.toInt ey_5
  refine lv_isub hx hb dX2_rightBelow_25 ?_
  refine lv_topi (fun y_6 ey_6 => ?_)
  have i_6 : y_6.toInt = y_4.toInt - y_5.toInt := ki_sub ey_6 rfl rfl (by omega) (by omega)
  refine lv_imul hx hb dX2_rightBelow_26 ?_
  refine lv_topi (fun y_7 ey_7 => ?_)
  have i_7 : y_7.toInt = 2 * y_6.toInt := ki_mul ey_7 rfl rfl (by omega) (by omega)
  refine lv_iadd hx hb dX2_rightBelow_27 ?_
  refine lv_topi (fun y_8 ey_8 => ?_)
  have i_8 : y_8.toInt = p0.toInt + y_7.toInt := ki_add ey_8 rfl rfl (by omega) (by omega)
  exact W.iret (v := y_8) hx hb hr (fun t ht hW => ⟨y_8, rfl, (by (try dsimp only); omega), ht⟩) (fun q hq => by cases hq) dX2_rightBelow_28

set_option maxHeartbeats 4000000 in
set_option maxRecDepth 100000 in
theorem c_X2_layBelow (l : Launch) (dC : Nat → ClassId) (dI : Nat → Nat → Nat) (q_t : Nat) (q_row : Nat) (q_joined : Nat) (q_from : Nat) (q_to : Nat) (q_size : Nat) (q_lossOf : Nat) (q_lessBy : Nat) (q_value : Nat) (q_number : Nat) (nodes : Int32) (here : Int32) (cyI : ClassId) (ff : Nat → Int32) (ft : Nat → Int32) (p0 : Int32) (sz : Nat) (b0 : 0 ≤ p0.toInt) (b1 : p0.toInt < 319) (b2 : 0 ≤ (ff p0.toNatClampNeg).toInt) (b3 : (ff p0.toNatClampNeg).toInt + 2 ≤ (ft p0.toNatClampNeg).toInt) (b4 : (ft p0.toNatClampNeg).toInt ≤ 160) (b5 : p0.toInt + 2 * ((ft p0.toNatClampNeg).toInt - (ff p0.toNatClampNeg).toInt) - 1 ≤ 319) : Met l yX2_layBelow wsX2_layBelow ({ frames := 1, cells := 0, slots := 0, locals := 45 }) (va_Pc [.ref q_t, .int p0] (fun U => U.heap.size = sz ∧ va_P (dC, dI) vwCl [kx_2 q_t q_row q_joined q_from q_to q_size q_lossOf q_lessBy q_value q_number nodes here, kx_a q_from cyI 319 ff, kx_a q_to cyI 319 ft] U.heap ∧ va_K (dC, dI) vwCl [(cyI, .int)] U ∧ va_D (fun _ => True) [kx_2 q_t q_row q_joined q_from q_to q_size q_lossOf q_lessBy q_value q_number nodes here, kx_a q_from cyI 319 ff, kx_a q_to cyI 319 ft])) (va_Qv (fun u : Int32 × Int32 × (Nat → Int32) × (Nat → Int32) => u.1.toInt = ((ff p0.toNatClampNeg).toInt + (ft p0.toNatClampNeg).toInt) / 2 ∧ u.2.1.toInt = p0.toInt + 2 * (((ff p0.toNatClampNeg).toInt + (ft p0.toNatClampNeg).toInt) / 2 - (ff p0.toNatClampNeg).toInt) ∧ u.2.2.1 = upd (upd ff (p0.toNatClampNeg + 1) (ff p0.toNatClampNeg)) u.2.1.toNatClampNeg u.1 ∧ u.2.2.2 = upd (upd ft (p0.toNatClampNeg + 1) u.1) u.2.1.toNatClampNeg (ft p0.toNatClampNeg)) (fun (u : Int32 × Int32 × (Nat → Int32) × (Nat → Int32)) (t : State) => va_P (dC, dI) vwCl [kx_2 q_t q_row q_joined q_from q_to q_size q_lossOf q_lessBy q_value q_number nodes here, kx_a q_from cyI 319 u.2.2.1, kx_a q_to cyI 319 u.2.2.2] t.heap ∧ va_K (dC, dI) vwCl [(cyI, .int)] t ∧ va_D (va_A [kx_2 q_t q_row q_joined q_from q_to q_size q_lossOf q_lessBy q_value q_number nodes here, kx_a q_from cyI 319 ff, kx_a q_to cyI 319 ft] sz) [kx_2 q_t q_row q_joined q_from q_to q_size q_lossOf q_lessBy q_value q_number nodes here, kx_a q_from cyI 319 u.2.2.1, kx_a q_to cyI 319 u.2.2.2]) (va_A [kx_2 q_t q_row q_joined q_from q_to q_size q_lossOf q_lessBy q_value q_number nodes here, kx_a q_from cyI 319 ff, kx_a q_to cyI 319 ft] sz)) 0 0 (va_A [kx_2 q_t q_row q_joined q_from q_to q_size q_lossOf q_lessBy q_value q_number nodes here, kx_a q_from cyI 319 ff, kx_a q_to cyI 319 ft] sz) := by
  refine Met.ofW (cc := cX2_layBelow) (maxL := 4) (ret := none) (by decide) rfl ?_
  intro p e s m args below meth c s₁ B hml hv
  obtain ⟨rfl, hsz, hP, hK, hD0⟩ := hv
  have hx := B.exec
  have hb := B.bytes
  have hr := B.returns
  have hts := atoms_spec (ws := wsX2_layBelow) B.pre
  have hown : s.vm.findClass RX2 = some m.cls := findClass_of_methodNamed B.named
  have hlocks := B.notSynchronized
  subst hsz
  have hD := hD0.self (sz := s.heap.size)
  generalize hAe : va_A [kx_2 q_t q_row q_joined q_from q_to q_size q_lossOf q_lessBy q_value q_number nodes here, kx_a q_from cyI 319 ff, kx_a q_to cyI 319 ft] s.heap.size = A at hD ⊢
  have hA : ∀ q : Nat, s.heap.size ≤ q → A q := fun q h => by rw [← hAe]; exact Or.inr h
  have hS : va_S A s.heap s.heap [] := va_S.rf
  have hP : va_P (dC, dI) vwCl [kx_2 q_t q_row q_joined q_from q_to q_size q_lossOf q_lessBy q_value q_number nodes here, kx_a q_from cyI 319 ff, kx_a q_to cyI 319 ft] s.heap := hP
  have hl := lv_entry ([.ref q_t, .int p0]) (n := 4) (Nat.le_of_ble_eq_true rfl)
  rw [lg_entry_eq]
  generalize (lg_sl ([.ref q_t, .int p0]) ++ List.replicate (4 - (lg_sl ([.ref q_t, .int p0])).length) Slot.unset).toArray = ls at hl ⊢
  have hl : lv_has ls 4 [(0, .ref q_t), (1, .int p0)] := hl
  have hf_18 := hts (.fieldLink RX2 18 "MajorityIndex$Tree" "from" "[I") (List.mem_of_getElem? (i := 1) rfl)
  have hi_2 : ∀ w ∈ u_ws RX2 TX2 11, w ∈ wsX2_layBelow := fun w h => List.mem_cons_of_mem _ (List.mem_append_right _ h)
  have hf_22 := hts (.fieldLink RX2 22 "MajorityIndex$Tree" "to" "[I") (List.mem_of_getElem? (i := 2) rfl)
  refine lv_aload_n hx hb dX2_layBelow_0 rfl (lv_at hl 0 rfl) ?_
  refine va_get (D := (dC, dI)) (ci := 2) (v := .ref q_from) (C := RX2) (T := TX2) (N := 11) hx hb hts hi_2 hown hK hP 0 rfl rfl 2 (by decide) hf_18 (fun _ h9 => h9) rfl dX2_layBelow_1 ?_
  refine lv_iload_n hx hb dX2_layBelow_4 rfl (lv_at hl 1 rfl) ?_
  refine va_iald hx hb hK hP 1 0 rfl rfl (ki_in (om_8 b0) (om_54 b1)) dX2_layBelow_5 ?_
  refine lv_topi (fun y_1 ey_1 => ?_)
  have j_1 : y_1.toInt = (ff p0.toNatClampNeg).toInt := congrArg Int32.toInt ey_1
  refine lv_aload_n hx hb dX2_layBelow_6 rfl (lv_at hl 0 rfl) ?_
  refine va_get (D := (dC, dI)) (ci := 2) (v := .ref q_to) (C := RX2) (T := TX2) (N := 11) hx hb hts hi_2 hown hK hP 0 rfl rfl 3 (by decide) hf_22 (fun _ h9 => h9) rfl dX2_layBelow_7 ?_
  refine lv_iload_n hx hb dX2_layBelow_10 rfl (lv_at hl 1 rfl) ?_
  refine va_iald hx hb hK hP 2 0 rfl rfl (ki_in (om_8 b0) (om_54 b1)) dX2_layBelow_11 ?_
  refine lv_topi (fun y_2 ey_2 => ?_)
  have j_2 : y_2.toInt = (ft p0.toNatClampNeg).toInt := congrArg Int32.toInt ey_2
  refine lv_iadd hx hb dX2_layBelow_12 ?_
  refine lv_topi (fun y_3 ey_3 => ?_)
  have i_3 : y_3.toInt = y_1.toInt + y_2.toInt := ki_add ey_3 rfl rfl (by omega) (by omega)
  refine lv_iconst (v := 2) hx hb dX2_layBelow_13 (by decide) ?_
  refine lv_idiv hx hb dX2_layBelow_14 (by decide) ?_
  refine lv_topi (fun y_4 ey_4 => ?_)
  have i_4 : y_4.toInt = y_3.toInt / 2 := ki_div2 ey_4 rfl (by omega)
  refine lv_istore_n (lv' := [(2, .int y_4), (0, .ref q_t), (1, .int p0)]) hx hb dX2_layBelow_15 rfl hl (by decide) rfl (fun ls hl => ?_)
  refine lv_aload_n hx hb dX2_layBelow_16 rfl (lv_at hl 1 rfl) ?_
  refine lv_iload_n hx hb dX2_layBelow_17 rfl (lv_at hl 2 rfl) ?_
  have hPc := hP
  have hKc := hK
  refine vp_callSi (W.runV (As := [.int p0]) (rest := []) ⟨hx, hb, hml, hown, hts⟩ (c_X2_rightBelow l dC dI q_t q_row q_joined q_from q_to q_size q_lossOf q_lessBy q_value q_number nodes here cyI ff ft p0 b0 b1 b2 (om_55 b3) b4) (cwV 1 hts gX2_layBelow_X2_rightBelow rfl rfl rfl (by decide +kernel) ⟨Nat.le_of_ble_eq_true rfl, Nat.le_of_ble_eq_true rfl⟩) ⟨fun a U g mk q => by obtain ⟨q0, qP, qK⟩ := q; exact ⟨q0, qP, va_K.moved (u := U) (U := U.calling g mk a) (Vm.Alike.refl U.vm) qK⟩, va_recv hKc hPc (ci := 2) (q0 := 0) rfl rfl, fun U hU hW => ⟨rfl, by rw [hU]; exact hPc, va_K.moved hW.alike hKc⟩⟩ rfl rfl hl.1 rfl (lv_room (Nat.le_of_ble_eq_true rfl)) dX2_layBelow_18 ⟨Nat.le_of_ble_eq_true rfl, Nat.le_of_ble_eq_true rfl⟩) (fun r_5 w_5 => ?_)
  have w_5 : r_5.toInt = p0.toInt + 2 * (((ff p0.toNatClampNeg).toInt + (ft p0.toNatClampNeg).toInt) / 2 - (ff p0.toNatClampNeg).toInt) := w_5
  refine lv_istore_n (lv' := [(3, .int r_5), (2, .int y_4), (0, .ref q_t), (1, .int p0)]) hx hb dX2_layBelow_21 rfl hl (by decide) rfl (fun ls hl => ?_)
  refine lv_aload_n hx hb dX2_layBelow_22 rfl (lv_at hl 2 rfl) ?_
  refine va_get (D := (dC, dI)) (ci := 2) (v := .ref q_from) (C := RX2) (T := TX2) (N := 11) hx hb hts hi_2 hown hK hP 0 rfl rfl 2 (by decide) hf_18 (fun _ h9 => h9) rfl dX2_layBelow_23 ?_
  refine lv_iload_n hx hb dX2_layBelow_26 rfl (lv_at hl 3 rfl) ?_
  refine lv_iconst (v := 1) hx hb dX2_layBelow_27 (by decide) ?_
  refine lv_iadd hx hb dX2_layBelow_28 ?_
  refine lv_topi (fun y_6 ey_6 => ?_)
  have i_6 : y_6.toInt = p0.toInt + 1 := ki_add ey_6 rfl rfl (om_10 b0) (om_56 b1)
  refine lv_aload_n hx hb dX2_layBelow_29 rfl (lv_at hl 2 rfl) ?_
  refine va_get (D := (dC, dI)) (ci := 2) (v := .ref q_from) (C := RX2) (T := TX2) (N := 11) hx hb hts hi_2 hown hK hP 0 rfl rfl 2 (by decide) hf_18 (fun _ h9 => h9) rfl dX2_layBelow_30 ?_
  refine lv_iload_n hx hb dX2_layBelow_33 rfl (lv_at hl 3 rfl) ?_
  refine va_iald hx hb hK hP 1 0 rfl rfl (ki_in (om_8 b0) (om_54 b1)) dX2_layBelow_34 ?_
  refine lv_topi (fun y_7 ey_7 => ?_)
  have j_7 : y_7.toInt = (ff p0.toNatClampNeg).toInt := congrArg Int32.toInt ey_7
  refine va_iast hx hb hK hP hD hS 1 0 rfl rfl (ki_in (om_31 b0 i_6) (om_57 b1 b3 b5 i_6)) dX2_layBelow_35 (fun H locs hP hD hS => ?_)
  have hP : va_P (dC, dI) vwCl [kx_2 q_t q_row q_joined q_from q_to q_size q_lossOf q_lessBy q_value q_number nodes here, kx_a q_from cyI 319 (upd ff y_6.toNatClampNeg y_7), kx_a q_to cyI 319 ft] H := hP
  have hD : va_D A [kx_2 q_t q_row q_joined q_from q_to q_size q_lossOf q_lessBy q_value q_number nodes here, kx_a q_from cyI 319 (upd ff y_6.toNatClampNeg y_7), kx_a q_to cyI 319 ft] := hD
  refine lv_aload_n hx hb dX2_layBelow_36 rfl (lv_at hl 2 rfl) ?_
  refine va_get (D := (dC, dI)) (ci := 2) (v := .ref q_to) (C := RX2) (T := TX2) (N := 11) hx hb hts hi_2 hown hK hP 0 rfl rfl 3 (by decide) hf_22 (fun _ h9 => h9) rfl dX2_layBelow_37 ?_
  refine lv_iload_n hx hb dX2_layBelow_40 rfl (lv_at hl 3 rfl) ?_
  refine lv_iconst (v := 1) hx hb dX2_layBelow_41 (by decide) ?_
  refine lv_iadd hx hb dX2_layBelow_42 ?_
  refine lv_topi (fun y_8 ey_8 => ?_)
  have i_8 : y_8.toInt = p0.toInt + 1 := ki_add ey_8 rfl rfl (om_10 b0) (om_56 b1)
  refine lv_iload_n hx hb dX2_layBelow_43 rfl (lv_at hl 1 rfl) ?_
  refine va_iast hx hb hK hP hD hS 2 0 rfl rfl (ki_in (om_31 b0 i_8) (om_57 b1 b3 b5 i_8)) dX2_layBelow_44 (fun H locs hP hD hS => ?_)
  have hP : va_P (dC, dI) vwCl [kx_2 q_t q_row q_joined q_from q_to q_size q_lossOf q_lessBy q_value q_number nodes here, kx_a q_from cyI 319 (upd ff y_6.toNatClampNeg y_7), kx_a q_to cyI 319 (upd ft y_8.toNatClampNeg y_4)] H := hP
  have hD : va_D A [kx_2 q_t q_row q_joined q_from q_to q_size q_lossOf q_lessBy q_value q_number nodes here, kx_a q_from cyI 319 (upd ff y_6.toNatClampNeg y_7), kx_a q_to cyI 319 (upd ft y_8.toNatClampNeg y_4)] := hD
  refine lv_aload_n hx hb dX2_layBelow_45 rfl (lv_at hl 2 rfl) ?_
  refine va_get (D := (dC, dI)) (ci := 2) (v := .ref q_from) (C := RX2) (T := TX2) (N := 11) hx hb hts hi_2 hown hK hP 0 rfl rfl 2 (by decide) hf_18 (fun _ h9 => h9) rfl dX2_layBelow_46 ?_
  refine lv_iload_n hx hb dX2_layBelow_49 rfl (lv_at hl 0 rfl) ?_
  refine lv_iload_n hx hb dX2_layBelow_50 rfl (lv_at hl 1 rfl) ?_
  refine va_iast hx hb hK hP hD hS 1 0 rfl rfl (ki_in (by omega) (by omega)) dX2_layBelow_51 (fun H locs hP hD hS => ?_)
  have hP : va_P (dC, dI) vwCl [kx_2 q_t q_row q_joined q_from q_to q_size q_lossOf q_lessBy q_value q_number nodes here, kx_a q_from cyI 319 (upd (upd ff y_6.toNatClampNeg y_7) r_5.toNatClampNeg y_4), kx_a q_to cyI 319 (upd ft y_8.toNatClampNeg y_4)] H := hP
  have hD : va_D A [kx_2 q_t q_row q_joined q_from q_to q_size q_lossOf q_lessBy q_value q_number nodes here, kx_a q_from cyI 319 (upd (upd ff y_6.toNatClampNeg y_7) r_5.toNatClampNeg y_4), kx_a q_to cyI 319 (upd ft y_8.toNatClampNeg y_4)] := hD
  refine lv_aload_n hx hb dX2_layBelow_52 rfl (lv_at hl 2 rfl) ?_
  refine va_get (D := (dC, dI)) (ci := 2) (v := .ref q_to) (C := RX2) (T := TX2) (N := 11) hx hb hts hi_2 hown hK hP 0 rfl rfl 3 (by decide) hf_22 (fun _ h9 => h9) rfl dX2_layBelow_53 ?_
  refine lv_iload_n hx hb dX2_layBelow_56 rfl (lv_at hl 0 rfl) ?_
  refine lv_aload_n hx hb dX2_layBelow_57 rfl (lv_at hl 2 rfl) ?_
  refine va_get (D := (dC, dI)) (ci := 2) (v := .ref q_to) (C := RX2) (T := TX2) (N := 11) hx hb hts hi_2 hown hK hP 0 rfl rfl 3 (by decide) hf_22 (fun _ h9 => h9) rfl dX2_layBelow_58 ?_
  refine lv_iload_n hx hb dX2_layBelow_61 rfl (lv_at hl 3 rfl) ?_
  refine va_iald hx hb hK hP 2 0 rfl rfl (ki_in (om_8 b0) (om_54 b1)) dX2_layBelow_62 ?_
  refine lv_topi (fun y_9 ey_9 => ?_)
  have j_9 : y_9.toInt = ((upd ft y_8.toNatClampNeg y_4) p0.toNatClampNeg).toInt := congrArg Int32.toInt ey_9
  refine va_iast hx hb hK hP hD hS 2 0 rfl rfl (ki_in (by omega) (by omega)) dX2_layBelow_63 (fun H locs hP hD hS => ?_)
  have hP : va_P (dC, dI) vwCl [kx_2 q_t q_row q_joined q_from q_to q_size q_lossOf q_lessBy q_value q_number nodes here, kx_a q_from cyI 319 (upd (upd ff y_6.toNatClampNeg y_7) r_5.toNatClampNeg y_4), kx_a q_to cyI 319 (upd (upd ft y_8.toNatClampNeg y_4) r_5.toNatClampNeg y_9)] H := hP
  have hD : va_D A [kx_2 q_t q_row q_joined q_from q_to q_size q_lossOf q_lessBy q_value q_number nodes here, kx_a q_from cyI 319 (upd (upd ff y_6.toNatClampNeg y_7) r_5.toNatClampNeg y_4), kx_a q_to cyI 319 (upd (upd ft y_8.toNatClampNeg y_4) r_5.toNatClampNeg y_9)] := hD
  have hP9 := hP
  have hD9 := hD
  have hK9 := hK
  have n_p := ki_nat p0 rfl (by omega)
  have n_1 := ki_nat y_6 rfl (by omega)
  have n_2 := ki_nat y_8 rfl (by omega)
  have q_1 : y_6.toNatClampNeg = p0.toNatClampNeg + 1 := by omega
  have q_2 : y_8.toNatClampNeg = p0.toNatClampNeg + 1 := by omega
  have q_3 : y_9 = ft p0.toNatClampNeg := by rw [ey_9]; unfold upd; rw [if_neg (by omega)]
  have q_4 : y_7 = ff p0.toNatClampNeg := ey_7
  exact W.vret hx hb hr (fun t ht hW => ⟨⟨(y_4, r_5, (upd (upd ff y_6.toNatClampNeg y_7) r_5.toNatClampNeg y_4), (upd (upd ft y_8.toNatClampNeg y_4) r_5.toNatClampNeg y_9)), rfl, ⟨(by (try dsimp only); omega), (by (try dsimp only); omega), (by (try dsimp only); rw [q_1, q_4]), (by (try dsimp only); rw [q_2, q_3])⟩, by rw [ht]; exact hP9, va_K.moved hW.alike hK9, hD9⟩, hS.F ht⟩) hS.2.2 dX2_layBelow_64

set_option maxHeartbeats 4000000 in
set_option maxRecDepth 100000 in
theorem c_X2_layRanges (l : Launch) (dC : Nat → ClassId) (dI : Nat → Nat → Nat) (q_t : Nat) (q_row : Nat) (q_joined : Nat) (q_from : Nat) (q_to : Nat) (q_size : Nat) (q_lossOf : Nat) (q_lessBy : Nat) (q_value : Nat) (q_number : Nat) (nodes : Int32) (here : Int32) (q_cell : Nat) (cyI : ClassId) (len : Int32) (ff : Nat → Int32) (ft : Nat → Int32) (sz : Nat) (a0 : 0 ≤ len.toInt) (a1 : len.toInt ≤ 160) : Met l yX2_layRanges wsX2_layRanges ({ frames := 2, cells := 0, slots := 0, locals := 90 }) (va_Pc [.ref q_t] (fun U => U.heap.size = sz ∧ va_P (dC, dI) vwCl [kx_2 q_t q_row q_joined q_from q_to q_size q_lossOf q_lessBy q_value q_number nodes here, kx_0 q_row q_cell len, kx_a q_from cyI 319 ff, kx_a q_to cyI 319 ft] U.heap ∧ va_K (dC, dI) vwCl [(cyI, .int)] U ∧ va_D (fun _ => True) [kx_2 q_t q_row q_joined q_from q_to q_size q_lossOf q_lessBy q_value q_number nodes here, kx_0 q_row q_cell len, kx_a q_from cyI 319 ff, kx_a q_to cyI 319 ft])) (va_Qv (fun u : Int32 × (Nat → Int32) × (Nat → Int32) => ((len.toInt = 0 ∧ u.1.toInt = 0) ∨ (0 < len.toInt ∧ u.1.toInt = 2 * len.toInt - 1)) ∧ treeOk u.2.1 u.2.2 u.1.toInt len.toInt) (fun (u : Int32 × (Nat → Int32) × (Nat → Int32)) (t : State) => va_P (dC, dI) vwCl [kx_2 q_t q_row q_joined q_from q_to q_size q_lossOf q_lessBy q_value q_number u.1 here, kx_0 q_row q_cell len, kx_a q_from cyI 319 u.2.1, kx_a q_to cyI 319 u.2.2] t.heap ∧ va_K (dC, dI) vwCl [(cyI, .int)] t ∧ va_D (va_A [kx_2 q_t q_row q_joined q_from q_to q_size q_lossOf q_lessBy q_value q_number nodes here, kx_0 q_row q_cell len, kx_a q_from cyI 319 ff, kx_a q_to cyI 319 ft] sz) [kx_2 q_t q_row q_joined q_from q_to q_size q_lossOf q_lessBy q_value q_number u.1 here, kx_0 q_row q_cell len, kx_a q_from cyI 319 u.2.1, kx_a q_to cyI 319 u.2.2]) (va_A [kx_2 q_t q_row q_joined q_from q_to q_size q_lossOf q_lessBy q_value q_number nodes here, kx_0 q_row q_cell len, kx_a q_from cyI 319 ff, kx_a q_to cyI 319 ft] sz)) 0 0 (va_A [kx_2 q_t q_row q_joined q_from q_to q_size q_lossOf q_lessBy q_value q_number nodes here, kx_0 q_row q_cell len, kx_a q_from cyI 319 ff, kx_a q_to cyI 319 ft] sz) := by
  refine Met.ofW (cc := cX2_layRanges) (maxL := 2) (ret := none) (by decide) rfl ?_
  intro p e s m args below meth c s₁ B hml hv
  obtain ⟨rfl, hsz, hP, hK, hD0⟩ := hv
  have hx := B.exec
  have hb := B.bytes
  have hr := B.returns
  have hts := atoms_spec (ws := wsX2_layRanges) B.pre
  have hown : s.vm.findClass RX2 = some m.cls := findClass_of_methodNamed B.named
  have hlocks := B.notSynchronized
  subst hsz
  have hD := hD0.self (sz := s.heap.size)
  generalize hAe : va_A [kx_2 q_t q_row q_joined q_from q_to q_size q_lossOf q_lessBy q_value q_number nodes here, kx_0 q_row q_cell len, kx_a q_from cyI 319 ff, kx_a q_to cyI 319 ft] s.heap.size = A at hD ⊢
  have hA : ∀ q : Nat, s.heap.size ≤ q → A q := fun q h => by rw [← hAe]; exact Or.inr h
  have hS : va_S A s.heap s.heap [] := va_S.rf
  have hP : va_P (dC, dI) vwCl [kx_2 q_t q_row q_joined q_from q_to q_size q_lossOf q_lessBy q_value q_number nodes here, kx_0 q_row q_cell len, kx_a q_from cyI 319 ff, kx_a q_to cyI 319 ft] s.heap := hP
  have hl := lv_entry ([.ref q_t]) (n := 2) (Nat.le_of_ble_eq_true rfl)
  rw [lg_entry_eq]
  generalize (lg_sl ([.ref q_t]) ++ List.replicate (2 - (lg_sl ([.ref q_t])).length) Slot.unset).toArray = ls at hl ⊢
  have hl : lv_has ls 2 [(0, .ref q_t)] := hl
  have hf_40 := hts (.fieldLink RX2 40 "MajorityIndex$Tree" "row" "LMajorityIndex$Row;") (List.mem_of_getElem? (i := 1) rfl)
  have hi_2 : ∀ w ∈ u_ws RX2 TX2 11, w ∈ wsX2_layRanges := fun w h => List.mem_cons_of_mem _ (List.mem_append_left _ (List.mem_append_right _ h))
  have hf_44 := hts (.fieldLink RX2 44 "MajorityIndex$Row" "length" "I") (List.mem_of_getElem? (i := 2) rfl)
  have hi_0 : ∀ w ∈ u_ws RX0 TX0 2, w ∈ wsX2_layRanges := fun w h => List.mem_cons_of_mem _ (List.mem_append_right _ h)
  have hf_50 := hts (.fieldLink RX2 50 "MajorityIndex$Tree" "nodes" "I") (List.mem_of_getElem? (i := 3) rfl)
  have hf_18 := hts (.fieldLink RX2 18 "MajorityIndex$Tree" "from" "[I") (List.mem_of_getElem? (i := 4) rfl)
  have hf_22 := hts (.fieldLink RX2 22 "MajorityIndex$Tree" "to" "[I") (List.mem_of_getElem? (i := 5) rfl)
  refine lv_aload_n hx hb dX2_layRanges_0 rfl (lv_at hl 0 rfl) ?_
  refine lv_aload_n hx hb dX2_layRanges_1 rfl (lv_at hl 0 rfl) ?_
  refine va_get (D := (dC, dI)) (ci := 2) (v := .ref q_row) (C := RX2) (T := TX2) (N := 11) hx hb hts hi_2 hown hK hP 0 rfl rfl 0 (by decide) hf_40 (fun _ h9 => h9) rfl dX2_layRanges_2 ?_
  refine va_get (D := (dC, dI)) (ci := 0) (v := .int len) (C := RX0) (T := TX0) (N := 2) hx hb hts hi_0 hown hK hP 1 rfl rfl 1 (by decide) hf_44 (fun _ h9 => h9) rfl dX2_layRanges_5 ?_
  refine lv_if_ne (tgt := 15) hx hb dX2_layRanges_8 (by decide) (fun c_1 => ?_) (fun c_1 => ?_)
  · have i_1 : ¬ len.toInt = 0 := kc_ne c_1
    refine lv_iconst (v := 2) hx hb dX2_layRanges_15 (by decide) ?_
    refine lv_aload_n hx hb dX2_layRanges_16 rfl (lv_at hl 0 rfl) ?_
    refine va_get (D := (dC, dI)) (ci := 2) (v := .ref q_row) (C := RX2) (T := TX2) (N := 11) hx hb hts hi_2 hown hK hP 0 rfl rfl 0 (by decide) hf_40 (fun _ h9 => h9) rfl dX2_layRanges_17 ?_
    refine va_get (D := (dC, dI)) (ci := 0) (v := .int len) (C := RX0) (T := TX0) (N := 2) hx hb hts hi_0 hown hK hP 1 rfl rfl 1 (by decide) hf_44 (fun _ h9 => h9) rfl dX2_layRanges_20 ?_
    refine lv_imul hx hb dX2_layRanges_23 ?_
    refine lv_topi (fun y_2 ey_2 => ?_)
    have i_2 : y_2.toInt = 2 * len.toInt := ki_mul ey_2 rfl rfl (om_58 a0) (om_59 a1)
    refine lv_iconst (v := 1) hx hb dX2_layRanges_24 (by decide) ?_
    refine lv_isub hx hb dX2_layRanges_25 ?_
    refine lv_topi (fun y_3 ey_3 => ?_)
    have i_3 : y_3.toInt = y_2.toInt - 1 := ki_sub ey_3 rfl rfl (om_60 a0 i_2) (om_61 a1 i_2)
    refine va_put (D := (dC, dI)) (ci := 2) (v := .int y_3) (ty := .int) (C := RX2) (T := TX2) (N := 11) hx hb hts hi_2 tyX2 tyX2_ok nmX2 hown hK hP hD hS 0 rfl rfl 9 (by decide) hf_50 (fun _ h9 => h9) rfl (by decide +kernel) rfl rfl (Nat.le_of_ble_eq_true rfl) dX2_layRanges_26 (fun H locs hP hD hS => ?_)
    have hP : va_P (dC, dI) vwCl [kx_2 q_t q_row q_joined q_from q_to q_size q_lossOf q_lessBy q_value q_number y_3 here, kx_0 q_row q_cell len, kx_a q_from cyI 319 ff, kx_a q_to cyI 319 ft] H := hP
    have hD : va_D A [kx_2 q_t q_row q_joined q_from q_to q_size q_lossOf q_lessBy q_value q_number y_3 here, kx_0 q_row q_cell len, kx_a q_from cyI 319 ff, kx_a q_to cyI 319 ft] := hD
    refine lv_aload_n hx hb dX2_layRanges_29 rfl (lv_at hl 0 rfl) ?_
    refine va_get (D := (dC, dI)) (ci := 2) (v := .ref q_from) (C := RX2) (T := TX2) (N := 11) hx hb hts hi_2 hown hK hP 0 rfl rfl 2 (by decide) hf_18 (fun _ h9 => h9) rfl dX2_layRanges_30 ?_
    refine lv_iconst (v := 0) hx hb dX2_layRanges_33 (by decide) ?_
    refine lv_iconst (v := 0) hx hb dX2_layRanges_34 (by decide) ?_
    refine va_iast hx hb hK hP hD hS 2 0 rfl rfl (ki_inl (by decide)) dX2_layRanges_35 (fun H locs hP hD hS => ?_)
    have hP : va_P (dC, dI) vwCl [kx_2 q_t q_row q_joined q_from q_to q_size q_lossOf q_lessBy q_value q_number y_3 here, kx_0 q_row q_cell len, kx_a q_from cyI 319 (upd ff (0 : Int32).toNatClampNeg 0), kx_a q_to cyI 319 ft] H := hP
    have hD : va_D A [kx_2 q_t q_row q_joined q_from q_to q_size q_lossOf q_lessBy q_value q_number y_3 here, kx_0 q_row q_cell len, kx_a q_from cyI 319 (upd ff (0 : Int32).toNatClampNeg 0), kx_a q_to cyI 319 ft] := hD
    refine lv_aload_n hx hb dX2_layRanges_36 rfl (lv_at hl 0 rfl) ?_
    refine va_get (D := (dC, dI)) (ci := 2) (v := .ref q_to) (C := RX2) (T := TX2) (N := 11) hx hb hts hi_2 hown hK hP 0 rfl rfl 3 (by decide) hf_22 (fun _ h9 => h9) rfl dX2_layRanges_37 ?_
    refine lv_iconst (v := 0) hx hb dX2_layRanges_40 (by decide) ?_
    refine lv_aload_n hx hb dX2_layRanges_41 rfl (lv_at hl 0 rfl) ?_
    refine va_get (D := (dC, dI)) (ci := 2) (v := .ref q_row) (C := RX2) (T := TX2) (N := 11) hx hb hts hi_2 hown hK hP 0 rfl rfl 0 (by decide) hf_40 (fun _ h9 => h9) rfl dX2_layRanges_42 ?_
    refine va_get (D := (dC, dI)) (ci := 0) (v := .int len) (C := RX0) (T := TX0) (N := 2) hx hb hts hi_0 hown hK hP 1 rfl rfl 1 (by decide) hf_44 (fun _ h9 => h9) rfl dX2_layRanges_45 ?_
    refine va_iast hx hb hK hP hD hS 3 0 rfl rfl (ki_inl (by decide)) dX2_layRanges_48 (fun H locs hP hD hS => ?_)
    have hP : va_P (dC, dI) vwCl [kx_2 q_t q_row q_joined q_from q_to q_size q_lossOf q_lessBy q_value q_number y_3 here, kx_0 q_row q_cell len, kx_a q_from cyI 319 (upd ff (0 : Int32).toNatClampNeg 0), kx_a q_to cyI 319 (upd ft (0 : Int32).toNatClampNeg len)] H := hP
    have hD : va_D A [kx_2 q_t q_row q_joined q_from q_to q_size q_lossOf q_lessBy q_value q_number y_3 here, kx_0 q_row q_cell len, kx_a q_from cyI 319 (upd ff (0 : Int32).toNatClampNeg 0), kx_a q_to cyI 319 (upd ft (0 : Int32).toNatClampNeg len)] := hD
    refine lv_iconst (v := 0) hx hb dX2_layRanges_49 (by decide) ?_
    refine lv_istore_n (lv' := [(1, .int 0), (0, .ref q_t)]) hx hb dX2_layRanges_50 rfl hl (by decide) rfl (fun ls hl => ?_)
    have hpd : ∃ cc : Nat, pend (upd ff (0 : Int32).toNatClampNeg 0) (upd ft (0 : Int32).toNatClampNeg len) y_3.toInt len.toInt cc (0 : Int32).toNatClampNeg := by
      have z0 : (0 : Int32).toNatClampNeg = 0 := rfl
      have z1 : (0 : Int32).toInt = 0 := rfl
      have u1 : upd ff 0 0 0 = 0 := by unfold upd; rw [if_pos rfl]
      have u2 : upd ft 0 len 0 = len := by unfold upd; rw [if_pos rfl]
      refine ⟨1, ⟨?_, ?_⟩⟩
      · unfold okAt; rw [z0, u1, u2, z1]; omega
      · show ((_ : Nat) : Int) = _; rw [z0, u1, u2, z1]; omega
    have LP1 : ∀ (n : Nat) (i : Int32) (gf : Nat → Int32) (gt : Nat → Int32), (0 ≤ i.toInt) → (∀ k : Nat, k < i.toNatClampNeg → okAt gf gt y_3.toInt len.toInt k) → (∃ cc : Nat, pend gf gt y_3.toInt len.toInt cc i.toNatClampNeg) → (y_3.toInt - i.toInt).toNat < n → ∀ (H : Heap) (locs : List Loc), va_P (dC, dI) vwCl [kx_2 q_t q_row q_joined q_from q_to q_size q_lossOf q_lessBy q_value q_number y_3 here, kx_0 q_row q_cell len, kx_a q_from cyI 319 gf, kx_a q_to cyI 319 gt] H → va_D A [kx_2 q_t q_row q_joined q_from q_to q_size q_lossOf q_lessBy q_value q_number y_3 here, kx_0 q_row q_cell len, kx_a q_from cyI 319 gf, kx_a q_to cyI 319 gt] → va_S A s.heap H locs → ∀ (ls : Array Slot), lv_has ls 2 [(1, .int i), (0, .ref q_t)] → W p l e (headSpec wsX2_layRanges ({ frames := 2, cells := 0, slots := 0, locals := 90 })).room s m ([.ref q_t] : List Value).toArray below meth c H locs 0 0 (MQ below (va_Qv (fun u : Int32 × (Nat → Int32) × (Nat → Int32) => ((len.toInt = 0 ∧ u.1.toInt = 0) ∨ (0 < len.toInt ∧ u.1.toInt = 2 * len.toInt - 1)) ∧ treeOk u.2.1 u.2.2 u.1.toInt len.toInt) (fun (u : Int32 × (Nat → Int32) × (Nat → Int32)) (t : State) => va_P (dC, dI) vwCl [kx_2 q_t q_row q_joined q_from q_to q_size q_lossOf q_lessBy q_value q_number u.1 here, kx_0 q_row q_cell len, kx_a q_from cyI 319 u.2.1, kx_a q_to cyI 319 u.2.2] t.heap ∧ va_K (dC, dI) vwCl [(cyI, .int)] t ∧ va_D A [kx_2 q_t q_row q_joined q_from q_to q_size q_lossOf q_lessBy q_value q_number u.1 here, kx_0 q_row q_cell len, kx_a q_from cyI 319 u.2.1, kx_a q_to cyI 319 u.2.2]) A) ([.ref q_t] : List Value).toArray s 0 0 A) (F0 m 51 ls []) := by
      intro n
      induction n with
      | zero => intro i gf gt LP1_h0 LP1_h1 LP1_h2 hn; exact absurd hn (Nat.not_lt_zero _)
      | succ n ih1 =>
        intro i gf gt LP1_h0 LP1_h1 LP1_h2 hn1 H locs hP hD hS ls hl
        obtain ⟨cc, hcc⟩ := LP1_h2
        have n_i := ki_nat i rfl (by omega)
        refine lv_iload_n hx hb dX2_layRanges_51 rfl (lv_at hl 0 rfl) ?_
        refine lv_aload_n hx hb dX2_layRanges_52 rfl (lv_at hl 1 rfl) ?_
        refine va_get (D := (dC, dI)) (ci := 2) (v := .int y_3) (C := RX2) (T := TX2) (N := 11) hx hb hts hi_2 hown hK hP 0 rfl rfl 9 (by decide) hf_50 (fun _ h9 => h9) rfl dX2_layRanges_53 ?_
        refine lv_icmp_ge (tgt := 87) hx hb dX2_layRanges_56 (by decide) (fun c_4 => ?_) (fun c_4 => ?_)
        · have i_4 : y_3.toInt ≤ i.toInt := kc_le c_4
          have hP9 := hP
          have hD9 := hD
          have hK9 := hK
          exact W.vret hx hb hr (fun t ht hW => ⟨⟨(y_3, gf, gt), rfl, ⟨Or.inr ⟨by omega, by (try dsimp only); omega⟩, fun k hk => LP1_h1 k (by (try dsimp only at hk); omega)⟩, by rw [ht]; exact hP9, va_K.moved hW.alike hK9, hD9⟩, hS.F ht⟩) hS.2.2 dX2_layRanges_87
        · have i_4 : i.toInt < y_3.toInt := kc_nle c_4
          obtain ⟨c9, rfl⟩ : ∃ c9, cc = c9 + 1 := by
            cases cc with
            | zero => exact absurd (show (i.toNatClampNeg : Int) = _ from hcc) (by omega)
            | succ c => exact ⟨c, rfl⟩
          have hok := hcc.1
          unfold okAt at hok
          refine lv_aload_n hx hb dX2_layRanges_59 rfl (lv_at hl 1 rfl) ?_
          refine va_get (D := (dC, dI)) (ci := 2) (v := .ref q_to) (C := RX2) (T := TX2) (N := 11) hx hb hts hi_2 hown hK hP 0 rfl rfl 3 (by decide) hf_22 (fun _ h9 => h9) rfl dX2_layRanges_60 ?_
          refine lv_iload_n hx hb dX2_layRanges_63 rfl (lv_at hl 0 rfl) ?_
          refine va_iald hx hb hK hP 3 0 rfl rfl (ki_in (om_8 LP1_h0) (om_62 a1 i_2 i_3 i_4)) dX2_layRanges_64 ?_
          refine lv_topi (fun y_5 ey_5 => ?_)
          have j_5 : y_5.toInt = (gt i.toNatClampNeg).toInt := congrArg Int32.toInt ey_5
          refine lv_aload_n hx hb dX2_layRanges_65 rfl (lv_at hl 1 rfl) ?_
          refine va_get (D := (dC, dI)) (ci := 2) (v := .ref q_from) (C := RX2) (T := TX2) (N := 11) hx hb hts hi_2 hown hK hP 0 rfl rfl 2 (by decide) hf_18 (fun _ h9 => h9) rfl dX2_layRanges_66 ?_
          refine lv_iload_n hx hb dX2_layRanges_69 rfl (lv_at hl 0 rfl) ?_
          refine va_iald hx hb hK hP 2 0 rfl rfl (ki_in (om_8 LP1_h0) (om_62 a1 i_2 i_3 i_4)) dX2_layRanges_70 ?_
          refine lv_topi (fun y_6 ey_6 => ?_)
          have j_6 : y_6.toInt = (gf i.toNatClampNeg).toInt := congrArg Int32.toInt ey_6
          refine lv_isub hx hb dX2_layRanges_71 ?_
          refine lv_topi (fun y_7 ey_7 => ?_)
          have i_7 : y_7.toInt = y_5.toInt - y_6.toInt := ki_sub ey_7 rfl rfl (by omega) (by omega)
          refine lv_iconst (v := 1) hx hb dX2_layRanges_72 (by decide) ?_
          refine lv_icmp_le (tgt := 81) hx hb dX2_layRanges_73 (by decide) (fun c_8 => ?_) (fun c_8 => ?_)
          · have i_8 : y_7.toInt ≤ 1 := kc_le c_8
            obtain ⟨x_9, ex_9⟩ : ∃ y : Int32, y = i + 1 := ⟨_, rfl⟩
            have i_9 : x_9.toInt = i.toInt + 1 := ki_add ex_9 rfl rfl (om_10 LP1_h0) (om_63 a1 i_2 i_3 i_4)
            refine lv_iinc (v := x_9) (lv' := [(1, .int x_9), (0, .ref q_t)]) hx hb dX2_layRanges_81 hl (k := 0) rfl (by rw [ex_9]; rfl) (by decide) rfl (fun ls hl => ?_)
            refine lv_goto (tgt := 51) hx hb dX2_layRanges_84 (by decide) ?_
            have n_x := ki_nat x_9 rfl (by omega)
            have q_x : x_9.toNatClampNeg = i.toNatClampNeg + 1 := by omega
            exact ih1 x_9 gf gt (om_31 LP1_h0 i_9) (fun k hk => (if h9 : k < i.toNatClampNeg then LP1_h1 k h9 else (by rw [show k = i.toNatClampNeg by omega]; exact hcc.1))) ⟨c9, by rw [q_x]; exact pend_leaf hcc (by omega)⟩ (om_mu hn1 (om_5 i_9) (om_6 i_4)) _ _ hP hD hS ls (lv_sub hl [0, 1] rfl)
          · have i_8 : 1 < y_7.toInt := kc_nle c_8
            refine lv_aload_n hx hb dX2_layRanges_76 rfl (lv_at hl 1 rfl) ?_
            refine lv_iload_n hx hb dX2_layRanges_77 rfl (lv_at hl 0 rfl) ?_
            have hPc := hP.sub (ws' := [kx_2 q_t q_row q_joined q_from q_to q_size q_lossOf q_lessBy q_value q_number y_3 here, kx_a q_from cyI 319 gf, kx_a q_to cyI 319 gt]) [0, 2, 3] rfl
            have hKc := hK
            have hDc := hD.sub (ws' := [kx_2 q_t q_row q_joined q_from q_to q_size q_lossOf q_lessBy q_value q_number y_3 here, kx_a q_from cyI 319 gf, kx_a q_to cyI 319 gt]) [0, 2, 3] (by decide) rfl
            have hFc := va_free (wc := [kx_2 q_t q_row q_joined q_from q_to q_size q_lossOf q_lessBy q_value q_number y_3 here, kx_a q_from cyI 319 gf, kx_a q_to cyI 319 gt]) hD hS hA [0, 2, 3] rfl
            refine va_callv (va_runV (As := [.int i]) (rest := []) ⟨hx, hb, hml, hown, hts⟩ (c_X2_layBelow l dC dI q_t q_row q_joined q_from q_to q_size q_lossOf q_lessBy q_value q_number y_3 here cyI gf gt i H.size LP1_h0 (om_64 a1 i_2 i_3 i_4) (by omega) (by omega) (by omega) (by omega)) (cwV 1 hts gX2_layRanges_X2_layBelow rfl rfl rfl (by decide +kernel) ⟨Nat.le_of_ble_eq_true rfl, Nat.le_of_ble_eq_true rfl⟩) ⟨fun a U g mk q => by obtain ⟨q0, q1, qP, qK, qD⟩ := q; exact ⟨q0, q1, qP, va_K.moved (u := U) (U := U.calling g mk a) (Vm.Alike.refl U.vm) qK, qD⟩, va_recv hKc hPc (ci := 2) (q0 := 0) rfl rfl, fun U hU hW => ⟨rfl, by rw [hU], by rw [hU]; exact hPc, va_K.moved hW.alike hKc, hDc.weaken (fun _ _ _ _ => trivial)⟩⟩ rfl rfl hl.1 rfl (lv_room (Nat.le_of_ble_eq_true rfl)) dX2_layRanges_78 ⟨Nat.le_of_ble_eq_true rfl, Nat.le_of_ble_eq_true rfl⟩) hS (fun q _ h => hFc q h) hFc (fun u t H1 locs ht hvm w_10 hB hz1 hk1 hS => ?_)
            obtain ⟨o_11, o_12, o_13, o_14⟩ := u
            dsimp only at w_10 hB
            obtain ⟨hP1, hK1, hD1⟩ := hB
            rw [ht] at hP1
            have hK1 := va_K.moved hvm.symm hK1
            obtain ⟨hP, hD⟩ := va_join (wr := [kx_0 q_row q_cell len]) (w1 := [kx_2 q_t q_row q_joined q_from q_to q_size q_lossOf q_lessBy q_value q_number y_3 here, kx_a q_from cyI 319 o_13, kx_a q_to cyI 319 o_14]) hP hD [0, 2, 3] [1] rfl rfl (by decide) (by decide) hk1 hFc hP1 hD1
            clear hP1 hD1 hK1 hk1 hz1 hFc hDc hPc hKc
            generalize H1 = H at hP hS ⊢
            have hP : va_P (dC, dI) vwCl [kx_0 q_row q_cell len, kx_2 q_t q_row q_joined q_from q_to q_size q_lossOf q_lessBy q_value q_number y_3 here, kx_a q_from cyI 319 o_13, kx_a q_to cyI 319 o_14] H := hP
            have hD : va_D A [kx_0 q_row q_cell len, kx_2 q_t q_row q_joined q_from q_to q_size q_lossOf q_lessBy q_value q_number y_3 here, kx_a q_from cyI 319 o_13, kx_a q_to cyI 319 o_14] := hD
            have w_10 : o_11.toInt = ((gf i.toNatClampNeg).toInt + (gt i.toNatClampNeg).toInt) / 2 ∧ o_12.toInt = i.toInt + 2 * (((gf i.toNatClampNeg).toInt + (gt i.toNatClampNeg).toInt) / 2 - (gf i.toNatClampNeg).toInt) ∧ o_13 = upd (upd gf (i.toNatClampNeg + 1) (gf i.toNatClampNeg)) o_12.toNatClampNeg o_11 ∧ o_14 = upd (upd gt (i.toNatClampNeg + 1) o_11) o_12.toNatClampNeg (gt i.toNatClampNeg) := w_10
            obtain ⟨x_15, ex_15⟩ : ∃ y : Int32, y = i + 1 := ⟨_, rfl⟩
            have i_15 : x_15.toInt = i.toInt + 1 := ki_add ex_15 rfl rfl (om_10 LP1_h0) (om_63 a1 i_2 i_3 i_4)
            refine lv_iinc (v := x_15) (lv' := [(1, .int x_15), (0, .ref q_t)]) hx hb dX2_layRanges_81 hl (k := 0) rfl (by rw [ex_15]; rfl) (by decide) rfl (fun ls hl => ?_)
            refine lv_goto (tgt := 51) hx hb dX2_layRanges_84 (by decide) ?_
            have hP : va_P (dC, dI) vwCl [kx_2 q_t q_row q_joined q_from q_to q_size q_lossOf q_lessBy q_value q_number y_3 here, kx_0 q_row q_cell len, kx_a q_from cyI 319 o_13, kx_a q_to cyI 319 o_14] _ := hP.sub [1, 0, 2, 3] rfl
            have hD : va_D A [kx_2 q_t q_row q_joined q_from q_to q_size q_lossOf q_lessBy q_value q_number y_3 here, kx_0 q_row q_cell len, kx_a q_from cyI 319 o_13, kx_a q_to cyI 319 o_14] := hD.sub [1, 0, 2, 3] (by decide) rfl
            have n_x := ki_nat x_15 rfl (by omega)
            have q_x : x_15.toNatClampNeg = i.toNatClampNeg + 1 := by omega
            have n_r := ki_nat o_12 rfl (by omega)
            have hsp := pend_split (r := o_12.toNatClampNeg) (md := o_11) hcc rfl rfl (by omega) (by omega) (by omega) w_10.2.2.1 w_10.2.2.2
            exact ih1 x_15 o_13 o_14 (om_31 LP1_h0 i_15) (fun k hk => hsp.2 k (by omega) (if h9 : k < i.toNatClampNeg then LP1_h1 k h9 else (by rw [show k = i.toNatClampNeg by omega]; exact hcc.1))) ⟨c9 + 2, by rw [q_x]; exact hsp.1⟩ (om_mu hn1 (om_5 i_15) (om_6 i_4)) _ _ hP hD hS ls (lv_sub hl [0, 1] rfl)
    have k_16 : (0 : Int32).toInt = 0 := rfl
    exact LP1 ((y_3.toInt - 0 : Int).toNat + 1) 0 (upd ff (0 : Int32).toNatClampNeg 0) (upd ft (0 : Int32).toNatClampNeg len) om_32 (fun k hk => absurd hk (Nat.not_lt_zero k)) hpd (Nat.lt_succ_self _) _ _ hP hD hS ls (lv_sub hl [0, 1] rfl)
  · have i_1 : len.toInt = 0 := kc_eq c_1
    refine lv_iconst (v := 0) hx hb dX2_layRanges_11 (by decide) ?_
    refine lv_goto (tgt := 26) hx hb dX2_layRanges_12 (by decide) ?_
    refine va_put (D := (dC, dI)) (ci := 2) (v := .int 0) (ty := .int) (C := RX2) (T := TX2) (N := 11) hx hb hts hi_2 tyX2 tyX2_ok nmX2 hown hK hP hD hS 0 rfl rfl 9 (by decide) hf_50 (fun _ h9 => h9) rfl (by decide +kernel) rfl rfl (Nat.le_of_ble_eq_true rfl) dX2_layRanges_26 (fun H locs hP hD hS => ?_)
    have hP : va_P (dC, dI) vwCl [kx_2 q_t q_row q_joined q_from q_to q_size q_lossOf q_lessBy q_value q_number 0 here, kx_0 q_row q_cell len, kx_a q_from cyI 319 ff, kx_a q_to cyI 319 ft] H := hP
    have hD : va_D A [kx_2 q_t q_row q_joined q_from q_to q_size q_lossOf q_lessBy q_value q_number 0 here, kx_0 q_row q_cell len, kx_a q_from cyI 319 ff, kx_a q_to cyI 319 ft] := hD
    refine lv_aload_n hx hb dX2_layRanges_29 rfl (lv_at hl 0 rfl) ?_
    refine va_get (D := (dC, dI)) (ci := 2) (v := .ref q_from) (C := RX2) (T := TX2) (N := 11) hx hb hts hi_2 hown hK hP 0 rfl rfl 2 (by decide) hf_18 (fun _ h9 => h9) rfl dX2_layRanges_30 ?_
    refine lv_iconst (v := 0) hx hb dX2_layRanges_33 (by decide) ?_
    refine lv_iconst (v := 0) hx hb dX2_layRanges_34 (by decide) ?_
    refine va_iast hx hb hK hP hD hS 2 0 rfl rfl (ki_inl (by decide)) dX2_layRanges_35 (fun H locs hP hD hS => ?_)
    have hP : va_P (dC, dI) vwCl [kx_2 q_t q_row q_joined q_from q_to q_size q_lossOf q_lessBy q_value q_number 0 here, kx_0 q_row q_cell len, kx_a q_from cyI 319 (upd ff (0 : Int32).toNatClampNeg 0), kx_a q_to cyI 319 ft] H := hP
    have hD : va_D A [kx_2 q_t q_row q_joined q_from q_to q_size q_lossOf q_lessBy q_value q_number 0 here, kx_0 q_row q_cell len, kx_a q_from cyI 319 (upd ff (0 : Int32).toNatClampNeg 0), kx_a q_to cyI 319 ft] := hD
    refine lv_aload_n hx hb dX2_layRanges_36 rfl (lv_at hl 0 rfl) ?_
    refine va_get (D := (dC, dI)) (ci := 2) (v := .ref q_to) (C := RX2) (T := TX2) (N := 11) hx hb hts hi_2 hown hK hP 0 rfl rfl 3 (by decide) hf_22 (fun _ h9 => h9) rfl dX2_layRanges_37 ?_
    refine lv_iconst (v := 0) hx hb dX2_layRanges_40 (by decide) ?_
    refine lv_aload_n hx hb dX2_layRanges_41 rfl (lv_at hl 0 rfl) ?_
    refine va_get (D := (dC, dI)) (ci := 2) (v := .ref q_row) (C := RX2) (T := TX2) (N := 11) hx hb hts hi_2 hown hK hP 0 rfl rfl 0 (by decide) hf_40 (fun _ h9 => h9) rfl dX2_layRanges_42 ?_
    refine va_get (D := (dC, dI)) (ci := 0) (v := .int len) (C := RX0) (T := TX0) (N := 2) hx hb hts hi_0 hown hK hP 1 rfl rfl 1 (by decide) hf_44 (fun _ h9 => h9) rfl dX2_layRanges_45 ?_
    refine va_iast hx hb hK hP hD hS 3 0 rfl rfl (ki_inl (by decide)) dX2_layRanges_48 (fun H locs hP hD hS => ?_)
    have hP : va_P (dC, dI) vwCl [kx_2 q_t q_row q_joined q_from q_to q_size q_lossOf q_lessBy q_value q_number 0 here, kx_0 q_row q_cell len, kx_a q_from cyI 319 (upd ff (0 : Int32).toNatClampNeg 0), kx_a q_to cyI 319 (upd ft (0 : Int32).toNatClampNeg len)] H := hP
    have hD : va_D A [kx_2 q_t q_row q_joined q_from q_to q_size q_lossOf q_lessBy q_value q_number 0 here, kx_0 q_row q_cell len, kx_a q_from cyI 319 (upd ff (0 : Int32).toNatClampNeg 0), kx_a q_to cyI 319 (upd ft (0 : Int32).toNatClampNeg len)] := hD
    refine lv_iconst (v := 0) hx hb dX2_layRanges_49 (by decide) ?_
    refine lv_istore_n (lv' := [(1, .int 0), (0, .ref q_t)]) hx hb dX2_layRanges_50 rfl hl (by decide) rfl (fun ls hl => ?_)
    refine lv_iload_n hx hb dX2_layRanges_51 rfl (lv_at hl 0 rfl) ?_
    refine lv_aload_n hx hb dX2_layRanges_52 rfl (lv_at hl 1 rfl) ?_
    refine va_get (D := (dC, dI)) (ci := 2) (v := .int 0) (C := RX2) (T := TX2) (N := 11) hx hb hts hi_2 hown hK hP 0 rfl rfl 9 (by decide) hf_50 (fun _ h9 => h9) rfl dX2_layRanges_53 ?_
    refine lv_icmp_ge (tgt := 87) hx hb dX2_layRanges_56 (by decide) (fun c_17 => ?_) (fun c_17 => ?_)
    · have hP9 := hP
      have hD9 := hD
      have hK9 := hK
      have k_z : (0 : Int32).toInt = 0 := rfl
      exact W.vret hx hb hr (fun t ht hW => ⟨⟨(0, (upd ff (0 : Int32).toNatClampNeg 0), (upd ft (0 : Int32).toNatClampNeg len)), rfl, ⟨Or.inl ⟨by omega, rfl⟩, fun k hk => absurd hk (by (try dsimp only); omega)⟩, by rw [ht]; exact hP9, va_K.moved hW.alike hK9, hD9⟩, hS.F ht⟩) hS.2.2 dX2_layRanges_87
    · exact absurd c_17 (by decide)


