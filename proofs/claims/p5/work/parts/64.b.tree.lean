def sixes (f : Nat → Int32) : Prop := ∀ k : Nat, k < 319 → 0 ≤ (f k).toInt ∧ (f k).toInt ≤ 6
theorem sixes_upd {f : Nat → Int32} {k : Nat} {x : Int32} (h : sixes f) (h1 : 0 ≤ x.toInt) (h2 : x.toInt ≤ 6) : sixes (upd f k x) := by
  intro j hj
  unfold upd
  split
  · exact ⟨h1, h2⟩
  · exact h j hj
def okAt (ff ft : Nat → Int32) (nd n : Int) (k : Nat) : Prop := 0 ≤ (ff k).toInt ∧ (ff k).toInt < (ft k).toInt ∧ (ft k).toInt ≤ n ∧ (k : Int) + 2 * ((ft k).toInt - (ff k).toInt) - 1 ≤ nd
def treeOk (ff ft : Nat → Int32) (nd n : Int) : Prop := ∀ k : Nat, (k : Int) < nd → okAt ff ft nd n k
def pend (ff ft : Nat → Int32) (nd n : Int) : Nat → Nat → Prop
  | 0, k => (k : Int) = nd
  | c + 1, k => okAt ff ft nd n k ∧ pend ff ft nd n c (k + (2 * ((ft k).toInt - (ff k).toInt) - 1).toNat)
theorem pend_congr {ff ft ff2 ft2 : Nat → Int32} {nd n : Int} : ∀ (c k : Nat), (∀ j : Nat, k ≤ j → ff2 j = ff j ∧ ft2 j = ft j) → pend ff ft nd n c k → pend ff2 ft2 nd n c k
  | 0, _, _, h => h
  | c + 1, k, hj, h => by
    obtain ⟨h1, h2⟩ := h
    have e := hj k (Nat.le_refl k)
    refine ⟨?_, ?_⟩
    · unfold okAt at h1 ⊢
      rw [e.1, e.2]
      exact h1
    · rw [e.1, e.2]
      exact pend_congr c _ (fun j h => hj j (by omega)) h2
theorem pend_split {ff ft ff2 ft2 : Nat → Int32} {nd n : Int} {c k r : Nat} {md fk tk : Int32} (h : pend ff ft nd n (c + 1) k) (hf : fk = ff k) (ht : tk = ft k) (hw : 2 ≤ tk.toInt - fk.toInt) (hm : md.toInt = (fk.toInt + tk.toInt) / 2) (hr : (r : Int) = (k : Int) + 2 * (md.toInt - fk.toInt))
    (e1 : ff2 = upd (upd ff (k + 1) fk) r md) (e2 : ft2 = upd (upd ft (k + 1) md) r tk) : pend ff2 ft2 nd n (c + 2) (k + 1) ∧ ∀ j : Nat, j ≤ k → okAt ff ft nd n j → okAt ff2 ft2 nd n j := by
  subst hf; subst ht; subst e1; subst e2
  obtain ⟨h1, h2⟩ := h
  unfold okAt at h1
  have ne : r ≠ k + 1 := by omega
  have a1 : upd (upd ff (k + 1) (ff k)) r md (k + 1) = ff k := by unfold upd; rw [if_neg (Ne.symm ne), if_pos rfl]
  have a2 : upd (upd ft (k + 1) md) r (ft k) (k + 1) = md := by unfold upd; rw [if_neg (Ne.symm ne), if_pos rfl]
  have b1 : upd (upd ff (k + 1) (ff k)) r md r = md := by unfold upd; rw [if_pos rfl]
  have b2 : upd (upd ft (k + 1) md) r (ft k) r = ft k := by unfold upd; rw [if_pos rfl]
  have oth1 : ∀ j : Nat, j ≠ r → j ≠ k + 1 → upd (upd ff (k + 1) (ff k)) r md j = ff j := fun j x y => by unfold upd; rw [if_neg x, if_neg y]
  have oth2 : ∀ j : Nat, j ≠ r → j ≠ k + 1 → upd (upd ft (k + 1) md) r (ft k) j = ft j := fun j x y => by unfold upd; rw [if_neg x, if_neg y]
  refine ⟨⟨?_, ?_⟩, ?_⟩
  · unfold okAt
    rw [a1, a2]
    omega
  · rw [a1, a2, show k + 1 + (2 * (md.toInt - (ff k).toInt) - 1).toNat = r by omega]
    refine ⟨?_, ?_⟩
    · unfold okAt
      rw [b1, b2]
      omega
    · rw [b1, b2, show r + (2 * ((ft k).toInt - md.toInt) - 1).toNat = k + (2 * ((ft k).toInt - (ff k).toInt) - 1).toNat by omega]
      exact pend_congr c _ (fun j hj => ⟨oth1 j (by omega) (by omega), oth2 j (by omega) (by omega)⟩) h2
  · intro j hj h
    unfold okAt at h ⊢
    rw [oth1 j (by omega) (by omega), oth2 j (by omega) (by omega)]
    exact h
theorem pend_leaf {ff ft : Nat → Int32} {nd n : Int} {c k : Nat} (h : pend ff ft nd n (c + 1) k) (hw : (ft k).toInt - (ff k).toInt ≤ 1) : pend ff ft nd n c (k + 1) := by
  obtain ⟨h1, h2⟩ := h
  unfold okAt at h1
  rw [show k + (2 * ((ft k).toInt - (ff k).toInt) - 1).toNat = k + 1 by omega] at h2
  exact h2

set_option maxHeartbeats 4000000 in
set_option maxRecDepth 100000 in
theorem c_X2_rightBelow (l : Launch) (dC : Nat → ClassId) (dI : Nat → Nat → Nat) (q_t : Nat) (q_row : Nat) (q_joined : Nat) (q_from : Nat) (q_to : Nat) (q_size : Nat) (q_lossOf : Nat) (q_lessBy : Nat) (q_value : Nat) (q_number : Nat) (nodes : Int32) (here : Int32) (cyI : ClassId) (ff : Nat → Int32) (ft : Nat → Int32) (p0 : Int32) (b0 : 0 ≤ p0.toInt) (b1 : p0.toInt < 319) (b2 : 0 ≤ (ff p0.toNatClampNeg).toInt) (b3 : (ff p0.toNatClampNeg).toInt < (ft p0.toNatClampNeg).toInt) (b4 : (ft p0.toNatClampNeg).toInt ≤ 160) : Met l yX2_rightBelow wsX2_rightBelow ({ frames := 0, cells := 0, slots := 0, locals := 0 }) (va_Pc [.ref q_t, .int p0] (fun U => va_P (dC, dI) vwCl [kx_2 q_t q_row q_joined q_from q_to q_size q_lossOf q_lessBy q_value q_number nodes here, kx_a q_from cyI 319 ff, kx_a q_to cyI 319 ft] U.heap ∧ va_K (dC, dI) vwCl [(cyI, .int)] U)) (vp_Si (fun r : Int32 => r.toInt = p0.toInt + 2 * (((ff p0.toNatClampNeg).toInt + (ft p0.toNatClampNeg).toInt) / 2 - (ff p0.toNatClampNeg).toInt))) 0 0 (fun _ => False) := by
  refine Met.ofW (cc := cX2_rightBelow) (maxL := 3) (ret := (some .int)) (by decide) rfl ?_
  intro p e s m args below meth c s₁ B hml hv
  obtain ⟨rfl, hP, hK⟩ := hv
  have hx := B.exec
  have hb := B.bytes
  have hr := B.returns
  have hts := atoms_spec (ws := wsX2_rightBelow) B.pre
  have hown : s.vm.findClass RX2 = some m.cls := findClass_of_methodNamed B.named
  have hlocks := B.notSynchronized
  have hP : va_P (dC, dI) vwCl [kx_2 q_t q_row q_joined q_from q_to q_size q_lossOf q_lessBy q_value q_number nodes here, kx_a q_from cyI 319 ff, kx_a q_to cyI 319 ft] s.heap := hP
  have hl := lv_entry ([.ref q_t, .int p0]) (n := 3) (Nat.le_of_ble_eq_true rfl)
  rw [lg_entry_eq]
  generalize (lg_sl ([.ref q_t, .int p0]) ++ List.replicate (3 - (lg_sl ([.ref q_t, .int p0])).length) Slot.unset).toArray = ls at hl ⊢
  have hl : lv_has ls 3 [(0, .ref q_t), (1, .int p0)] := hl
  have hf_18 := hts (.fieldLink RX2 18 "MajorityIndex$Tree" "from" "[I") (List.mem_of_getElem? (i := 1) rfl)
  have hi_2 : ∀ w ∈ u_ws RX2 TX2 11, w ∈ wsX2_rightBelow := fun w h => List.mem_cons_of_mem _ (List.mem_append_right _ h)
  have hf_22 := hts (.fieldLink RX2 22 "MajorityIndex$Tree" "to" "[I") (List.mem_of_getElem? (i := 2) rfl)
  refine lv_aload_n hx hb dX2_rightBelow_0 rfl (lv_at hl 0 rfl) ?_
  refine va_get (D := (dC, dI)) (ci := 2) (v := .ref q_from) (C := RX2) (T := TX2) (N := 11) hx hb hts hi_2 hown hK hP 0 rfl rfl 2 (by decide) hf_18 (fun _ h9 => h9) rfl dX2_rightBelow_1 ?_
  refine lv_iload_n hx hb dX2_rightBelow_4 rfl (lv_at hl 1 rfl) ?_
  refine va_iald hx hb hK hP 1 0 rfl rfl (ki_in (om_8 b0) (om_54 b1)) dX2_rightBelow_5 ?_
  refine lv_topi (fun y_1 ey_1 => ?_)
  have j_1 : y_1.toInt = (ff p0.toNatClampNeg).toInt := congrArg Int32.toInt ey_1
  refine lv_aload_n hx hb dX2_rightBelow_6 rfl (lv_at hl 0 rfl) ?_
  refine va_get (D := (dC, dI)) (ci := 2) (v := .ref q_to) (C := RX2) (T := TX2) (N := 11) hx hb hts hi_2 hown hK hP 0 rfl rfl 3 (by decide) hf_22 (fun _ h9 => h9) rfl dX2_rightBelow_7 ?_
  refine lv_iload_n hx hb dX2_rightBelow_10 rfl (lv_at hl 1 rfl) ?_
  refine va_iald hx hb hK hP 2 0 rfl rfl (ki_in (om_8 b0) (om_54 b1)) dX2_rightBelow_11 ?_
  refine lv_topi (fun y_2 ey_2 => ?_)
  have j_2 : y_2.toInt = (ft p0.toNatClampNeg).toInt := congrArg Int32.toInt ey_2
  refine lv_iadd hx hb dX2_rightBelow_12 ?_
  refine lv_topi (fun y_3 ey_3 => ?_)
  have i_3 : y_3.toInt = y_1.toInt + y_2.toInt := ki_add ey_3 rfl rfl (by omega) (by omega)
  refine lv_iconst (v := 2) hx hb dX2_rightBelow_13 (by decide) ?_
  refine lv_idiv hx hb dX2_rightBelow_14 (by decide) ?_
  refine lv_topi (fun y_4 ey_4 => ?_)
  have i_4 : y_4.toInt = y_3.toInt / 2 := ki_div2 ey_4 rfl (by omega)
  refine lv_istore_n (lv' := [(2, .int y_4), (0, .ref q_t), (1, .int p0)]) hx hb dX2_rightBelow_15 rfl hl (by decide) rfl (fun ls hl => ?_)
  refine lv_iload_n hx hb dX2_rightBelow_16 rfl (lv_at hl 2 rfl) ?_
  refine lv_iconst (v := 2) hx hb dX2_rightBelow_17 (by decide) ?_
  refine lv_iload_n hx hb dX2_rightBelow_18 rfl (lv_at hl 0 rfl) ?_
  refine lv_aload_n hx hb dX2_rightBelow_19 rfl (lv_at hl 1 rfl) ?_
  refine va_get (D := (dC, dI)) (ci := 2) (v := .ref q_from) (C := RX2) (T := TX2) (N := 11) hx hb hts hi_2 hown hK hP 0 rfl rfl 2 (by decide) hf_18 (fun _ h9 => h9) rfl dX2_rightBelow_20 ?_
  refine lv_iload_n hx hb dX2_rightBelow_23 rfl (lv_at hl 2 rfl) ?_
  refine va_iald hx hb hK hP 1 0 rfl rfl (ki_in (om_8 b0) (om_54 b1)) dX2_rightBelow_24 ?_
  refine lv_topi (fun y_5 ey_5 => ?_)
  have j_5 : y_5.toInt = (ff p0.toNatClampNeg).toInt := congrArg Int32.toInt ey_5
  refine lv_isub hx hb dX2_rightBelow_25 ?_
  refine lv_topi (fun y_6 ey_6 => ?_)
  have i_6 : y_6.toInt = y_4.toInt - y_5.toInt := ki_sub ey_6 rfl rfl (by omega) (by omega)
  refine lv_imul hx hb dX2_rightBelow_26 ?_
  refine lv_topi (fun y_7 ey_7 => ?_)
  have i_7 : y_7.toInt = 2 * y_6.toInt := ki_mul ey_7 rfl rfl (by omega) (by omega)
  refine lv_iadd hx hb dX2_rightBelow_27 ?_
  refine lv_topi (fun y_8 ey_8 => ?_)
  have i_8 : y_8.toInt = p0.toInt + y_7.toInt := ki_add ey_8 rfl rfl (by omega) (by omega)
  exact W.iret (v := y_8) hx hb hr (fun t ht hW => ⟨y_8, rfl, (by (try dsimp only); omega), ht⟩) (fun q hq => by cases hq) dX2_rightBelow_28

set_option maxHeartbeats 4000000 in
set_option maxRecDepth 100000 in
theorem c_X2_layBelow (l : Launch) (dC : Nat → ClassId) (dI : Nat → Nat → Nat) (q_t : Nat) (q_row : Nat) (q_joined : Nat) (q_from : Nat) (q_to : Nat) (q_size : Nat) (q_lossOf : Nat) (q_lessBy : Nat) (q_value : Nat) (q_number : Nat) (nodes : Int32) (here : Int32) (cyI : ClassId) (ff : Nat → Int32) (ft : Nat → Int32) (p0 : Int32) (sz : Nat) (b0 : 0 ≤ p0.toInt) (b1 : p0.toInt < 319) (b2 : 0 ≤ (ff p0.toNatClampNeg).toInt) (b3 : (ff p0.toNatClampNeg).toInt + 2 ≤ (ft p0.toNatClampNeg).toInt) (b4 : (ft p0.toNatClampNeg).toInt ≤ 160) (b5 : p0.toInt + 2 * ((ft p0.toNatClampNeg).toInt - (ff p0.toNatClampNeg).toInt) - 1 ≤ 319) : Met l yX2_layBelow wsX2_layBelow ({ frames := 1, cells := 0, slots := 0, locals := 45 }) (va_Pc [.ref q_t, .int p0] (fun U => U.heap.size = sz ∧ va_P (dC, dI) vwCl [kx_2 q_t q_row q_joined q_from q_to q_size q_lossOf q_lessBy q_value q_number nodes here, kx_a q_from cyI 319 ff, kx_a q_to cyI 319 ft] U.heap ∧ va_K (dC, dI) vwCl [(cyI, .int)] U ∧ va_D (fun _ => True) [kx_2 q_t q_row q_joined q_from q_to q_size q_lossOf q_lessBy q_value q_number nodes here, kx_a q_from cyI 319 ff, kx_a q_to cyI 319 ft])) (va_Qv (fun u : Int32 × Int32 × (Nat → Int32) × (Nat → Int32) => u.1.toInt = ((ff p0.toNatClampNeg).toInt + (ft p0.toNatClampNeg).toInt) / 2 ∧ u.2.1.toInt = p0.toInt + 2 * (((ff p0.toNatClampNeg).toInt + (ft p0.toNatClampNeg).toInt) / 2 - (ff p0.toNatClampNeg).toInt) ∧ u.2.2.1 = upd (upd ff (p0.toNatClampNeg + 1) (ff p0.toNatClampNeg)) u.2.1.toNatClampNeg u.1 ∧ u.2.2.2 = upd (upd ft (p0.toNatClampNeg + 1) u.1) u.2.1.toNatClampNeg (ft p0.toNatClampNeg)) (fun (u : Int32 × Int32 × (Nat → Int32) × (Nat → Int32)) (t : State) => va_P (dC, dI) vwCl [kx_2 q_t q_row q_joined q_from q_to q_size q_lossOf q_lessBy q_value q_number nodes here, kx_a q_from cyI 319 u.2.2.1, kx_a q_to cyI 319 u.2.2.2] t.heap ∧ va_K (dC, dI) vwCl [(cyI, .int)] t ∧ va_D (va_A [kx_2 q_t q_row q_joined q_from q_to q_size q_lossOf q_lessBy q_value q_number nodes here, kx_a q_from cyI 319 ff, kx_a q_to cyI 319 ft] sz) [kx_2 q_t q_row q_joined q_from q_to q_size q_lossOf q_lessBy q_value q_number nodes here, kx_a q_from cyI 319 u.2.2.1, kx_a q_to cyI 319 u.2.2.2]) (va_A [kx_2 q_t q_row q_joined q_from q_to q_size q_lossOf q_lessBy q_value q_number nodes here, kx_a q_from cyI 319 ff, kx_a q_to cyI 319 ft] sz)) 0 0 (va_A [kx_2 q_t q_row q_joined q_from q_to q_size q_lossOf q_lessBy q_value q_number nodes here, kx_a q_from cyI 319 ff, kx_a q_to cyI 319 ft] sz) := by
  refine Met.ofW (cc := cX2_layBelow) (maxL := 4) (ret := none) (by decide) rfl ?_
  intro p e s m args below meth c s₁ B hml hv
  obtain ⟨rfl, hsz, hP, hK, hD0⟩ := hv
  have hx := B.exec
  have hb := B.bytes
  have hr := B.returns
  have hts := atoms_spec (ws := wsX2_layBelow) B.pre
  have hown : s.vm.findClass RX2 = some m.cls := findClass_of_methodNamed B.named
  have hlocks := B.notSynchronized
  subst hsz
  have hD := hD0.self (sz := s.heap.size)
  generalize hAe : va_A [kx_2 q_t q_row q_joined q_from q_to q_size q_lossOf q_lessBy q_value q_number nodes here, kx_a q_from cyI 319 ff, kx_a q_to cyI 319 ft] s.heap.size = A at hD ⊢
  have hA : ∀ q : Nat, s.heap.size ≤ q → A q := fun q h => by rw [← hAe]; exact Or.inr h
  have hS : va_S A s.heap s.heap [] := va_S.rf
  have hP : va_P (dC, dI) vwCl [kx_2 q_t q_row q_joined q_from q_to q_size q_lossOf q_lessBy q_value q_number nodes here, kx_a q_from cyI 319 ff, kx_a q_to cyI 319 ft] s.heap := hP
  have hl := lv_entry ([.ref q_t, .int p0]) (n := 4) (Nat.le_of_ble_eq_true rfl)
  rw [lg_entry_eq]
  generalize (lg_sl ([.ref q_t, .int p0]) ++ List.replicate (4 - (lg_sl ([.ref q_t, .int p0])).length) Slot.unset).toArray = ls at hl ⊢
  have hl : lv_has ls 4 [(0, .ref q_t), (1, .int p0)] := hl
  have hf_18 := hts (.fieldLink RX2 18 "MajorityIndex$Tree" "from" "[I") (List.mem_of_getElem? (i := 1) rfl)
  have hi_2 : ∀ w ∈ u_ws RX2 TX2 11, w ∈ wsX2_layBelow := fun w h => List.mem_cons_of_mem _ (List.mem_append_right _ h)
  have hf_22 := hts (.fieldLink RX2 22 "MajorityIndex$Tree" "to" "[I") (List.mem_of_getElem? (i := 2) rfl)
  refine lv_aload_n hx hb dX2_layBelow_0 rfl (lv_at hl 0 rfl) ?_
  refine va_get (D := (dC, dI)) (ci := 2) (v := .ref q_from) (C := RX2) (T := TX2) (N := 11) hx hb hts hi_2 hown hK hP 0 rfl rfl 2 (by decide) hf_18 (fun _ h9 => h9) rfl dX2_layBelow_1 ?_
  refine lv_iload_n hx hb dX2_layBelow_4 rfl (lv_at hl 1 rfl) ?_
  refine va_iald hx hb hK hP 1 0 rfl rfl (ki_in (om_8 b0) (om_54 b1)) dX2_layBelow_5 ?_
  refine lv_topi (fun y_1 ey_1 => ?_)
  have j_1 : y_1.toInt = (ff p0.toNatClampNeg).toInt := congrArg Int32.toInt ey_1
  refine lv_aload_n hx hb dX2_layBelow_6 rfl (lv_at hl 0 rfl) ?_
  refine va_get (D := (dC, dI)) (ci := 2) (v := .ref q_to) (C := RX2) (T := TX2) (N := 11) hx hb hts hi_2 hown hK hP 0 rfl rfl 3 (by decide) hf_22 (fun _ h9 => h9) rfl dX2_layBelow_7 ?_
  refine lv_iload_n hx hb dX2_layBelow_10 rfl (lv_at hl 1 rfl) ?_
  refine va_iald hx hb hK hP 2 0 rfl rfl (ki_in (om_8 b0) (om_54 b1)) dX2_layBelow_11 ?_
  refine lv_topi (fun y_2 ey_2 => ?_)
  have j_2 : y_2.toInt = (ft p0.toNatClampNeg).toInt := congrArg Int32.toInt ey_2
  refine lv_iadd hx hb dX2_layBelow_12 ?_
  refine lv_topi (fun y_3 ey_3 => ?_)
  have i_3 : y_3.toInt = y_1.toInt + y_2.toInt := ki_add ey_3 rfl rfl (by omega) (by omega)
  refine lv_iconst (v := 2) hx hb dX2_layBelow_13 (by decide) ?_
  refine lv_idiv hx hb dX2_layBelow_14 (by decide) ?_
  refine lv_topi (fun y_4 ey_4 => ?_)
  have i_4 : y_4.toInt = y_3.toInt / 2 := ki_div2 ey_4 rfl (by omega)
  refine lv_istore_n (lv' := [(2, .int y_4), (0, .ref q_t), (1, .int p0)]) hx hb dX2_layBelow_15 rfl hl (by decide) rfl (fun ls hl => ?_)
  refine lv_aload_n hx hb dX2_layBelow_16 rfl (lv_at hl 1 rfl) ?_
  refine lv_iload_n hx hb dX2_layBelow_17 rfl (lv_at hl 2 rfl) ?_
  have hPc := hP
  have hKc := hK
  refine vp_callSi (W.runV (As := [.int p0]) (rest := []) ⟨hx, hb, hml, hown, hts⟩ (c_X2_rightBelow l dC dI q_t q_row q_joined q_from q_to q_size q_lossOf q_lessBy q_value q_number nodes here cyI ff ft p0 b0 b1 b2 (om_55 b3) b4) (cwV 1 hts gX2_layBelow_X2_rightBelow rfl rfl rfl (by decide +kernel) ⟨Nat.le_of_ble_eq_true rfl, Nat.le_of_ble_eq_true rfl⟩) ⟨fun a U g mk q => by obtain ⟨q0, qP, qK⟩ := q; exact ⟨q0, qP, va_K.moved (u := U) (U := U.calling g mk a) (Vm.Alike.refl U.vm) qK⟩, va_recv hKc hPc (ci := 2) (q0 := 0) rfl rfl, fun U hU hW => ⟨rfl, by rw [hU]; exact hPc, va_K.moved hW.alike hKc⟩⟩ rfl rfl hl.1 rfl (lv_room (Nat.le_of_ble_eq_true rfl)) dX2_layBelow_18 ⟨Nat.le_of_ble_eq_true rfl, Nat.le_of_ble_eq_true rfl⟩) (fun r_5 w_5 => ?_)
  have w_5 : r_5.toInt = p0.toInt + 2 * (((ff p0.toNatClampNeg).toInt + (ft p0.toNatClampNeg).toInt) / 2 - (ff p0.toNatClampNeg).toInt) := w_5
  refine lv_istore_n (lv' := [(3, .int r_5), (2, .int y_4), (0, .ref q_t), (1, .int p0)]) hx hb dX2_layBelow_21 rfl hl (by decide) rfl (fun ls hl => ?_)
  refine lv_aload_n hx hb dX2_layBelow_22 rfl (lv_at hl 2 rfl) ?_
  refine va_get (D := (dC, dI)) (ci := 2) (v := .ref q_from) (C := RX2) (T := TX2) (N := 11) hx hb hts hi_2 hown hK hP 0 rfl rfl 2 (by decide) hf_18 (fun _ h9 => h9) rfl dX2_layBelow_23 ?_
  refine lv_iload_n hx hb dX2_layBelow_26 rfl (lv_at hl 3 rfl) ?_
  refine lv_iconst (v := 1) hx hb dX2_layBelow_27 (by decide) ?_
  refine lv_iadd hx hb dX2_layBelow_28 ?_
  refine lv_topi (fun y_6 ey_6 => ?_)
  have i_6 : y_6.toInt = p0.toInt + 1 := ki_add ey_6 rfl rfl (om_10 b0) (om_56 b1)
  refine lv_aload_n hx hb dX2_layBelow_29 rfl (lv_at hl 2 rfl) ?_
  refine va_get (D := (dC, dI)) (ci := 2) (v := .ref q_from) (C := RX2) (T := TX2) (N := 11) hx hb hts hi_2 hown hK hP 0 rfl rfl 2 (by decide) hf_18 (fun _ h9 => h9) rfl dX2_layBelow_30 ?_
  refine lv_iload_n hx hb dX2_layBelow_33 rfl (lv_at hl 3 rfl) ?_
  refine va_iald hx hb hK hP 1 0 rfl rfl (ki_in (om_8 b0) (om_54 b1)) dX2_layBelow_34 ?_
  refine lv_topi (fun y_7 ey_7 => ?_)
  have j_7 : y_7.toInt = (ff p0.toNatClampNeg).toInt := congrArg Int32.toInt ey_7
  refine va_iast hx hb hK hP hD hS 1 0 rfl rfl (ki_in (om_31 b0 i_6) (om_57 b1 b3 b5 i_6)) dX2_layBelow_35 (fun H locs hP hD hS => ?_)
  have hP : va_P (dC, dI) vwCl [kx_2 q_t q_row q_joined q_from q_to q_size q_lossOf q_lessBy q_value q_number nodes here, kx_a q_from cyI 319 (upd ff y_6.toNatClampNeg y_7), kx_a q_to cyI 319 ft] H := hP
  have hD : va_D A [kx_2 q_t q_row q_joined q_from q_to q_size q_lossOf q_lessBy q_value q_number nodes here, kx_a q_from cyI 319 (upd ff y_6.toNatClampNeg y_7), kx_a q_to cyI 319 ft] := hD
  refine lv_aload_n hx hb dX2_layBelow_36 rfl (lv_at hl 2 rfl) ?_
  refine va_get (D := (dC, dI)) (ci := 2) (v := .ref q_to) (C := RX2) (T := TX2) (N := 11) hx hb hts hi_2 hown hK hP 0 rfl rfl 3 (by decide) hf_22 (fun _ h9 => h9) rfl dX2_layBelow_37 ?_
  refine lv_iload_n hx hb dX2_layBelow_40 rfl (lv_at hl 3 rfl) ?_
  refine lv_iconst (v := 1) hx hb dX2_layBelow_41 (by decide) ?_
  refine lv_iadd hx hb dX2_layBelow_42 ?_
  refine lv_topi (fun y_8 ey_8 => ?_)
  have i_8 : y_8.toInt = p0.toInt + 1 := ki_add ey_8 rfl rfl (om_10 b0) (om_56 b1)
  refine lv_iload_n hx hb dX2_layBelow_43 rfl (lv_at hl 1 rfl) ?_
  refine va_iast hx hb hK hP hD hS 2 0 rfl rfl (ki_in (om_31 b0 i_8) (om_57 b1 b3 b5 i_8)) dX2_layBelow_44 (fun H locs hP hD hS => ?_)
  have hP : va_P (dC, dI) vwCl [kx_2 q_t q_row q_joined q_from q_to q_size q_lossOf q_lessBy q_value q_number nodes here, kx_a q_from cyI 319 (upd ff y_6.toNatClampNeg y_7), kx_a q_to cyI 319 (upd ft y_8.toNatClampNeg y_4)] H := hP
  have hD : va_D A [kx_2 q_t q_row q_joined q_from q_to q_size q_lossOf q_lessBy q_value q_number nodes here, kx_a q_from cyI 319 (upd ff y_6.toNatClampNeg y_7), kx_a q_to cyI 319 (upd ft y_8.toNatClampNeg y_4)] := hD
  refine lv_aload_n hx hb dX2_layBelow_45 rfl (lv_at hl 2 rfl) ?_
  refine va_get (D := (dC, dI)) (ci := 2) (v := .ref q_from) (C := RX2) (T := TX2) (N := 11) hx hb hts hi_2 hown hK hP 0 rfl rfl 2 (by decide) hf_18 (fun _ h9 => h9) rfl dX2_layBelow_46 ?_
  refine lv_iload_n hx hb dX2_layBelow_49 rfl (lv_at hl 0 rfl) ?_
  refine lv_iload_n hx hb dX2_layBelow_50 rfl (lv_at hl 1 rfl) ?_
  refine va_iast hx hb hK hP hD hS 1 0 rfl rfl (ki_in (by omega) (by omega)) dX2_layBelow_51 (fun H locs hP hD hS => ?_)
  have hP : va_P (dC, dI) vwCl [kx_2 q_t q_row q_joined q_from q_to q_size q_lossOf q_lessBy q_value q_number nodes here, kx_a q_from cyI 319 (upd (upd ff y_6.toNatClampNeg y_7) r_5.toNatClampNeg y_4), kx_a q_to cyI 319 (upd ft y_8.toNatClampNeg y_4)] H := hP
  have hD : va_D A [kx_2 q_t q_row q_joined q_from q_to q_size q_lossOf q_lessBy q_value q_number nodes here, kx_a q_from cyI 319 (upd (upd ff y_6.toNatClampNeg y_7) r_5.toNatClampNeg y_4), kx_a q_to cyI 319 (upd ft y_8.toNatClampNeg y_4)] := hD
  refine lv_aload_n hx hb dX2_layBelow_52 rfl (lv_at hl 2 rfl) ?_
  refine va_get (D := (dC, dI)) (ci := 2) (v := .ref q_to) (C := RX2) (T := TX2) (N := 11) hx hb hts hi_2 hown hK hP 0 rfl rfl 3 (by decide) hf_22 (fun _ h9 => h9) rfl dX2_layBelow_53 ?_
  refine lv_iload_n hx hb dX2_layBelow_56 rfl (lv_at hl 0 rfl) ?_
  refine lv_aload_n hx hb dX2_layBelow_57 rfl (lv_at hl 2 rfl) ?_
  refine va_get (D := (dC, dI)) (ci := 2) (v := .ref q_to) (C := RX2) (T := TX2) (N := 11) hx hb hts hi_2 hown hK hP 0 rfl rfl 3 (by decide) hf_22 (fun _ h9 => h9) rfl dX2_layBelow_58 ?_
  refine lv_iload_n hx hb dX2_layBelow_61 rfl (lv_at hl 3 rfl) ?_
  refine va_iald hx hb hK hP 2 0 rfl rfl (ki_in (om_8 b0) (om_54 b1)) dX2_layBelow_62 ?_
  refine lv_topi (fun y_9 ey_9 => ?_)
  have j_9 : y_9.toInt = ((upd ft y_8.toNatClampNeg y_4) p0.toNatClampNeg).toInt := congrArg Int32.toInt ey_9
  refine va_iast hx hb hK hP hD hS 2 0 rfl rfl (ki_in (by omega) (by omega)) dX2_layBelow_63 (fun H locs hP hD hS => ?_)
  have hP : va_P (dC, dI) vwCl [kx_2 q_t q_row q_joined q_from q_to q_size q_lossOf q_lessBy q_value q_number nodes here, kx_a q_from cyI 319 (upd (upd ff y_6.toNatClampNeg y_7) r_5.toNatClampNeg y_4), kx_a q_to cyI 319 (upd (upd ft y_8.toNatClampNeg y_4) r_5.toNatClampNeg y_9)] H := hP
  have hD : va_D A [kx_2 q_t q_row q_joined q_from q_to q_size q_lossOf q_lessBy q_value q_number nodes here, kx_a q_from cyI 319 (upd (upd ff y_6.toNatClampNeg y_7) r_5.toNatClampNeg y_4), kx_a q_to cyI 319 (upd (upd ft y_8.toNatClampNeg y_4) r_5.toNatClampNeg y_9)] := hD
  have hP9 := hP
  have hD9 := hD
  have hK9 := hK
  have n_p := ki_nat p0 rfl (by omega)
  have n_1 := ki_nat y_6 rfl (by omega)
  have n_2 := ki_nat y_8 rfl (by omega)
  have q_1 : y_6.toNatClampNeg = p0.toNatClampNeg + 1 := by omega
  have q_2 : y_8.toNatClampNeg = p0.toNatClampNeg + 1 := by omega
  have q_3 : y_9 = ft p0.toNatClampNeg := by rw [ey_9]; unfold upd; rw [if_neg (by omega)]
  have q_4 : y_7 = ff p0.toNatClampNeg := ey_7
  exact W.vret hx hb hr (fun t ht hW => ⟨⟨(y_4, r_5, (upd (upd ff y_6.toNatClampNeg y_7) r_5.toNatClampNeg y_4), (upd (upd ft y_8.toNatClampNeg y_4) r_5.toNatClampNeg y_9)), rfl, ⟨(by (try dsimp only); omega), (by (try dsimp only); omega), (by (try dsimp only); rw [q_1, q_4]), (by (try dsimp only); rw [q_2, q_3])⟩, by rw [ht]; exact hP9, va_K.moved hW.alike hK9, hD9⟩, hS.F ht⟩) hS.2.2 dX2_layBelow_64


