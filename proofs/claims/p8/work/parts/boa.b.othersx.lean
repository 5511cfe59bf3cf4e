theorem mj_io_no {b : Int} {P Q : Prop} (h : mj_io b P Q) (c : b = 0) : Q := by
  rcases h with ⟨h, _⟩ | ⟨_, h⟩
  · omega
  · exact h
theorem mj_io_yes {b : Int} {P Q : Prop} (h : mj_io b P Q) (c : ¬ b = 0) : P := by
  rcases h with ⟨_, h⟩ | ⟨h, _⟩
  · exact h
  · exact absurd h c
theorem mj_io_n {P Q : Prop} (h : Q) : mj_io (0 : Int32).toInt P Q := Or.inr ⟨rfl, h⟩
theorem mj_io_y {P Q : Prop} (h : P) : mj_io (1 : Int32).toInt P Q := Or.inl ⟨rfl, h⟩
theorem mj_io_map {b : Int} {P P2 Q : Prop} (h : mj_io b P Q) (f : P → P2) : mj_io b P2 Q := by
  rcases h with ⟨a, h⟩ | h
  · exact Or.inl ⟨a, f h⟩
  · exact Or.inr h
theorem mj_cle {a b : Int32} (h : a.toInt ≤ b.toInt) : a.toNatClampNeg ≤ b.toNatClampNeg := by
  have g : a.toInt.toNat ≤ b.toInt.toNat := by omega
  exact g
theorem mj_clt {a b : Int32} (h : a.toInt < b.toInt) (h0 : 0 ≤ a.toInt) : a.toNatClampNeg < b.toNatClampNeg := by
  have g : a.toInt.toNat < b.toInt.toNat := by omega
  exact g
theorem mj_c1 {x i : Int32} (e : x.toInt = i.toInt + 1) (h : 0 ≤ i.toInt) : x.toNatClampNeg = i.toNatClampNeg + 1 := by
  have g : x.toInt.toNat = i.toInt.toNat + 1 := by omega
  exact g
theorem mj_ix6 {y x i j : Int32} (e : y.toInt = x.toInt + j.toInt) (e2 : x.toInt = 6 * i.toInt) (hi : 0 ≤ i.toInt) (hj : 0 ≤ j.toInt) : y.toNatClampNeg = 6 * i.toNatClampNeg + j.toNatClampNeg := by
  have g : y.toInt.toNat = 6 * i.toInt.toNat + j.toInt.toNat := by omega
  exact g
theorem mj_dn_leI (P : Nat → Prop) (i : Int32) (h : 0 ≤ i.toInt) : (mj_dn P i.toNatClampNeg : Int) ≤ i.toInt := by
  have a := mj_dn_le P i.toNatClampNeg
  have b := ki_nat i rfl h
  omega
theorem mj_st1 {y s : Int} {d d2 : Nat} (st : d2 = d + 1) (h : s = (d : Int)) (e : y = s + 1) : y = (d2 : Int) := by omega
theorem mj_st0 {y s : Int} {d d2 : Nat} (st : d2 = d) (h : s = (d : Int)) (e : y = s + 0) : y = (d2 : Int) := by omega
def mj_oj (FM FL VV VN wm wl wv wn : Nat → Int32) (i j : Nat) : Prop := FM i = wm i ∧ FL i = wl i ∧ ∀ m : Nat, m < j → VV (6 * i + m) = wv (6 * i + m) ∧ VN (6 * i + m) = wn (6 * i + m)
theorem mj_oj_sm {FM FL VV VN wm wl wv wn : Nat → Int32} {i j : Nat} (h : mj_oj FM FL VV VN wm wl wv wn i j) (hj : (FM i).toNatClampNeg ≤ j) : mj_sm wm wl wv wn FM FL VV VN i := ⟨h.1, h.2.1, fun m hm => h.2.2 m (Nat.lt_of_lt_of_le hm hj)⟩
theorem mj_oj_v {FM FL VV VN wm wl wv wn : Nat → Int32} {i j a b : Nat} {y z : Int32} (hne : ¬ y = z) (ey : y = VV a) (ez : z = wv b) (qa : a = 6 * i + j) (qb : b = 6 * i + j) (hj : j < (FM i).toNatClampNeg) : ¬ mj_sm wm wl wv wn FM FL VV VN i := by
  intro g
  subst qa; subst qb
  exact hne (ey.trans ((g.2.2 j hj).1.trans ez.symm))
theorem mj_oj_n {FM FL VV VN wm wl wv wn : Nat → Int32} {i j a b : Nat} {y z : Int32} (hne : ¬ y = z) (ey : y = VN a) (ez : z = wn b) (qa : a = 6 * i + j) (qb : b = 6 * i + j) (hj : j < (FM i).toNatClampNeg) : ¬ mj_sm wm wl wv wn FM FL VV VN i := by
  intro g
  subst qa; subst qb
  exact hne (ey.trans ((g.2.2 j hj).2.trans ez.symm))
theorem mj_oj_go {FM FL VV VN wm wl wv wn : Nat → Int32} {i j j2 a b a2 b2 : Nat} {y z y2 z2 : Int32} (h : mj_oj FM FL VV VN wm wl wv wn i j) (ej : j2 = j + 1) (e1 : y = z) (ey : y = VV a) (ez : z = wv b) (qa : a = 6 * i + j) (qb : b = 6 * i + j) (e2 : y2 = z2) (ey2 : y2 = VN a2) (ez2 : z2 = wn b2) (qa2 : a2 = 6 * i + j) (qb2 : b2 = 6 * i + j) : mj_oj FM FL VV VN wm wl wv wn i j2 := by
  subst qa; subst qb; subst qa2; subst qb2
  refine ⟨h.1, h.2.1, fun m hm => ?_⟩
  by_cases c : m < j
  · exact h.2.2 m c
  · have em : m = j := by omega
    rw [em]
    exact ⟨ey.symm.trans (e1.trans ez), ey2.symm.trans (e2.trans ez2)⟩
theorem mj_oj_a {FM FL VV VN wm wl wv wn : Nat → Int32} {i : Nat} {y z : Int32} (hne : ¬ y = z) (ey : y = FM i) (ez : z = wm i) : ¬ mj_sm wm wl wv wn FM FL VV VN i := fun g => hne (ey.trans (g.1.trans ez.symm))
theorem mj_oj_b {FM FL VV VN wm wl wv wn : Nat → Int32} {i : Nat} {y z : Int32} (hne : ¬ y = z) (ey : y = FL i) (ez : z = wl i) : ¬ mj_sm wm wl wv wn FM FL VV VN i := fun g => hne (ey.trans (g.2.1.trans ez.symm))

set_option maxHeartbeats 4000000 in
set_option maxRecDepth 100000 in
theorem c_X5_others_x (l : Launch) (dC : Nat → ClassId) (dI : Nat → Nat → Nat) (h0 : Nat) (g_row : Nat) (g_many : Nat) (g_loss : Nat) (g_less : Nat) (g_voteValue : Nat) (g_voteNumber : Nat) (g_allValue : Nat) (g_allNumber : Nat) (g_nodeL : Nat) (g_nodeR : Nat) (g_part : Nat) (g_wasMany : Nat) (g_wasLoss : Nat) (g_wasValue : Nat) (g_wasNumber : Nat) (g_path : Nat) (g_heavyValue : Nat) (g_heavyTimes : Nat) (g_fewest : Nat) (g_which : Nat) (g_met : Nat) (m_n : Int32) (m_slots : Int32) (m_thrown : Int32) (m_allMany : Int32) (m_nodes : Int32) (m_partMany : Int32) (m_pathMany : Int32) (m_heavyMany : Int32) (m_mostMet : Int32) (cyI : ClassId) (fm : Nat → Int32) (fl : Nat → Int32) (fe : Nat → Int32) (vv : Nat → Int32) (vn : Nat → Int32) (f : Nat → Int32) (av : Nat → Int32) (an : Nat → Int32) (nl : Nat → Int32) (nr : Nat → Int32) (wm : Nat → Int32) (wl : Nat → Int32) (wv : Nat → Int32) (wn : Nat → Int32) (sz : Nat) (a0 : 0 ≤ m_n.toInt) (a1 : m_n.toInt ≤ 160) (sl0 : 1 ≤ m_slots.toInt) (sl1 : m_slots.toInt ≤ 6) (s4 : six4 fm) : kx_MQ l (dC, dI) yX5_others wsX5_others ({ frames := 12, cells := 0, slots := 0, locals := 540 }) [.ref h0] [kx_5 h0 g_row m_n m_slots m_thrown g_many g_loss g_less g_voteValue g_voteNumber g_allValue g_allNumber m_allMany g_nodeL g_nodeR m_nodes g_part m_partMany g_wasMany g_wasLoss g_wasValue g_wasNumber g_path m_pathMany g_heavyValue g_heavyTimes m_heavyMany g_fewest g_which g_met m_mostMet, kx_a g_row cyI 160 f, kx_a g_many cyI 324 fm, kx_a g_loss cyI 324 fl, kx_a g_less cyI 324 fe, kx_a g_voteValue cyI 1944 vv, kx_a g_voteNumber cyI 1944 vn, kx_a g_allValue cyI 12 av, kx_a g_allNumber cyI 12 an, kx_a g_nodeL cyI 320 nl, kx_a g_nodeR cyI 320 nr, kx_a g_wasMany cyI 320 wm, kx_a g_wasLoss cyI 320 wl, kx_a g_wasValue cyI 1920 wv, kx_a g_wasNumber cyI 1920 wn] [(cyI, .int)] sz (fun A => va_Qi (fun (r : Int32) (u : Int32 × Int32 × (Nat → Int32) × (Nat → Int32) × (Nat → Int32) × (Nat → Int32) × (Nat → Int32) × (Nat → Int32) × (Nat → Int32) × (Nat → Int32) × (Nat → Int32)) => (mj_L m_slots.toNatClampNeg f u.2.2.2.2.2.2.2.2.2.1 u.2.2.2.2.2.2.2.2.2.2 u.2.2.1 u.2.2.2.1 u.2.2.2.2.1 u.2.2.2.2.2.1 u.2.2.2.2.2.2.1 m_n.toInt u.1.toInt ∧ 0 ≤ u.1.toInt ∧ u.1.toInt ≤ 319) ∧ six4 u.2.2.1 ∧ r.toInt = (mj_dn (mj_sm wm wl wv wn u.2.2.1 u.2.2.2.1 u.2.2.2.2.2.1 u.2.2.2.2.2.2.1) u.1.toNatClampNeg : Int)) (fun (u : Int32 × Int32 × (Nat → Int32) × (Nat → Int32) × (Nat → Int32) × (Nat → Int32) × (Nat → Int32) × (Nat → Int32) × (Nat → Int32) × (Nat → Int32) × (Nat → Int32)) (t : State) => va_P (dC, dI) vwCl [kx_5 h0 g_row m_n m_slots m_thrown g_many g_loss g_less g_voteValue g_voteNumber g_allValue g_allNumber u.2.1 g_nodeL g_nodeR u.1 g_part m_partMany g_wasMany g_wasLoss g_wasValue g_wasNumber g_path m_pathMany g_heavyValue g_heavyTimes m_heavyMany g_fewest g_which g_met m_mostMet, kx_a g_row cyI 160 f, kx_a g_many cyI 324 u.2.2.1, kx_a g_loss cyI 324 u.2.2.2.1, kx_a g_less cyI 324 u.2.2.2.2.1, kx_a g_voteValue cyI 1944 u.2.2.2.2.2.1, kx_a g_voteNumber cyI 1944 u.2.2.2.2.2.2.1, kx_a g_allValue cyI 12 u.2.2.2.2.2.2.2.1, kx_a g_allNumber cyI 12 u.2.2.2.2.2.2.2.2.1, kx_a g_nodeL cyI 320 u.2.2.2.2.2.2.2.2.2.1, kx_a g_nodeR cyI 320 u.2.2.2.2.2.2.2.2.2.2, kx_a g_wasMany cyI 320 wm, kx_a g_wasLoss cyI 320 wl, kx_a g_wasValue cyI 1920 wv, kx_a g_wasNumber cyI 1920 wn] t.heap ∧ va_K (dC, dI) vwCl [(cyI, .int)] t ∧ va_D A [kx_5 h0 g_row m_n m_slots m_thrown g_many g_loss g_less g_voteValue g_voteNumber g_allValue g_allNumber u.2.1 g_nodeL g_nodeR u.1 g_part m_partMany g_wasMany g_wasLoss g_wasValue g_wasNumber g_path m_pathMany g_heavyValue g_heavyTimes m_heavyMany g_fewest g_which g_met m_mostMet, kx_a g_row cyI 160 f, kx_a g_many cyI 324 u.2.2.1, kx_a g_loss cyI 324 u.2.2.2.1, kx_a g_less cyI 324 u.2.2.2.2.1, kx_a g_voteValue cyI 1944 u.2.2.2.2.2.1, kx_a g_voteNumber cyI 1944 u.2.2.2.2.2.2.1, kx_a g_allValue cyI 12 u.2.2.2.2.2.2.2.1, kx_a g_allNumber cyI 12 u.2.2.2.2.2.2.2.2.1, kx_a g_nodeL cyI 320 u.2.2.2.2.2.2.2.2.2.1, kx_a g_nodeR cyI 320 u.2.2.2.2.2.2.2.2.2.2, kx_a g_wasMany cyI 320 wm, kx_a g_wasLoss cyI 320 wl, kx_a g_wasValue cyI 1920 wv, kx_a g_wasNumber cyI 1920 wn]) A) := by
  refine kx_stQ (ws := wsX5_others) (cc := cX5_others) (maxL := 5) (ret := (some .int)) (by decide) rfl (Nat.le_of_ble_eq_true rfl) ?_
  intro p e s m below meth c A ls hx hb hr hlocks hts hown hml hA hS hP hK hD hl
  have hown : s.vm.findClass RX5 = some m.cls := hown
  have hl : lv_has ls 5 [(0, .ref h0)] := hl
  have hf_13 := hts (.fieldLink RX5 13 "MajorityIndexModel" "slots" "I") (List.mem_of_getElem? (i := 1) rfl)
  have hi_5 : ∀ w ∈ u_ws RX5 TX5 30, w ∈ wsX5_others := fun w h => List.mem_cons_of_mem _ (List.mem_append_right _ h)
  have hf_101 := hts (.fieldLink RX5 101 "MajorityIndexModel" "nodes" "I") (List.mem_of_getElem? (i := 2) rfl)
  have hf_17 := hts (.fieldLink RX5 17 "MajorityIndexModel" "many" "[I") (List.mem_of_getElem? (i := 3) rfl)
  have hf_26 := hts (.fieldLink RX5 26 "MajorityIndexModel" "voteValue" "[I") (List.mem_of_getElem? (i := 7) rfl)
  have hf_53 := hts (.fieldLink RX5 53 "MajorityIndexModel" "wasValue" "[I") (List.mem_of_getElem? (i := 8) rfl)
  have hf_29 := hts (.fieldLink RX5 29 "MajorityIndexModel" "voteNumber" "[I") (List.mem_of_getElem? (i := 9) rfl)
  have hf_56 := hts (.fieldLink RX5 56 "MajorityIndexModel" "wasNumber" "[I") (List.mem_of_getElem? (i := 10) rfl)
  have hf_47 := hts (.fieldLink RX5 47 "MajorityIndexModel" "wasMany" "[I") (List.mem_of_getElem? (i := 4) rfl)
  have hf_20 := hts (.fieldLink RX5 20 "MajorityIndexModel" "loss" "[I") (List.mem_of_getElem? (i := 5) rfl)
  have hf_50 := hts (.fieldLink RX5 50 "MajorityIndexModel" "wasLoss" "[I") (List.mem_of_getElem? (i := 6) rfl)
  refine lv_aload_n hx hb dX5_others_0 rfl (lv_at hl 0 rfl) ?_
  refine lv_aload_n hx hb dX5_others_1 rfl (lv_at hl 0 rfl) ?_
  refine va_get (D := (dC, dI)) (ci := 5) (v := .int m_slots) (C := RX5) (T := TX5) (N := 30) hx hb hts hi_5 hown hK hP 0 rfl rfl 2 (by decide) hf_13 (fun _ h9 => h9) rfl dX5_others_2 ?_
  obtain ⟨hPc, hDc, hFc, hCc⟩ := kx_preM (wc := [kx_5 h0 g_row m_n m_slots m_thrown g_many g_loss g_less g_voteValue g_voteNumber g_allValue g_allNumber m_allMany g_nodeL g_nodeR m_nodes g_part m_partMany g_wasMany g_wasLoss g_wasValue g_wasNumber g_path m_pathMany g_heavyValue g_heavyTimes m_heavyMany g_fewest g_which g_met m_mostMet, kx_a g_row cyI 160 f, kx_a g_many cyI 324 fm, kx_a g_loss cyI 324 fl, kx_a g_less cyI 324 fe, kx_a g_voteValue cyI 1944 vv, kx_a g_voteNumber cyI 1944 vn, kx_a g_allValue cyI 12 av, kx_a g_allNumber cyI 12 an, kx_a g_nodeL cyI 320 nl, kx_a g_nodeR cyI 320 nr]) hP hD hS hA [true, true, true, true, true, true, true, true, true, true, true, false, false, false, false] rfl
  have hKc := hK
  refine va_callv (va_runV (As := [.int m_slots]) (rest := []) ⟨hx, hb, hml, hown, hts⟩ (kx_un (c_X5_laysAll l dC dI h0 g_row g_many g_loss g_less g_voteValue g_voteNumber g_allValue g_allNumber g_nodeL g_nodeR g_part g_wasMany g_wasLoss g_wasValue g_wasNumber g_path g_heavyValue g_heavyTimes g_fewest g_which g_met m_n m_slots m_thrown m_allMany m_nodes m_partMany m_pathMany m_heavyMany m_mostMet cyI fm fl fe vv vn f av an nl nr m_slots s.heap.size a0 a1 sl0 sl1 s4)) (cwV 1 hts gX5_others_X5_laysAll rfl rfl rfl (by decide +kernel) ⟨Nat.le_of_ble_eq_true rfl, Nat.le_of_ble_eq_true rfl⟩) ⟨fun a U g mk q => by obtain ⟨q0, q1, qP, qK, qD⟩ := q; exact ⟨q0, q1, qP, va_K.moved (u := U) (U := U.calling g mk a) (Vm.Alike.refl U.vm) qK, qD⟩, kx_rc5 hKc hPc (q0 := 0) rfl, fun U hU hW => ⟨rfl, by rw [hU], by rw [hU]; exact hPc, va_K.moved hW.alike hKc, hDc.weaken (fun _ _ _ _ => trivial)⟩⟩ rfl rfl hl.1 rfl (lv_room (Nat.le_of_ble_eq_true rfl)) dX5_others_5 ⟨Nat.le_of_ble_eq_true rfl, Nat.le_of_ble_eq_true rfl⟩) hS (fun q _ h => hFc q h) hFc (fun u t H1 locs ht hvm w_1 hB hz1 hk1 hS => ?_)
  obtain ⟨o_2, o_3, o_4, o_5, o_6, o_7, o_8, o_9, o_10, o_11, o_12⟩ := u
  dsimp only at w_1 hB
  obtain ⟨hP1, hK1, hD1⟩ := hB
  rw [ht] at hP1
  have hK1 := va_K.moved hvm.symm hK1
  obtain ⟨hP, hD⟩ := kx_joinM (w2 := [kx_5 h0 g_row m_n m_slots m_thrown g_many g_loss g_less g_voteValue g_voteNumber g_allValue g_allNumber o_3 g_nodeL g_nodeR o_2 g_part m_partMany g_wasMany g_wasLoss g_wasValue g_wasNumber g_path m_pathMany g_heavyValue g_heavyTimes m_heavyMany g_fewest g_which g_met m_mostMet, kx_a g_row cyI 160 f, kx_a g_many cyI 324 o_4, kx_a g_loss cyI 324 o_5, kx_a g_less cyI 324 o_6, kx_a g_voteValue cyI 1944 o_7, kx_a g_voteNumber cyI 1944 o_8, kx_a g_allValue cyI 12 o_9, kx_a g_allNumber cyI 12 o_10, kx_a g_nodeL cyI 320 o_11, kx_a g_nodeR cyI 320 o_12, kx_a g_wasMany cyI 320 wm, kx_a g_wasLoss cyI 320 wl, kx_a g_wasValue cyI 1920 wv, kx_a g_wasNumber cyI 1920 wn]) hP hD hP1 hD1 hk1 hFc [true, true, true, true, true, true, true, true, true, true, true, false, false, false, false] hCc rfl
  clear hP1 hD1 hK1 hk1 hz1 hFc hDc hPc hKc hCc
  generalize H1 = H at hP hS ⊢
  have w_1 : mj_L m_slots.toNatClampNeg f o_11 o_12 o_4 o_5 o_6 o_7 o_8 m_n.toInt o_2.toInt ∧ six4 o_4 ∧ 0 ≤ o_2.toInt ∧ o_2.toInt ≤ 319 := w_1
  refine lv_iconst (v := 0) hx hb dX5_others_8 (by decide) ?_
  refine lv_istore_n (lv' := [(1, .int 0), (0, .ref h0)]) hx hb dX5_others_9 rfl hl (by decide) rfl (fun ls hl => ?_)
  refine lv_iconst (v := 0) hx hb dX5_others_10 (by decide) ?_
  refine lv_istore_n (lv' := [(2, .int 0), (1, .int 0), (0, .ref h0)]) hx hb dX5_others_11 rfl hl (by decide) rfl (fun ls hl => ?_)
  have LP1 : ∀ (n : Nat) (i : Int32) (sm : Int32), (0 ≤ i.toInt) → (sm.toInt = (mj_dn (mj_sm wm wl wv wn o_4 o_5 o_7 o_8) i.toNatClampNeg : Int)) → (i.toInt ≤ o_2.toInt) → (o_2.toInt - i.toInt).toNat < n → ∀ (H : Heap) (locs : List Loc), va_P (dC, dI) vwCl [kx_5 h0 g_row m_n m_slots m_thrown g_many g_loss g_less g_voteValue g_voteNumber g_allValue g_allNumber o_3 g_nodeL g_nodeR o_2 g_part m_partMany g_wasMany g_wasLoss g_wasValue g_wasNumber g_path m_pathMany g_heavyValue g_heavyTimes m_heavyMany g_fewest g_which g_met m_mostMet, kx_a g_row cyI 160 f, kx_a g_many cyI 324 o_4, kx_a g_loss cyI 324 o_5, kx_a g_less cyI 324 o_6, kx_a g_voteValue cyI 1944 o_7, kx_a g_voteNumber cyI 1944 o_8, kx_a g_allValue cyI 12 o_9, kx_a g_allNumber cyI 12 o_10, kx_a g_nodeL cyI 320 o_11, kx_a g_nodeR cyI 320 o_12, kx_a g_wasMany cyI 320 wm, kx_a g_wasLoss cyI 320 wl, kx_a g_wasValue cyI 1920 wv, kx_a g_wasNumber cyI 1920 wn] H → va_D A [kx_5 h0 g_row m_n m_slots m_thrown g_many g_loss g_less g_voteValue g_voteNumber g_allValue g_allNumber o_3 g_nodeL g_nodeR o_2 g_part m_partMany g_wasMany g_wasLoss g_wasValue g_wasNumber g_path m_pathMany g_heavyValue g_heavyTimes m_heavyMany g_fewest g_which g_met m_mostMet, kx_a g_row cyI 160 f, kx_a g_many cyI 324 o_4, kx_a g_loss cyI 324 o_5, kx_a g_less cyI 324 o_6, kx_a g_voteValue cyI 1944 o_7, kx_a g_voteNumber cyI 1944 o_8, kx_a g_allValue cyI 12 o_9, kx_a g_allNumber cyI 12 o_10, kx_a g_nodeL cyI 320 o_11, kx_a g_nodeR cyI 320 o_12, kx_a g_wasMany cyI 320 wm, kx_a g_wasLoss cyI 320 wl, kx_a g_wasValue cyI 1920 wv, kx_a g_wasNumber cyI 1920 wn] → va_S A s.heap H locs → ∀ (ls : Array Slot), lv_has ls 5 [(2, .int i), (1, .int sm), (0, .ref h0)] → W p l e (headSpec wsX5_others ({ frames := 12, cells := 0, slots := 0, locals := 540 })).room s m ([.ref h0] : List Value).toArray below meth c H locs 0 0 (MQ below (va_Qi (fun (r : Int32) (u : Int32 × Int32 × (Nat → Int32) × (Nat → Int32) × (Nat → Int32) × (Nat → Int32) × (Nat → Int32) × (Nat → Int32) × (Nat → Int32) × (Nat → Int32) × (Nat → Int32)) => (mj_L m_slots.toNatClampNeg f u.2.2.2.2.2.2.2.2.2.1 u.2.2.2.2.2.2.2.2.2.2 u.2.2.1 u.2.2.2.1 u.2.2.2.2.1 u.2.2.2.2.2.1 u.2.2.2.2.2.2.1 m_n.toInt u.1.toInt ∧ 0 ≤ u.1.toInt ∧ u.1.toInt ≤ 319) ∧ six4 u.2.2.1 ∧ r.toInt = (mj_dn (mj_sm wm wl wv wn u.2.2.1 u.2.2.2.1 u.2.2.2.2.2.1 u.2.2.2.2.2.2.1) u.1.toNatClampNeg : Int)) (fun (u : Int32 × Int32 × (Nat → Int32) × (Nat → Int32) × (Nat → Int32) × (Nat → Int32) × (Nat → Int32) × (Nat → Int32) × (Nat → Int32) × (Nat → Int32) × (Nat → Int32)) (t : State) => va_P (dC, dI) vwCl [kx_5 h0 g_row m_n m_slots m_thrown g_many g_loss g_less g_voteValue g_voteNumber g_allValue g_allNumber u.2.1 g_nodeL g_nodeR u.1 g_part m_partMany g_wasMany g_wasLoss g_wasValue g_wasNumber g_path m_pathMany g_heavyValue g_heavyTimes m_heavyMany g_fewest g_which g_met m_mostMet, kx_a g_row cyI 160 f, kx_a g_many cyI 324 u.2.2.1, kx_a g_loss cyI 324 u.2.2.2.1, kx_a g_less cyI 324 u.2.2.2.2.1, kx_a g_voteValue cyI 1944 u.2.2.2.2.2.1, kx_a g_voteNumber cyI 1944 u.2.2.2.2.2.2.1, kx_a g_allValue cyI 12 u.2.2.2.2.2.2.2.1, kx_a g_allNumber cyI 12 u.2.2.2.2.2.2.2.2.1, kx_a g_nodeL cyI 320 u.2.2.2.2.2.2.2.2.2.1, kx_a g_nodeR cyI 320 u.2.2.2.2.2.2.2.2.2.2, kx_a g_wasMany cyI 320 wm, kx_a g_wasLoss cyI 320 wl, kx_a g_wasValue cyI 1920 wv, kx_a g_wasNumber cyI 1920 wn] t.heap ∧ va_K (dC, dI) vwCl [(cyI, .int)] t ∧ va_D A [kx_5 h0 g_row m_n m_slots m_thrown g_many g_loss g_less g_voteValue g_voteNumber g_allValue g_allNumber u.2.1 g_nodeL g_nodeR u.1 g_part m_partMany g_wasMany g_wasLoss g_wasValue g_wasNumber g_path m_pathMany g_heavyValue g_heavyTimes m_heavyMany g_fewest g_which g_met m_mostMet, kx_a g_row cyI 160 f, kx_a g_many cyI 324 u.2.2.1, kx_a g_loss cyI 324 u.2.2.2.1, kx_a g_less cyI 324 u.2.2.2.2.1, kx_a g_voteValue cyI 1944 u.2.2.2.2.2.1, kx_a g_voteNumber cyI 1944 u.2.2.2.2.2.2.1, kx_a g_allValue cyI 12 u.2.2.2.2.2.2.2.1, kx_a g_allNumber cyI 12 u.2.2.2.2.2.2.2.2.1, kx_a g_nodeL cyI 320 u.2.2.2.2.2.2.2.2.2.1, kx_a g_nodeR cyI 320 u.2.2.2.2.2.2.2.2.2.2, kx_a g_wasMany cyI 320 wm, kx_a g_wasLoss cyI 320 wl, kx_a g_wasValue cyI 1920 wv, kx_a g_wasNumber cyI 1920 wn]) A) ([.ref h0] : List Value).toArray s 0 0 A) (F0 m 12 ls []) := by
    intro n
    induction n with
    | zero => intro i sm LP1_h0 LP1_h1 LP1_h2 hn; exact absurd hn (Nat.not_lt_zero _)
    | succ n ih1 =>
      intro i sm LP1_h0 LP1_h1 LP1_h2 hn1 H locs hP hD hS ls hl
      have n_i := ki_nat i rfl (om_10 LP1_h0)
      have hle := mj_dn_leI (mj_sm wm wl wv wn o_4 o_5 o_7 o_8) i LP1_h0
      refine lv_iload_n hx hb dX5_others_12 rfl (lv_at hl 0 rfl) ?_
      refine lv_aload_n hx hb dX5_others_13 rfl (lv_at hl 2 rfl) ?_
      refine va_get (D := (dC, dI)) (ci := 5) (v := .int o_2) (C := RX5) (T := TX5) (N := 30) hx hb hts hi_5 hown hK hP 0 rfl rfl 14 (by decide) hf_101 (fun _ h9 => h9) rfl dX5_others_14 ?_
      refine lv_icmp_ge (tgt := 158) hx hb dX5_others_17 (by decide) (fun c_13 => ?_) (fun c_13 => ?_)
      · have i_13 : o_2.toInt ≤ i.toInt := kc_le c_13
        refine lv_iload_n hx hb dX5_others_158 rfl (lv_at hl 1 rfl) ?_
        have hP9 := hP
        have hD9 := hD
        have hK9 := hK
        have n_nd := ki_nat o_2 rfl (om_10 w_1.2.2.1)
        exact W.iret (v := sm) hx hb hr (hlocks := hlocks) (fun t ht hW => ⟨⟨sm, (o_2, o_3, o_4, o_5, o_6, o_7, o_8, o_9, o_10, o_11, o_12), rfl, ⟨⟨w_1.1, (by (try dsimp only); omega), (by (try dsimp only); omega)⟩, w_1.2.1, (by (try dsimp only); rw [show o_2.toNatClampNeg = i.toNatClampNeg by omega]; exact LP1_h1)⟩, by rw [ht]; exact hP9, va_K.moved hW.alike hK9, hD9⟩, hS.F ht⟩) hS.2.2 dX5_others_159
      · have i_13 : i.toInt < o_2.toInt := kc_nle c_13
        have JN2 : ∀ (is0 : Int32), (mj_io is0.toInt (o_4 i.toNatClampNeg = wm i.toNatClampNeg ∧ o_5 i.toNatClampNeg = wl i.toNatClampNeg) (¬ mj_sm wm wl wv wn o_4 o_5 o_7 o_8 i.toNatClampNeg)) → ∀ (H : Heap) (locs : List Loc), va_P (dC, dI) vwCl [kx_5 h0 g_row m_n m_slots m_thrown g_many g_loss g_less g_voteValue g_voteNumber g_allValue g_allNumber o_3 g_nodeL g_nodeR o_2 g_part m_partMany g_wasMany g_wasLoss g_wasValue g_wasNumber g_path m_pathMany g_heavyValue g_heavyTimes m_heavyMany g_fewest g_which g_met m_mostMet, kx_a g_row cyI 160 f, kx_a g_many cyI 324 o_4, kx_a g_loss cyI 324 o_5, kx_a g_less cyI 324 o_6, kx_a g_voteValue cyI 1944 o_7, kx_a g_voteNumber cyI 1944 o_8, kx_a g_allValue cyI 12 o_9, kx_a g_allNumber cyI 12 o_10, kx_a g_nodeL cyI 320 o_11, kx_a g_nodeR cyI 320 o_12, kx_a g_wasMany cyI 320 wm, kx_a g_wasLoss cyI 320 wl, kx_a g_wasValue cyI 1920 wv, kx_a g_wasNumber cyI 1920 wn] H → va_D A [kx_5 h0 g_row m_n m_slots m_thrown g_many g_loss g_less g_voteValue g_voteNumber g_allValue g_allNumber o_3 g_nodeL g_nodeR o_2 g_part m_partMany g_wasMany g_wasLoss g_wasValue g_wasNumber g_path m_pathMany g_heavyValue g_heavyTimes m_heavyMany g_fewest g_which g_met m_mostMet, kx_a g_row cyI 160 f, kx_a g_many cyI 324 o_4, kx_a g_loss cyI 324 o_5, kx_a g_less cyI 324 o_6, kx_a g_voteValue cyI 1944 o_7, kx_a g_voteNumber cyI 1944 o_8, kx_a g_allValue cyI 12 o_9, kx_a g_allNumber cyI 12 o_10, kx_a g_nodeL cyI 320 o_11, kx_a g_nodeR cyI 320 o_12, kx_a g_wasMany cyI 320 wm, kx_a g_wasLoss cyI 320 wl, kx_a g_wasValue cyI 1920 wv, kx_a g_wasNumber cyI 1920 wn] → va_S A s.heap H locs → ∀ (ls : Array Slot), lv_has ls 5 [(2, .int i), (1, .int sm), (0, .ref h0), (3, .int is0)] → W p l e (headSpec wsX5_others ({ frames := 12, cells := 0, slots := 0, locals := 540 })).room s m ([.ref h0] : List Value).toArray below meth c H locs 0 0 (MQ below (va_Qi (fun (r : Int32) (u : Int32 × Int32 × (Nat → Int32) × (Nat → Int32) × (Nat → Int32) × (Nat → Int32) × (Nat → Int32) × (Nat → Int32) × (Nat → Int32) × (Nat → Int32) × (Nat → Int32)) => (mj_L m_slots.toNatClampNeg f u.2.2.2.2.2.2.2.2.2.1 u.2.2.2.2.2.2.2.2.2.2 u.2.2.1 u.2.2.2.1 u.2.2.2.2.1 u.2.2.2.2.2.1 u.2.2.2.2.2.2.1 m_n.toInt u.1.toInt ∧ 0 ≤ u.1.toInt ∧ u.1.toInt ≤ 319) ∧ six4 u.2.2.1 ∧ r.toInt = (mj_dn (mj_sm wm wl wv wn u.2.2.1 u.2.2.2.1 u.2.2.2.2.2.1 u.2.2.2.2.2.2.1) u.1.toNatClampNeg : Int)) (fun (u : Int32 × Int32 × (Nat → Int32) × (Nat → Int32) × (Nat → Int32) × (Nat → Int32) × (Nat → Int32) × (Nat → Int32) × (Nat → Int32) × (Nat → Int32) × (Nat → Int32)) (t : State) => va_P (dC, dI) vwCl [kx_5 h0 g_row m_n m_slots m_thrown g_many g_loss g_less g_voteValue g_voteNumber g_allValue g_allNumber u.2.1 g_nodeL g_nodeR u.1 g_part m_partMany g_wasMany g_wasLoss g_wasValue g_wasNumber g_path m_pathMany g_heavyValue g_heavyTimes m_heavyMany g_fewest g_which g_met m_mostMet, kx_a g_row cyI 160 f, kx_a g_many cyI 324 u.2.2.1, kx_a g_loss cyI 324 u.2.2.2.1, kx_a g_less cyI 324 u.2.2.2.2.1, kx_a g_voteValue cyI 1944 u.2.2.2.2.2.1, kx_a g_voteNumber cyI 1944 u.2.2.2.2.2.2.1, kx_a g_allValue cyI 12 u.2.2.2.2.2.2.2.1, kx_a g_allNumber cyI 12 u.2.2.2.2.2.2.2.2.1, kx_a g_nodeL cyI 320 u.2.2.2.2.2.2.2.2.2.1, kx_a g_nodeR cyI 320 u.2.2.2.2.2.2.2.2.2.2, kx_a g_wasMany cyI 320 wm, kx_a g_wasLoss cyI 320 wl, kx_a g_wasValue cyI 1920 wv, kx_a g_wasNumber cyI 1920 wn] t.heap ∧ va_K (dC, dI) vwCl [(cyI, .int)] t ∧ va_D A [kx_5 h0 g_row m_n m_slots m_thrown g_many g_loss g_less g_voteValue g_voteNumber g_allValue g_allNumber u.2.1 g_nodeL g_nodeR u.1 g_part m_partMany g_wasMany g_wasLoss g_wasValue g_wasNumber g_path m_pathMany g_heavyValue g_heavyTimes m_heavyMany g_fewest g_which g_met m_mostMet, kx_a g_row cyI 160 f, kx_a g_many cyI 324 u.2.2.1, kx_a g_loss cyI 324 u.2.2.2.1, kx_a g_less cyI 324 u.2.2.2.2.1, kx_a g_voteValue cyI 1944 u.2.2.2.2.2.1, kx_a g_voteNumber cyI 1944 u.2.2.2.2.2.2.1, kx_a g_allValue cyI 12 u.2.2.2.2.2.2.2.1, kx_a g_allNumber cyI 12 u.2.2.2.2.2.2.2.2.1, kx_a g_nodeL cyI 320 u.2.2.2.2.2.2.2.2.2.1, kx_a g_nodeR cyI 320 u.2.2.2.2.2.2.2.2.2.2, kx_a g_wasMany cyI 320 wm, kx_a g_wasLoss cyI 320 wl, kx_a g_wasValue cyI 1920 wv, kx_a g_wasNumber cyI 1920 wn]) A) ([.ref h0] : List Value).toArray s 0 0 A) (F0 m 56 ls []) := by
          intro is0 JN2_h0 H locs hP hD hS ls hl
          refine lv_iconst (v := 0) hx hb dX5_others_56 (by decide) ?_
          refine lv_istore (lv' := [(4, .int 0), (2, .int i), (1, .int sm), (0, .ref h0), (3, .int is0)]) hx hb dX5_others_57 hl (by decide) rfl (fun ls hl => ?_)
          have h_66 := w_1.2.1 i.toNatClampNeg (by omega)
          have LP3 : ∀ (n : Nat) (j : Int32) (is : Int32), (0 ≤ j.toInt) → (mj_io is.toInt (mj_oj o_4 o_5 o_7 o_8 wm wl wv wn i.toNatClampNeg j.toNatClampNeg) (¬ mj_sm wm wl wv wn o_4 o_5 o_7 o_8 i.toNatClampNeg)) → (j.toInt ≤ 6) → (6 - j.toInt).toNat < n → ∀ (H : Heap) (locs : List Loc), va_P (dC, dI) vwCl [kx_5 h0 g_row m_n m_slots m_thrown g_many g_loss g_less g_voteValue g_voteNumber g_allValue g_allNumber o_3 g_nodeL g_nodeR o_2 g_part m_partMany g_wasMany g_wasLoss g_wasValue g_wasNumber g_path m_pathMany g_heavyValue g_heavyTimes m_heavyMany g_fewest g_which g_met m_mostMet, kx_a g_row cyI 160 f, kx_a g_many cyI 324 o_4, kx_a g_loss cyI 324 o_5, kx_a g_less cyI 324 o_6, kx_a g_voteValue cyI 1944 o_7, kx_a g_voteNumber cyI 1944 o_8, kx_a g_allValue cyI 12 o_9, kx_a g_allNumber cyI 12 o_10, kx_a g_nodeL cyI 320 o_11, kx_a g_nodeR cyI 320 o_12, kx_a g_wasMany cyI 320 wm, kx_a g_wasLoss cyI 320 wl, kx_a g_wasValue cyI 1920 wv, kx_a g_wasNumber cyI 1920 wn] H → va_D A [kx_5 h0 g_row m_n m_slots m_thrown g_many g_loss g_less g_voteValue g_voteNumber g_allValue g_allNumber o_3 g_nodeL g_nodeR o_2 g_part m_partMany g_wasMany g_wasLoss g_wasValue g_wasNumber g_path m_pathMany g_heavyValue g_heavyTimes m_heavyMany g_fewest g_which g_met m_mostMet, kx_a g_row cyI 160 f, kx_a g_many cyI 324 o_4, kx_a g_loss cyI 324 o_5, kx_a g_less cyI 324 o_6, kx_a g_voteValue cyI 1944 o_7, kx_a g_voteNumber cyI 1944 o_8, kx_a g_allValue cyI 12 o_9, kx_a g_allNumber cyI 12 o_10, kx_a g_nodeL cyI 320 o_11, kx_a g_nodeR cyI 320 o_12, kx_a g_wasMany cyI 320 wm, kx_a g_wasLoss cyI 320 wl, kx_a g_wasValue cyI 1920 wv, kx_a g_wasNumber cyI 1920 wn] → va_S A s.heap H locs → ∀ (ls : Array Slot), lv_has ls 5 [(4, .int j), (2, .int i), (1, .int sm), (0, .ref h0), (3, .int is)] → W p l e (headSpec wsX5_others ({ frames := 12, cells := 0, slots := 0, locals := 540 })).room s m ([.ref h0] : List Value).toArray below meth c H locs 0 0 (MQ below (va_Qi (fun (r : Int32) (u : Int32 × Int32 × (Nat → Int32) × (Nat → Int32) × (Nat → Int32) × (Nat → Int32) × (Nat → Int32) × (Nat → Int32) × (Nat → Int32) × (Nat → Int32) × (Nat → Int32)) => (mj_L m_slots.toNatClampNeg f u.2.2.2.2.2.2.2.2.2.1 u.2.2.2.2.2.2.2.2.2.2 u.2.2.1 u.2.2.2.1 u.2.2.2.2.1 u.2.2.2.2.2.1 u.2.2.2.2.2.2.1 m_n.toInt u.1.toInt ∧ 0 ≤ u.1.toInt ∧ u.1.toInt ≤ 319) ∧ six4 u.2.2.1 ∧ r.toInt = (mj_dn (mj_sm wm wl wv wn u.2.2.1 u.2.2.2.1 u.2.2.2.2.2.1 u.2.2.2.2.2.2.1) u.1.toNatClampNeg : Int)) (fun (u : Int32 × Int32 × (Nat → Int32) × (Nat → Int32) × (Nat → Int32) × (Nat → Int32) × (Nat → Int32) × (Nat → Int32) × (Nat → Int32) × (Nat → Int32) × (Nat → Int32)) (t : State) => va_P (dC, dI) vwCl [kx_5 h0 g_row m_n m_slots m_thrown g_many g_loss g_less g_voteValue g_voteNumber g_allValue g_allNumber u.2.1 g_nodeL g_nodeR u.1 g_part m_partMany g_wasMany g_wasLoss g_wasValue g_wasNumber g_path m_pathMany g_heavyValue g_heavyTimes m_heavyMany g_fewest g_which g_met m_mostMet, kx_a g_row cyI 160 f, kx_a g_many cyI 324 u.2.2.1, kx_a g_loss cyI 324 u.2.2.2.1, kx_a g_less cyI 324 u.2.2.2.2.1, kx_a g_voteValue cyI 1944 u.2.2.2.2.2.1, kx_a g_voteNumber cyI 1944 u.2.2.2.2.2.2.1, kx_a g_allValue cyI 12 u.2.2.2.2.2.2.2.1, kx_a g_allNumber cyI 12 u.2.2.2.2.2.2.2.2.1, kx_a g_nodeL cyI 320 u.2.2.2.2.2.2.2.2.2.1, kx_a g_nodeR cyI 320 u.2.2.2.2.2.2.2.2.2.2, kx_a g_wasMany cyI 320 wm, kx_a g_wasLoss cyI 320 wl, kx_a g_wasValue cyI 1920 wv, kx_a g_wasNumber cyI 1920 wn] t.heap ∧ va_K (dC, dI) vwCl [(cyI, .int)] t ∧ va_D A [kx_5 h0 g_row m_n m_slots m_thrown g_many g_loss g_less g_voteValue g_voteNumber g_allValue g_allNumber u.2.1 g_nodeL g_nodeR u.1 g_part m_partMany g_wasMany g_wasLoss g_wasValue g_wasNumber g_path m_pathMany g_heavyValue g_heavyTimes m_heavyMany g_fewest g_which g_met m_mostMet, kx_a g_row cyI 160 f, kx_a g_many cyI 324 u.2.2.1, kx_a g_loss cyI 324 u.2.2.2.1, kx_a g_less cyI 324 u.2.2.2.2.1, kx_a g_voteValue cyI 1944 u.2.2.2.2.2.1, kx_a g_voteNumber cyI 1944 u.2.2.2.2.2.2.1, kx_a g_allValue cyI 12 u.2.2.2.2.2.2.2.1, kx_a g_allNumber cyI 12 u.2.2.2.2.2.2.2.2.1, kx_a g_nodeL cyI 320 u.2.2.2.2.2.2.2.2.2.1, kx_a g_nodeR cyI 320 u.2.2.2.2.2.2.2.2.2.2, kx_a g_wasMany cyI 320 wm, kx_a g_wasLoss cyI 320 wl, kx_a g_wasValue cyI 1920 wv, kx_a g_wasNumber cyI 1920 wn]) A) ([.ref h0] : List Value).toArray s 0 0 A) (F0 m 59 ls []) := by
            intro n
            induction n with
            | zero => intro j is LP3_h0 LP3_h1 LP3_h2 hn; exact absurd hn (Nat.not_lt_zero _)
            | succ n ih3 =>
              intro j is LP3_h0 LP3_h1 LP3_h2 hn3 H locs hP hD hS ls hl
              have n_j := ki_nat j rfl (om_10 LP3_h0)
              refine lv_iload hx hb dX5_others_59 (lv_at hl 0 rfl) ?_
              refine lv_aload_n hx hb dX5_others_61 rfl (lv_at hl 3 rfl) ?_
              refine va_get (D := (dC, dI)) (ci := 5) (v := .ref g_many) (C := RX5) (T := TX5) (N := 30) hx hb hts hi_5 hown hK hP 0 rfl rfl 4 (by decide) hf_17 (fun _ h9 => h9) rfl dX5_others_62 ?_
              refine lv_iload_n hx hb dX5_others_65 rfl (lv_at hl 1 rfl) ?_
              refine va_iald hx hb hK hP 2 0 rfl rfl (ki_in (om_10 LP1_h0) (om_545 w_1.2.2.2 LP1_h2)) dX5_others_66 ?_
              refine lv_topi (fun y_14 ey_14 => ?_)
              have j_14 : y_14.toInt = (o_4 i.toNatClampNeg).toInt := congrArg Int32.toInt ey_14
              have n_15 : (i.toNatClampNeg : Int) = i.toInt := ki_nat _ rfl (om_10 LP1_h0)
              have i_16 := w_1.2.1 i.toNatClampNeg (om_ln n_15 (om_545 w_1.2.2.2 LP1_h2))
              refine lv_icmp_ge (tgt := 140) hx hb dX5_others_67 (by decide) (fun c_17 => ?_) (fun c_17 => ?_)
              · have i_17 : y_14.toInt ≤ j.toInt := kc_le c_17
                refine lv_iload_n hx hb dX5_others_140 rfl (lv_at hl 2 rfl) ?_
                refine lv_iload_n hx hb dX5_others_141 rfl (lv_at hl 4 rfl) ?_
                refine lv_if_eq (tgt := 149) hx hb dX5_others_142 (by decide) (fun c_18 => ?_) (fun c_18 => ?_)
                · have i_18 : is.toInt = 0 := kc_eq c_18
                  refine lv_iconst (v := 1) hx hb dX5_others_149 (by decide) ?_
                  refine lv_iadd hx hb dX5_others_150 ?_
                  refine lv_topi (fun y_19 ey_19 => ?_)
                  have i_19 : y_19.toInt = sm.toInt + 1 := ki_add ey_19 rfl rfl (om_381 LP1_h1 (Int.natCast_nonneg _)) (om_551 w_1.2.2.2 LP1_h1 LP1_h2 hle)
                  refine lv_istore_n (lv' := [(1, .int y_19), (4, .int j), (2, .int i), (0, .ref h0), (3, .int is)]) hx hb dX5_others_151 rfl hl (by decide) rfl (fun ls hl => ?_)
                  obtain ⟨x_20, ex_20⟩ : ∃ y : Int32, y = i + 1 := ⟨_, rfl⟩
                  have i_20 : x_20.toInt = i.toInt + 1 := ki_add ex_20 rfl rfl (om_13 LP1_h0) (om_370 w_1.2.2.2 LP1_h2)
                  refine lv_iinc (v := x_20) (lv' := [(2, .int x_20), (1, .int y_19), (4, .int j), (0, .ref h0), (3, .int is)]) hx hb dX5_others_152 hl (k := 2) rfl (by rw [ex_20]; rfl) (by decide) rfl (fun ls hl => ?_)
                  refine lv_goto (tgt := 12) hx hb dX5_others_155 (by decide) ?_
                  have st := mj_dn_no (P := mj_sm wm wl wv wn o_4 o_5 o_7 o_8) (mj_c1 i_20 LP1_h0) (mj_io_no LP3_h1 i_18)
                  exact ih1 x_20 y_19 (om_34 LP1_h0 i_20) (mj_st1 st LP1_h1 i_19) (om_54 i_13 i_20) (om_mu hn1 (om_5 i_20) (om_6 i_13)) _ _ hP hD hS ls (lv_sub hl [0, 1, 3] rfl)
                · have i_18 : ¬ is.toInt = 0 := kc_ne c_18
                  refine lv_iconst (v := 0) hx hb dX5_others_145 (by decide) ?_
                  refine lv_goto (tgt := 150) hx hb dX5_others_146 (by decide) ?_
                  refine lv_iadd hx hb dX5_others_150 ?_
                  refine lv_topi (fun y_21 ey_21 => ?_)
                  have i_21 : y_21.toInt = sm.toInt + 0 := ki_add ey_21 rfl rfl (om_552 LP1_h1 (Int.natCast_nonneg _)) (om_553 w_1.2.2.2 LP1_h1 LP1_h2 hle)
                  refine lv_istore_n (lv' := [(1, .int y_21), (4, .int j), (2, .int i), (0, .ref h0), (3, .int is)]) hx hb dX5_others_151 rfl hl (by decide) rfl (fun ls hl => ?_)
                  obtain ⟨x_22, ex_22⟩ : ∃ y : Int32, y = i + 1 := ⟨_, rfl⟩
                  have i_22 : x_22.toInt = i.toInt + 1 := ki_add ex_22 rfl rfl (om_13 LP1_h0) (om_370 w_1.2.2.2 LP1_h2)
                  refine lv_iinc (v := x_22) (lv' := [(2, .int x_22), (1, .int y_21), (4, .int j), (0, .ref h0), (3, .int is)]) hx hb dX5_others_152 hl (k := 2) rfl (by rw [ex_22]; rfl) (by decide) rfl (fun ls hl => ?_)
                  refine lv_goto (tgt := 12) hx hb dX5_others_155 (by decide) ?_
                  have st := mj_dn_yes (P := mj_sm wm wl wv wn o_4 o_5 o_7 o_8) (mj_c1 i_22 LP1_h0) (mj_oj_sm (mj_io_yes LP3_h1 i_18) (mj_cle (Int.le_trans (Int.le_of_eq j_14.symm) i_17)))
                  exact ih1 x_22 y_21 (om_34 LP1_h0 i_22) (mj_st0 st LP1_h1 i_21) (om_54 i_13 i_22) (om_mu hn1 (om_5 i_22) (om_6 i_13)) _ _ hP hD hS ls (lv_sub hl [0, 1, 3] rfl)
              · have i_17 : j.toInt < y_14.toInt := kc_nle c_17
                refine lv_iload_n hx hb dX5_others_70 rfl (lv_at hl 4 rfl) ?_
                refine lv_if_eq (tgt := 140) hx hb dX5_others_71 (by decide) (fun c_23 => ?_) (fun c_23 => ?_)
                · have i_23 : is.toInt = 0 := kc_eq c_23
                  refine lv_iload_n hx hb dX5_others_140 rfl (lv_at hl 2 rfl) ?_
                  refine lv_iload_n hx hb dX5_others_141 rfl (lv_at hl 4 rfl) ?_
                  refine lv_if_eq (tgt := 149) hx hb dX5_others_142 (by decide) (fun c_24 => ?_) (fun c_24 => ?_)
                  · have i_24 : is.toInt = 0 := kc_eq c_24
                    refine lv_iconst (v := 1) hx hb dX5_others_149 (by decide) ?_
                    refine lv_iadd hx hb dX5_others_150 ?_
                    refine lv_topi (fun y_25 ey_25 => ?_)
                    have i_25 : y_25.toInt = sm.toInt + 1 := ki_add ey_25 rfl rfl (om_381 LP1_h1 (Int.natCast_nonneg _)) (om_551 w_1.2.2.2 LP1_h1 LP1_h2 hle)
                    refine lv_istore_n (lv' := [(1, .int y_25), (4, .int j), (2, .int i), (0, .ref h0), (3, .int is)]) hx hb dX5_others_151 rfl hl (by decide) rfl (fun ls hl => ?_)
                    obtain ⟨x_26, ex_26⟩ : ∃ y : Int32, y = i + 1 := ⟨_, rfl⟩
                    have i_26 : x_26.toInt = i.toInt + 1 := ki_add ex_26 rfl rfl (om_13 LP1_h0) (om_370 w_1.2.2.2 LP1_h2)
                    refine lv_iinc (v := x_26) (lv' := [(2, .int x_26), (1, .int y_25), (4, .int j), (0, .ref h0), (3, .int is)]) hx hb dX5_others_152 hl (k := 2) rfl (by rw [ex_26]; rfl) (by decide) rfl (fun ls hl => ?_)
                    refine lv_goto (tgt := 12) hx hb dX5_others_155 (by decide) ?_
                    have st := mj_dn_no (P := mj_sm wm wl wv wn o_4 o_5 o_7 o_8) (mj_c1 i_26 LP1_h0) (mj_io_no LP3_h1 i_24)
                    exact ih1 x_26 y_25 (om_34 LP1_h0 i_26) (mj_st1 st LP1_h1 i_25) (om_54 i_13 i_26) (om_mu hn1 (om_5 i_26) (om_6 i_13)) _ _ hP hD hS ls (lv_sub hl [0, 1, 3] rfl)
                  · have i_24 : ¬ is.toInt = 0 := kc_ne c_24
                    refine lv_iconst (v := 0) hx hb dX5_others_145 (by decide) ?_
                    refine lv_goto (tgt := 150) hx hb dX5_others_146 (by decide) ?_
                    refine lv_iadd hx hb dX5_others_150 ?_
                    refine lv_topi (fun y_27 ey_27 => ?_)
                    have i_27 : y_27.toInt = sm.toInt + 0 := ki_add ey_27 rfl rfl (om_552 LP1_h1 (Int.natCast_nonneg _)) (om_553 w_1.2.2.2 LP1_h1 LP1_h2 hle)
                    refine lv_istore_n (lv' := [(1, .int y_27), (4, .int j), (2, .int i), (0, .ref h0), (3, .int is)]) hx hb dX5_others_151 rfl hl (by decide) rfl (fun ls hl => ?_)
                    obtain ⟨x_28, ex_28⟩ : ∃ y : Int32, y = i + 1 := ⟨_, rfl⟩
                    have i_28 : x_28.toInt = i.toInt + 1 := ki_add ex_28 rfl rfl (om_13 LP1_h0) (om_370 w_1.2.2.2 LP1_h2)
                    refine lv_iinc (v := x_28) (lv' := [(2, .int x_28), (1, .int y_27), (4, .int j), (0, .ref h0), (3, .int is)]) hx hb dX5_others_152 hl (k := 2) rfl (by rw [ex_28]; rfl) (by decide) rfl (fun ls hl => ?_)
                    refine lv_goto (tgt := 12) hx hb dX5_others_155 (by decide) ?_
                    exact ih1 x_28 y_27 (om_34 LP1_h0 i_28) (absurd i_23 i_24) (om_54 i_13 i_28) (om_mu hn1 (om_5 i_28) (om_6 i_13)) _ _ hP hD hS ls (lv_sub hl [0, 1, 3] rfl)
                · have i_23 : ¬ is.toInt = 0 := kc_ne c_23
                  refine lv_aload_n hx hb dX5_others_74 rfl (lv_at hl 3 rfl) ?_
                  refine va_get (D := (dC, dI)) (ci := 5) (v := .ref g_voteValue) (C := RX5) (T := TX5) (N := 30) hx hb hts hi_5 hown hK hP 0 rfl rfl 7 (by decide) hf_26 (fun _ h9 => h9) rfl dX5_others_75 ?_
                  refine lv_bipush (v := 6) hx hb dX5_others_78 (by decide) ?_
                  refine lv_iload_n hx hb dX5_others_80 rfl (lv_at hl 1 rfl) ?_
                  refine lv_imul hx hb dX5_others_81 ?_
                  refine lv_topi (fun y_29 ey_29 => ?_)
                  have i_29 : y_29.toInt = 6 * i.toInt := ki_mul ey_29 rfl rfl (om_247 LP1_h0) (om_547 w_1.2.2.2 LP1_h2)
                  refine lv_iload hx hb dX5_others_82 (lv_at hl 0 rfl) ?_
                  refine lv_iadd hx hb dX5_others_84 ?_
                  refine lv_topi (fun y_30 ey_30 => ?_)
                  have i_30 : y_30.toInt = y_29.toInt + j.toInt := ki_add ey_30 rfl rfl (om_251 LP1_h0 LP3_h0 i_29) (om_554 w_1.2.2.2 i_13 LP3_h2 i_29)
                  refine va_iald hx hb hK hP 5 0 rfl rfl (ki_in (om_253 LP1_h0 LP3_h0 i_29 i_30) (om_555 w_1.2.2.2 i_13 LP3_h2 i_29 i_30)) dX5_others_85 ?_
                  refine lv_topi (fun y_31 ey_31 => ?_)
                  have j_31 : y_31.toInt = (o_7 y_30.toNatClampNeg).toInt := congrArg Int32.toInt ey_31
                  refine lv_aload_n hx hb dX5_others_86 rfl (lv_at hl 3 rfl) ?_
                  refine va_get (D := (dC, dI)) (ci := 5) (v := .ref g_wasValue) (C := RX5) (T := TX5) (N := 30) hx hb hts hi_5 hown hK hP 0 rfl rfl 19 (by decide) hf_53 (fun _ h9 => h9) rfl dX5_others_87 ?_
                  refine lv_bipush (v := 6) hx hb dX5_others_90 (by decide) ?_
                  refine lv_iload_n hx hb dX5_others_92 rfl (lv_at hl 1 rfl) ?_
                  refine lv_imul hx hb dX5_others_93 ?_
                  refine lv_topi (fun y_32 ey_32 => ?_)
                  have i_32 : y_32.toInt = 6 * i.toInt := ki_mul ey_32 rfl rfl (om_247 LP1_h0) (om_547 w_1.2.2.2 LP1_h2)
                  refine lv_iload hx hb dX5_others_94 (lv_at hl 0 rfl) ?_
                  refine lv_iadd hx hb dX5_others_96 ?_
                  refine lv_topi (fun y_33 ey_33 => ?_)
                  have i_33 : y_33.toInt = y_32.toInt + j.toInt := ki_add ey_33 rfl rfl (om_251 LP1_h0 LP3_h0 i_32) (om_554 w_1.2.2.2 i_13 LP3_h2 i_32)
                  refine va_iald hx hb hK hP 13 0 rfl rfl (ki_in (om_253 LP1_h0 LP3_h0 i_32 i_33) (om_556 w_1.2.2.2 i_13 LP3_h2 i_32 i_33)) dX5_others_97 ?_
                  refine lv_topi (fun y_34 ey_34 => ?_)
                  have j_34 : y_34.toInt = (wv y_33.toNatClampNeg).toInt := congrArg Int32.toInt ey_34
                  refine lv_icmp_ne (tgt := 132) hx hb dX5_others_98 (by decide) (fun c_35 => ?_) (fun c_35 => ?_)
                  · have i_35 : ¬ y_31.toInt = y_34.toInt := kc_ne c_35
                    refine lv_iconst (v := 0) hx hb dX5_others_132 (by decide) ?_
                    refine lv_istore_n (lv' := [(3, .int 0), (4, .int j), (2, .int i), (1, .int sm), (0, .ref h0)]) hx hb dX5_others_133 rfl hl (by decide) rfl (fun ls hl => ?_)
                    obtain ⟨x_36, ex_36⟩ : ∃ y : Int32, y = j + 1 := ⟨_, rfl⟩
                    have i_36 : x_36.toInt = j.toInt + 1 := ki_add ex_36 rfl rfl (om_13 LP3_h0) (om_203 LP3_h2)
                    refine lv_iinc (v := x_36) (lv' := [(4, .int x_36), (3, .int 0), (2, .int i), (1, .int sm), (0, .ref h0)]) hx hb dX5_others_134 hl (k := 1) rfl (by rw [ex_36]; rfl) (by decide) rfl (fun ls hl => ?_)
                    refine lv_goto (tgt := 59) hx hb dX5_others_137 (by decide) ?_
                    have k_37 : (0 : Int32).toInt = 0 := rfl
                    exact ih3 x_36 0 (om_34 LP3_h0 i_36) (mj_io_n (mj_oj_v c_35 ey_31 ey_34 (mj_ix6 i_30 i_29 LP1_h0 LP3_h0) (mj_ix6 i_33 i_32 LP1_h0 LP3_h0) (mj_clt (Int.lt_of_lt_of_le i_17 (Int.le_of_eq j_14)) LP3_h0))) (om_557 j_14 i_16.2 i_17 i_36) (om_mu hn3 (om_102 i_36) (om_103 j_14 i_16.2 i_17)) _ _ hP hD hS ls (lv_sub hl [0, 2, 3, 4, 1] rfl)
                  · have i_35 : y_31.toInt = y_34.toInt := kc_eq c_35
                    refine lv_aload_n hx hb dX5_others_101 rfl (lv_at hl 3 rfl) ?_
                    refine va_get (D := (dC, dI)) (ci := 5) (v := .ref g_voteNumber) (C := RX5) (T := TX5) (N := 30) hx hb hts hi_5 hown hK hP 0 rfl rfl 8 (by decide) hf_29 (fun _ h9 => h9) rfl dX5_others_102 ?_
                    refine lv_bipush (v := 6) hx hb dX5_others_105 (by decide) ?_
                    refine lv_iload_n hx hb dX5_others_107 rfl (lv_at hl 1 rfl) ?_
                    refine lv_imul hx hb dX5_others_108 ?_
                    refine lv_topi (fun y_38 ey_38 => ?_)
                    have i_38 : y_38.toInt = 6 * i.toInt := ki_mul ey_38 rfl rfl (om_247 LP1_h0) (om_547 w_1.2.2.2 LP1_h2)
                    refine lv_iload hx hb dX5_others_109 (lv_at hl 0 rfl) ?_
                    refine lv_iadd hx hb dX5_others_111 ?_
                    refine lv_topi (fun y_39 ey_39 => ?_)
                    have i_39 : y_39.toInt = y_38.toInt + j.toInt := ki_add ey_39 rfl rfl (om_251 LP1_h0 LP3_h0 i_38) (om_554 w_1.2.2.2 i_13 LP3_h2 i_38)
                    refine va_iald hx hb hK hP 6 0 rfl rfl (ki_in (om_253 LP1_h0 LP3_h0 i_38 i_39) (om_555 w_1.2.2.2 i_13 LP3_h2 i_38 i_39)) dX5_others_112 ?_
                    refine lv_topi (fun y_40 ey_40 => ?_)
                    have j_40 : y_40.toInt = (o_8 y_39.toNatClampNeg).toInt := congrArg Int32.toInt ey_40
                    refine lv_aload_n hx hb dX5_others_113 rfl (lv_at hl 3 rfl) ?_
                    refine va_get (D := (dC, dI)) (ci := 5) (v := .ref g_wasNumber) (C := RX5) (T := TX5) (N := 30) hx hb hts hi_5 hown hK hP 0 rfl rfl 20 (by decide) hf_56 (fun _ h9 => h9) rfl dX5_others_114 ?_
                    refine lv_bipush (v := 6) hx hb dX5_others_117 (by decide) ?_
                    refine lv_iload_n hx hb dX5_others_119 rfl (lv_at hl 1 rfl) ?_
                    refine lv_imul hx hb dX5_others_120 ?_
                    refine lv_topi (fun y_41 ey_41 => ?_)
                    have i_41 : y_41.toInt = 6 * i.toInt := ki_mul ey_41 rfl rfl (om_247 LP1_h0) (om_547 w_1.2.2.2 LP1_h2)
                    refine lv_iload hx hb dX5_others_121 (lv_at hl 0 rfl) ?_
                    refine lv_iadd hx hb dX5_others_123 ?_
                    refine lv_topi (fun y_42 ey_42 => ?_)
                    have i_42 : y_42.toInt = y_41.toInt + j.toInt := ki_add ey_42 rfl rfl (om_251 LP1_h0 LP3_h0 i_41) (om_554 w_1.2.2.2 i_13 LP3_h2 i_41)
                    refine va_iald hx hb hK hP 14 0 rfl rfl (ki_in (om_253 LP1_h0 LP3_h0 i_41 i_42) (om_556 w_1.2.2.2 i_13 LP3_h2 i_41 i_42)) dX5_others_124 ?_
                    refine lv_topi (fun y_43 ey_43 => ?_)
                    have j_43 : y_43.toInt = (wn y_42.toNatClampNeg).toInt := congrArg Int32.toInt ey_43
                    refine lv_icmp_ne (tgt := 132) hx hb dX5_others_125 (by decide) (fun c_44 => ?_) (fun c_44 => ?_)
                    · have i_44 : ¬ y_40.toInt = y_43.toInt := kc_ne c_44
                      refine lv_iconst (v := 0) hx hb dX5_others_132 (by decide) ?_
                      refine lv_istore_n (lv' := [(3, .int 0), (4, .int j), (2, .int i), (1, .int sm), (0, .ref h0)]) hx hb dX5_others_133 rfl hl (by decide) rfl (fun ls hl => ?_)
                      obtain ⟨x_45, ex_45⟩ : ∃ y : Int32, y = j + 1 := ⟨_, rfl⟩
                      have i_45 : x_45.toInt = j.toInt + 1 := ki_add ex_45 rfl rfl (om_13 LP3_h0) (om_203 LP3_h2)
                      refine lv_iinc (v := x_45) (lv' := [(4, .int x_45), (3, .int 0), (2, .int i), (1, .int sm), (0, .ref h0)]) hx hb dX5_others_134 hl (k := 1) rfl (by rw [ex_45]; rfl) (by decide) rfl (fun ls hl => ?_)
                      refine lv_goto (tgt := 59) hx hb dX5_others_137 (by decide) ?_
                      have k_46 : (0 : Int32).toInt = 0 := rfl
                      exact ih3 x_45 0 (om_34 LP3_h0 i_45) (mj_io_n (mj_oj_n c_44 ey_40 ey_43 (mj_ix6 i_39 i_38 LP1_h0 LP3_h0) (mj_ix6 i_42 i_41 LP1_h0 LP3_h0) (mj_clt (Int.lt_of_lt_of_le i_17 (Int.le_of_eq j_14)) LP3_h0))) (om_557 j_14 i_16.2 i_17 i_45) (om_mu hn3 (om_102 i_45) (om_103 j_14 i_16.2 i_17)) _ _ hP hD hS ls (lv_sub hl [0, 2, 3, 4, 1] rfl)
                    · have i_44 : y_40.toInt = y_43.toInt := kc_eq c_44
                      refine lv_iconst (v := 1) hx hb dX5_others_128 (by decide) ?_
                      refine lv_goto (tgt := 133) hx hb dX5_others_129 (by decide) ?_
                      refine lv_istore_n (lv' := [(3, .int 1), (4, .int j), (2, .int i), (1, .int sm), (0, .ref h0)]) hx hb dX5_others_133 rfl hl (by decide) rfl (fun ls hl => ?_)
                      obtain ⟨x_47, ex_47⟩ : ∃ y : Int32, y = j + 1 := ⟨_, rfl⟩
                      have i_47 : x_47.toInt = j.toInt + 1 := ki_add ex_47 rfl rfl (om_13 LP3_h0) (om_203 LP3_h2)
                      refine lv_iinc (v := x_47) (lv' := [(4, .int x_47), (3, .int 1), (2, .int i), (1, .int sm), (0, .ref h0)]) hx hb dX5_others_134 hl (k := 1) rfl (by rw [ex_47]; rfl) (by decide) rfl (fun ls hl => ?_)
                      refine lv_goto (tgt := 59) hx hb dX5_others_137 (by decide) ?_
                      have k_48 : (1 : Int32).toInt = 1 := rfl
                      exact ih3 x_47 1 (om_34 LP3_h0 i_47) (mj_io_y (mj_oj_go (mj_io_yes LP3_h1 i_23) (mj_c1 i_47 LP3_h0) c_35 ey_31 ey_34 (mj_ix6 i_30 i_29 LP1_h0 LP3_h0) (mj_ix6 i_33 i_32 LP1_h0 LP3_h0) c_44 ey_40 ey_43 (mj_ix6 i_39 i_38 LP1_h0 LP3_h0) (mj_ix6 i_42 i_41 LP1_h0 LP3_h0))) (om_557 j_14 i_16.2 i_17 i_47) (om_mu hn3 (om_102 i_47) (om_103 j_14 i_16.2 i_17)) _ _ hP hD hS ls (lv_sub hl [0, 2, 3, 4, 1] rfl)
          have k_49 : (0 : Int32).toInt = 0 := rfl
          exact LP3 ((6 - 0 : Int).toNat + 1) 0 is0 om_35 (mj_io_map JN2_h0 (fun g => ⟨g.1, g.2, fun m hm => absurd hm (Nat.not_lt_zero m)⟩)) om_368 (Nat.lt_succ_self _) _ _ hP hD hS ls (lv_sub hl [0, 1, 2, 3, 4] rfl)
        refine lv_aload_n hx hb dX5_others_20 rfl (lv_at hl 2 rfl) ?_
        refine va_get (D := (dC, dI)) (ci := 5) (v := .ref g_many) (C := RX5) (T := TX5) (N := 30) hx hb hts hi_5 hown hK hP 0 rfl rfl 4 (by decide) hf_17 (fun _ h9 => h9) rfl dX5_others_21 ?_
        refine lv_iload_n hx hb dX5_others_24 rfl (lv_at hl 0 rfl) ?_
        refine va_iald hx hb hK hP 2 0 rfl rfl (ki_in (om_10 LP1_h0) (om_545 w_1.2.2.2 LP1_h2)) dX5_others_25 ?_
        refine lv_topi (fun y_50 ey_50 => ?_)
        have j_50 : y_50.toInt = (o_4 i.toNatClampNeg).toInt := congrArg Int32.toInt ey_50
        have n_51 : (i.toNatClampNeg : Int) = i.toInt := ki_nat _ rfl (om_10 LP1_h0)
        have i_52 := w_1.2.1 i.toNatClampNeg (om_ln n_51 (om_545 w_1.2.2.2 LP1_h2))
        refine lv_aload_n hx hb dX5_others_26 rfl (lv_at hl 2 rfl) ?_
        refine va_get (D := (dC, dI)) (ci := 5) (v := .ref g_wasMany) (C := RX5) (T := TX5) (N := 30) hx hb hts hi_5 hown hK hP 0 rfl rfl 17 (by decide) hf_47 (fun _ h9 => h9) rfl dX5_others_27 ?_
        refine lv_iload_n hx hb dX5_others_30 rfl (lv_at hl 0 rfl) ?_
        refine va_iald hx hb hK hP 11 0 rfl rfl (ki_in (om_10 LP1_h0) (om_369 w_1.2.2.2 LP1_h2)) dX5_others_31 ?_
        refine lv_topi (fun y_53 ey_53 => ?_)
        have j_53 : y_53.toInt = (wm i.toNatClampNeg).toInt := congrArg Int32.toInt ey_53
        refine lv_icmp_ne (tgt := 54) hx hb dX5_others_32 (by decide) (fun c_54 => ?_) (fun c_54 => ?_)
        · have i_54 : ¬ y_50.toInt = y_53.toInt := kc_ne c_54
          refine lv_iconst (v := 0) hx hb dX5_others_54 (by decide) ?_
          refine lv_istore_n (lv' := [(3, .int 0), (2, .int i), (1, .int sm), (0, .ref h0)]) hx hb dX5_others_55 rfl hl (by decide) rfl (fun ls hl => ?_)
          have k_55 : (0 : Int32).toInt = 0 := rfl
          exact JN2 0 (mj_io_n (mj_oj_a c_54 ey_50 ey_53)) _ _ hP hD hS ls (lv_sub hl [1, 2, 3, 0] rfl)
        · have i_54 : y_50.toInt = y_53.toInt := kc_eq c_54
          refine lv_aload_n hx hb dX5_others_35 rfl (lv_at hl 2 rfl) ?_
          refine va_get (D := (dC, dI)) (ci := 5) (v := .ref g_loss) (C := RX5) (T := TX5) (N := 30) hx hb hts hi_5 hown hK hP 0 rfl rfl 5 (by decide) hf_20 (fun _ h9 => h9) rfl dX5_others_36 ?_
          refine lv_iload_n hx hb dX5_others_39 rfl (lv_at hl 0 rfl) ?_
          refine va_iald hx hb hK hP 3 0 rfl rfl (ki_in (om_10 LP1_h0) (om_545 w_1.2.2.2 LP1_h2)) dX5_others_40 ?_
          refine lv_topi (fun y_56 ey_56 => ?_)
          have j_56 : y_56.toInt = (o_5 i.toNatClampNeg).toInt := congrArg Int32.toInt ey_56
          refine lv_aload_n hx hb dX5_others_41 rfl (lv_at hl 2 rfl) ?_
          refine va_get (D := (dC, dI)) (ci := 5) (v := .ref g_wasLoss) (C := RX5) (T := TX5) (N := 30) hx hb hts hi_5 hown hK hP 0 rfl rfl 18 (by decide) hf_50 (fun _ h9 => h9) rfl dX5_others_42 ?_
          refine lv_iload_n hx hb dX5_others_45 rfl (lv_at hl 0 rfl) ?_
          refine va_iald hx hb hK hP 12 0 rfl rfl (ki_in (om_10 LP1_h0) (om_369 w_1.2.2.2 LP1_h2)) dX5_others_46 ?_
          refine lv_topi (fun y_57 ey_57 => ?_)
          have j_57 : y_57.toInt = (wl i.toNatClampNeg).toInt := congrArg Int32.toInt ey_57
          refine lv_icmp_ne (tgt := 54) hx hb dX5_others_47 (by decide) (fun c_58 => ?_) (fun c_58 => ?_)
          · have i_58 : ¬ y_56.toInt = y_57.toInt := kc_ne c_58
            refine lv_iconst (v := 0) hx hb dX5_others_54 (by decide) ?_
            refine lv_istore_n (lv' := [(3, .int 0), (2, .int i), (1, .int sm), (0, .ref h0)]) hx hb dX5_others_55 rfl hl (by decide) rfl (fun ls hl => ?_)
            have k_59 : (0 : Int32).toInt = 0 := rfl
            exact JN2 0 (mj_io_n (mj_oj_b c_58 ey_56 ey_57)) _ _ hP hD hS ls (lv_sub hl [1, 2, 3, 0] rfl)
          · have i_58 : y_56.toInt = y_57.toInt := kc_eq c_58
            refine lv_iconst (v := 1) hx hb dX5_others_50 (by decide) ?_
            refine lv_goto (tgt := 55) hx hb dX5_others_51 (by decide) ?_
            refine lv_istore_n (lv' := [(3, .int 1), (2, .int i), (1, .int sm), (0, .ref h0)]) hx hb dX5_others_55 rfl hl (by decide) rfl (fun ls hl => ?_)
            have k_60 : (1 : Int32).toInt = 1 := rfl
            exact JN2 1 (mj_io_y ⟨ey_50.symm.trans (c_54.trans ey_53), ey_56.symm.trans (c_58.trans ey_57)⟩) _ _ hP hD hS ls (lv_sub hl [1, 2, 3, 0] rfl)
  have k_61 : (0 : Int32).toInt = 0 := rfl
  have k_62 : (0 : Int32).toInt = 0 := rfl
  exact LP1 ((o_2.toInt - 0 : Int).toNat + 1) 0 0 om_35 mj_dn_z (om_10 w_1.2.2.1) (Nat.lt_succ_self _) _ _ hP hD hS ls (lv_sub hl [0, 1, 2] rfl)


