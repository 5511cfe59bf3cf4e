def shorts (f : Nat → Int32) : Prop := ∀ k : Nat, k < 160 → -32768 ≤ (f k).toInt ∧ (f k).toInt ≤ 32767
theorem shorts_upd {f : Nat → Int32} {k : Nat} {x : Int32} (h : shorts f) (h1 : -32768 ≤ x.toInt) (h2 : x.toInt ≤ 32767) : shorts (upd f k x) := by
  intro j hj
  unfold upd
  split
  · exact ⟨h1, h2⟩
  · exact h j hj
def shR (f : Nat → Int32) (n i : Nat) : Nat → Int32 := fun k => if i < k ∧ k ≤ n then f (k - 1) else f k
theorem shR_self (f : Nat → Int32) (n : Nat) : shR f n n = f := by
  funext k
  unfold shR
  rw [if_neg (by omega)]
theorem shR_step {f : Nat → Int32} {n i j j2 : Nat} (hi : i ≤ n) (hj : j + 1 = i) (h2 : j2 = j) : upd (shR f n i) i (shR f n i j) = shR f n j2 := by
  subst h2
  funext k
  unfold upd shR
  by_cases h : k = i
  · subst h
    rw [if_pos rfl, if_neg (by omega), if_pos (by omega)]
    congr 1
    omega
  · rw [if_neg h]
    by_cases h2 : i < k ∧ k ≤ n
    · rw [if_pos h2, if_pos (by omega)]
    · rw [if_neg h2, if_neg (by omega)]
def shL (f : Nat → Int32) (p i : Nat) : Nat → Int32 := fun k => if p ≤ k ∧ k < i then f (k + 1) else f k
theorem shL_self (f : Nat → Int32) (p : Nat) : shL f p p = f := by
  funext k
  unfold shL
  rw [if_neg (by omega)]
theorem shL_step {f : Nat → Int32} {p i j : Nat} (hp : p ≤ i) (hj : j = i + 1) : upd (shL f p i) i (shL f p i j) = shL f p j := by
  funext k
  unfold upd shL
  by_cases h : k = i
  · subst h
    rw [if_pos rfl, if_neg (by omega), if_pos (by omega)]
    subst hj
    rfl
  · rw [if_neg h]
    by_cases h2 : p ≤ k ∧ k < i
    · rw [if_pos h2, if_pos (by omega)]
    · rw [if_neg h2, if_neg (by omega)]

set_option maxHeartbeats 4000000 in
set_option maxRecDepth 100000 in
theorem c_X0_hasPlace (l : Launch) (dC : Nat → ClassId) (dI : Nat → Nat → Nat) (h0 : Nat) (h1 : Nat) (len : Int32) (p0 : Int32) : Met l yX0_hasPlace wsX0_hasPlace ({ frames := 0, cells := 0, slots := 0, locals := 0 }) (va_Pc [.ref h0, .int p0] (fun U => va_P (dC, dI) vwCl [kx_0 h0 h1 len] U.heap ∧ va_K (dC, dI) vwCl [] U)) (vp_Si (fun r : Int32 => (r = 1 ∧ (0 ≤ p0.toInt ∧ p0.toInt < len.toInt)) ∨ (r = 0 ∧ (p0.toInt < 0 ∨ len.toInt ≤ p0.toInt)))) 0 0 (fun _ => False) := by
  refine Met.ofW (cc := cX0_hasPlace) (maxL := 2) (ret := (some .boolean)) (by decide) rfl ?_
  intro p e s m args below meth c s₁ B hml hv
  obtain ⟨rfl, hP, hK⟩ := hv
  have hx := B.exec
  have hb := B.bytes
  have hr := B.returns
  have hts := atoms_spec (ws := wsX0_hasPlace) B.pre
  have hown : s.vm.findClass RX0 = some m.cls := findClass_of_methodNamed B.named
  have hlocks := B.notSynchronized
  have hP : va_P (dC, dI) vwCl [kx_0 h0 h1 len] s.heap := hP
  have hl := lv_entry ([.ref h0, .int p0]) (n := 2) (Nat.le_of_ble_eq_true rfl)
  rw [lg_entry_eq]
  generalize (lg_sl ([.ref h0, .int p0]) ++ List.replicate (2 - (lg_sl ([.ref h0, .int p0])).length) Slot.unset).toArray = ls at hl ⊢
  have hl : lv_has ls 2 [(0, .ref h0), (1, .int p0)] := hl
  have hf_15 := hts (.fieldLink RX0 15 "MajorityIndex$Row" "length" "I") (List.mem_of_getElem? (i := 1) rfl)
  have hi_0 : ∀ w ∈ u_ws RX0 TX0 2, w ∈ wsX0_hasPlace := fun w h => List.mem_cons_of_mem _ (List.mem_append_right _ h)
  refine lv_iload_n hx hb dX0_hasPlace_0 rfl (lv_at hl 1 rfl) ?_
  refine lv_if_lt (tgt := 16) hx hb dX0_hasPlace_1 (by decide) (fun c_1 => ?_) (fun c_1 => ?_)
  · have i_1 : p0.toInt < 0 := kc_lt c_1
    refine lv_iconst (v := 0) hx hb dX0_hasPlace_16 (by decide) ?_
    exact W.zret (v := 0) hx hb hr (by decide) (fun t ht hW => ⟨0, rfl, Or.inr (⟨rfl, by omega⟩), ht⟩) (fun q hq => by cases hq) dX0_hasPlace_17
  · have i_1 : 0 ≤ p0.toInt := kc_nlt c_1
    refine lv_iload_n hx hb dX0_hasPlace_4 rfl (lv_at hl 1 rfl) ?_
    refine lv_aload_n hx hb dX0_hasPlace_5 rfl (lv_at hl 0 rfl) ?_
    refine va_get (D := (dC, dI)) (ci := 0) (v := .int len) (C := RX0) (T := TX0) (N := 2) hx hb hts hi_0 hown hK hP 0 rfl rfl 1 (by decide) hf_15 (fun _ h9 => h9) rfl dX0_hasPlace_6 ?_
    refine lv_icmp_ge (tgt := 16) hx hb dX0_hasPlace_9 (by decide) (fun c_2 => ?_) (fun c_2 => ?_)
    · have i_2 : len.toInt ≤ p0.toInt := kc_le c_2
      refine lv_iconst (v := 0) hx hb dX0_hasPlace_16 (by decide) ?_
      exact W.zret (v := 0) hx hb hr (by decide) (fun t ht hW => ⟨0, rfl, Or.inr (⟨rfl, by omega⟩), ht⟩) (fun q hq => by cases hq) dX0_hasPlace_17
    · have i_2 : p0.toInt < len.toInt := kc_nle c_2
      refine lv_iconst (v := 1) hx hb dX0_hasPlace_12 (by decide) ?_
      refine lv_goto (tgt := 17) hx hb dX0_hasPlace_13 (by decide) ?_
      exact W.zret (v := 1) hx hb hr (by decide) (fun t ht hW => ⟨1, rfl, Or.inl ⟨rfl, by omega⟩, ht⟩) (fun q hq => by cases hq) dX0_hasPlace_17

set_option maxHeartbeats 4000000 in
set_option maxRecDepth 100000 in
theorem c_X0_hasRange (l : Launch) (dC : Nat → ClassId) (dI : Nat → Nat → Nat) (h0 : Nat) (h1 : Nat) (len : Int32) (p0 : Int32) (p1 : Int32) : Met l yX0_hasRange wsX0_hasRange ({ frames := 0, cells := 0, slots := 0, locals := 0 }) (va_Pc [.ref h0, .int p0, .int p1] (fun U => va_P (dC, dI) vwCl [kx_0 h0 h1 len] U.heap ∧ va_K (dC, dI) vwCl [] U)) (vp_Si (fun r : Int32 => (r = 1 ∧ (0 ≤ p0.toInt ∧ p0.toInt < p1.toInt ∧ p1.toInt ≤ len.toInt)) ∨ (r = 0 ∧ (p0.toInt < 0 ∨ p1.toInt ≤ p0.toInt ∨ len.toInt < p1.toInt)))) 0 0 (fun _ => False) := by
  refine Met.ofW (cc := cX0_hasRange) (maxL := 3) (ret := (some .boolean)) (by decide) rfl ?_
  intro p e s m args below meth c s₁ B hml hv
  obtain ⟨rfl, hP, hK⟩ := hv
  have hx := B.exec
  have hb := B.bytes
  have hr := B.returns
  have hts := atoms_spec (ws := wsX0_hasRange) B.pre
  have hown : s.vm.findClass RX0 = some m.cls := findClass_of_methodNamed B.named
  have hlocks := B.notSynchronized
  have hP : va_P (dC, dI) vwCl [kx_0 h0 h1 len] s.heap := hP
  have hl := lv_entry ([.ref h0, .int p0, .int p1]) (n := 3) (Nat.le_of_ble_eq_true rfl)
  rw [lg_entry_eq]
  generalize (lg_sl ([.ref h0, .int p0, .int p1]) ++ List.replicate (3 - (lg_sl ([.ref h0, .int p0, .int p1])).length) Slot.unset).toArray = ls at hl ⊢
  have hl : lv_has ls 3 [(0, .ref h0), (1, .int p0), (2, .int p1)] := hl
  have hf_15 := hts (.fieldLink RX0 15 "MajorityIndex$Row" "length" "I") (List.mem_of_getElem? (i := 1) rfl)
  have hi_0 : ∀ w ∈ u_ws RX0 TX0 2, w ∈ wsX0_hasRange := fun w h => List.mem_cons_of_mem _ (List.mem_append_right _ h)
  refine lv_iload_n hx hb dX0_hasRange_0 rfl (lv_at hl 1 rfl) ?_
  refine lv_if_lt (tgt := 21) hx hb dX0_hasRange_1 (by decide) (fun c_1 => ?_) (fun c_1 => ?_)
  · have i_1 : p0.toInt < 0 := kc_lt c_1
    refine lv_iconst (v := 0) hx hb dX0_hasRange_21 (by decide) ?_
    exact W.zret (v := 0) hx hb hr (by decide) (fun t ht hW => ⟨0, rfl, Or.inr (⟨rfl, by omega⟩), ht⟩) (fun q hq => by cases hq) dX0_hasRange_22
  · have i_1 : 0 ≤ p0.toInt := kc_nlt c_1
    refine lv_iload_n hx hb dX0_hasRange_4 rfl (lv_at hl 1 rfl) ?_
    refine lv_iload_n hx hb dX0_hasRange_5 rfl (lv_at hl 2 rfl) ?_
    refine lv_icmp_ge (tgt := 21) hx hb dX0_hasRange_6 (by decide) (fun c_2 => ?_) (fun c_2 => ?_)
    · have i_2 : p1.toInt ≤ p0.toInt := kc_le c_2
      refine lv_iconst (v := 0) hx hb dX0_hasRange_21 (by decide) ?_
      exact W.zret (v := 0) hx hb hr (by decide) (fun t ht hW => ⟨0, rfl, Or.inr (⟨rfl, by omega⟩), ht⟩) (fun q hq => by cases hq) dX0_hasRange_22
    · have i_2 : p0.toInt < p1.toInt := kc_nle c_2
      refine lv_iload_n hx hb dX0_hasRange_9 rfl (lv_at hl 2 rfl) ?_
      refine lv_aload_n hx hb dX0_hasRange_10 rfl (lv_at hl 0 rfl) ?_
      refine va_get (D := (dC, dI)) (ci := 0) (v := .int len) (C := RX0) (T := TX0) (N := 2) hx hb hts hi_0 hown hK hP 0 rfl rfl 1 (by decide) hf_15 (fun _ h9 => h9) rfl dX0_hasRange_11 ?_
      refine lv_icmp_gt (tgt := 21) hx hb dX0_hasRange_14 (by decide) (fun c_3 => ?_) (fun c_3 => ?_)
      · have i_3 : len.toInt < p1.toInt := kc_lt c_3
        refine lv_iconst (v := 0) hx hb dX0_hasRange_21 (by decide) ?_
        exact W.zret (v := 0) hx hb hr (by decide) (fun t ht hW => ⟨0, rfl, Or.inr (⟨rfl, by omega⟩), ht⟩) (fun q hq => by cases hq) dX0_hasRange_22
      · have i_3 : p1.toInt ≤ len.toInt := kc_nlt c_3
        refine lv_iconst (v := 1) hx hb dX0_hasRange_17 (by decide) ?_
        refine lv_goto (tgt := 22) hx hb dX0_hasRange_18 (by decide) ?_
        exact W.zret (v := 1) hx hb hr (by decide) (fun t ht hW => ⟨1, rfl, Or.inl ⟨rfl, by omega⟩, ht⟩) (fun q hq => by cases hq) dX0_hasRange_22

set_option maxHeartbeats 4000000 in
set_option maxRecDepth 100000 in
theorem c_X0_append (l : Launch) (dC : Nat → ClassId) (dI : Nat → Nat → Nat) (h0 : Nat) (h1 : Nat) (cyI : ClassId) (len : Int32) (f : Nat → Int32) (p0 : Int32) (sz : Nat) (a0 : 0 ≤ len.toInt) (a1 : len.toInt < 160) : Met l yX0_append wsX0_append ({ frames := 0, cells := 0, slots := 0, locals := 0 }) (va_Pc [.ref h0, .int p0] (fun U => U.heap.size = sz ∧ va_P (dC, dI) vwCl [kx_0 h0 h1 len, kx_a h1 cyI 160 f] U.heap ∧ va_K (dC, dI) vwCl [(cyI, .int)] U ∧ va_D (fun _ => True) [kx_0 h0 h1 len, kx_a h1 cyI 160 f])) (va_Qv (fun u : Int32 => u.toInt = len.toInt + 1) (fun (u : Int32) (t : State) => va_P (dC, dI) vwCl [kx_0 h0 h1 u, kx_a h1 cyI 160 (upd f len.toNatClampNeg p0)] t.heap ∧ va_K (dC, dI) vwCl [(cyI, .int)] t ∧ va_D (va_A [kx_0 h0 h1 len, kx_a h1 cyI 160 f] sz) [kx_0 h0 h1 u, kx_a h1 cyI 160 (upd f len.toNatClampNeg p0)]) (va_A [kx_0 h0 h1 len, kx_a h1 cyI 160 f] sz)) 0 0 (va_A [kx_0 h0 h1 len, kx_a h1 cyI 160 f] sz) := by
  refine Met.ofW (cc := cX0_append) (maxL := 2) (ret := none) (by decide) rfl ?_
  intro p e s m args below meth c s₁ B hml hv
  obtain ⟨rfl, hsz, hP, hK, hD0⟩ := hv
  have hx := B.exec
  have hb := B.bytes
  have hr := B.returns
  have hts := atoms_spec (ws := wsX0_append) B.pre
  have hown : s.vm.findClass RX0 = some m.cls := findClass_of_methodNamed B.named
  have hlocks := B.notSynchronized
  subst hsz
  have hD := hD0.self (sz := s.heap.size)
  generalize hAe : va_A [kx_0 h0 h1 len, kx_a h1 cyI 160 f] s.heap.size = A at hD ⊢
  have hA : ∀ q : Nat, s.heap.size ≤ q → A q := fun q h => by rw [← hAe]; exact Or.inr h
  have hS : va_S A s.heap s.heap [] := va_S.rf
  have hP : va_P (dC, dI) vwCl [kx_0 h0 h1 len, kx_a h1 cyI 160 f] s.heap := hP
  have hl := lv_entry ([.ref h0, .int p0]) (n := 2) (Nat.le_of_ble_eq_true rfl)
  rw [lg_entry_eq]
  generalize (lg_sl ([.ref h0, .int p0]) ++ List.replicate (2 - (lg_sl ([.ref h0, .int p0])).length) Slot.unset).toArray = ls at hl ⊢
  have hl : lv_has ls 2 [(0, .ref h0), (1, .int p0)] := hl
  have hf_15 := hts (.fieldLink RX0 15 "MajorityIndex$Row" "length" "I") (List.mem_of_getElem? (i := 1) rfl)
  have hi_0 : ∀ w ∈ u_ws RX0 TX0 2, w ∈ wsX0_append := fun w h => List.mem_cons_of_mem _ (List.mem_append_right _ h)
  have hf_9 := hts (.fieldLink RX0 9 "MajorityIndex$Row" "cell" "[I") (List.mem_of_getElem? (i := 2) rfl)
  refine lv_aload_n hx hb dX0_append_0 rfl (lv_at hl 0 rfl) ?_
  refine va_get (D := (dC, dI)) (ci := 0) (v := .int len) (C := RX0) (T := TX0) (N := 2) hx hb hts hi_0 hown hK hP 0 rfl rfl 1 (by decide) hf_15 (fun _ h9 => h9) rfl dX0_append_1 ?_
  refine lv_sipush (v := 160) hx hb dX0_append_4 (by decide) ?_
  refine lv_icmp_ge (tgt := 30) hx hb dX0_append_7 (by decide) (fun c_1 => ?_) (fun c_1 => ?_)
  · have i_1 : 160 ≤ len.toInt := kc_le c_1
    exfalso; omega
  · have i_1 : len.toInt < 160 := kc_nle c_1
    refine lv_aload_n hx hb dX0_append_10 rfl (lv_at hl 0 rfl) ?_
    refine va_get (D := (dC, dI)) (ci := 0) (v := .ref h1) (C := RX0) (T := TX0) (N := 2) hx hb hts hi_0 hown hK hP 0 rfl rfl 0 (by decide) hf_9 (fun _ h9 => h9) rfl dX0_append_11 ?_
    refine lv_aload_n hx hb dX0_append_14 rfl (lv_at hl 0 rfl) ?_
    refine va_get (D := (dC, dI)) (ci := 0) (v := .int len) (C := RX0) (T := TX0) (N := 2) hx hb hts hi_0 hown hK hP 0 rfl rfl 1 (by decide) hf_15 (fun _ h9 => h9) rfl dX0_append_15 ?_
    refine lv_iload_n hx hb dX0_append_18 rfl (lv_at hl 1 rfl) ?_
    refine va_iast hx hb hK hP hD hS 1 0 rfl rfl (ki_in (om_8 a0) (om_9 a1)) dX0_append_19 (fun H locs hP hD hS => ?_)
    have hP : va_P (dC, dI) vwCl [kx_0 h0 h1 len, kx_a h1 cyI 160 (upd f len.toNatClampNeg p0)] H := hP
    have hD : va_D A [kx_0 h0 h1 len, kx_a h1 cyI 160 (upd f len.toNatClampNeg p0)] := hD
    refine lv_aload_n hx hb dX0_append_20 rfl (lv_at hl 0 rfl) ?_
    refine lv_dup hx hb dX0_append_21 rfl ?_
    refine va_get (D := (dC, dI)) (ci := 0) (v := .int len) (C := RX0) (T := TX0) (N := 2) hx hb hts hi_0 hown hK hP 0 rfl rfl 1 (by decide) hf_15 (fun _ h9 => h9) rfl dX0_append_22 ?_
    refine lv_iconst (v := 1) hx hb dX0_append_25 (by decide) ?_
    refine lv_iadd hx hb dX0_append_26 ?_
    refine lv_topi (fun y_2 ey_2 => ?_)
    have i_2 : y_2.toInt = len.toInt + 1 := ki_add ey_2 rfl rfl (om_10 a0) (om_11 a1)
    refine va_put (D := (dC, dI)) (ci := 0) (v := .int y_2) (ty := .int) (C := RX0) (T := TX0) (N := 2) hx hb hts hi_0 tyX0 tyX0_ok nmX0 hown hK hP hD hS 0 rfl rfl 1 (by decide) hf_15 (fun _ h9 => h9) rfl (by decide +kernel) rfl rfl (Nat.le_of_ble_eq_true rfl) dX0_append_27 (fun H locs hP hD hS => ?_)
    have hP : va_P (dC, dI) vwCl [kx_0 h0 h1 y_2, kx_a h1 cyI 160 (upd f len.toNatClampNeg p0)] H := hP
    have hD : va_D A [kx_0 h0 h1 y_2, kx_a h1 cyI 160 (upd f len.toNatClampNeg p0)] := hD
    have hP9 := hP
    have hD9 := hD
    have hK9 := hK
    exact W.vret hx hb hr (fun t ht hW => ⟨⟨(y_2), rfl, (by (try dsimp only); omega), by rw [ht]; exact hP9, va_K.moved hW.alike hK9, hD9⟩, hS.F ht⟩) hS.2.2 dX0_append_30

set_option maxHeartbeats 4000000 in
set_option maxRecDepth 100000 in
theorem c_X0_putIn (l : Launch) (dC : Nat → ClassId) (dI : Nat → Nat → Nat) (h0 : Nat) (h1 : Nat) (cyI : ClassId) (len : Int32) (f : Nat → Int32) (p0 : Int32) (p1 : Int32) (sz : Nat) (a0 : 0 ≤ p0.toInt) (a1 : p0.toInt ≤ len.toInt) (a2 : len.toInt < 160) : Met l yX0_putIn wsX0_putIn ({ frames := 0, cells := 0, slots := 0, locals := 0 }) (va_Pc [.ref h0, .int p0, .int p1] (fun U => U.heap.size = sz ∧ va_P (dC, dI) vwCl [kx_0 h0 h1 len, kx_a h1 cyI 160 f] U.heap ∧ va_K (dC, dI) vwCl [(cyI, .int)] U ∧ va_D (fun _ => True) [kx_0 h0 h1 len, kx_a h1 cyI 160 f])) (va_Qv (fun u : Int32 × (Nat → Int32) => u.1.toInt = len.toInt + 1 ∧ u.2 = upd (shR f len.toNatClampNeg p0.toNatClampNeg) p0.toNatClampNeg p1) (fun (u : Int32 × (Nat → Int32)) (t : State) => va_P (dC, dI) vwCl [kx_0 h0 h1 u.1, kx_a h1 cyI 160 u.2] t.heap ∧ va_K (dC, dI) vwCl [(cyI, .int)] t ∧ va_D (va_A [kx_0 h0 h1 len, kx_a h1 cyI 160 f] sz) [kx_0 h0 h1 u.1, kx_a h1 cyI 160 u.2]) (va_A [kx_0 h0 h1 len, kx_a h1 cyI 160 f] sz)) 0 0 (va_A [kx_0 h0 h1 len, kx_a h1 cyI 160 f] sz) := by
  refine Met.ofW (cc := cX0_putIn) (maxL := 4) (ret := none) (by decide) rfl ?_
  intro p e s m args below meth c s₁ B hml hv
  obtain ⟨rfl, hsz, hP, hK, hD0⟩ := hv
  have hx := B.exec
  have hb := B.bytes
  have hr := B.returns
  have hts := atoms_spec (ws := wsX0_putIn) B.pre
  have hown : s.vm.findClass RX0 = some m.cls := findClass_of_methodNamed B.named
  have hlocks := B.notSynchronized
  subst hsz
  have hD := hD0.self (sz := s.heap.size)
  generalize hAe : va_A [kx_0 h0 h1 len, kx_a h1 cyI 160 f] s.heap.size = A at hD ⊢
  have hA : ∀ q : Nat, s.heap.size ≤ q → A q := fun q h => by rw [← hAe]; exact Or.inr h
  have hS : va_S A s.heap s.heap [] := va_S.rf
  have hP : va_P (dC, dI) vwCl [kx_0 h0 h1 len, kx_a h1 cyI 160 f] s.heap := hP
  have hl := lv_entry ([.ref h0, .int p0, .int p1]) (n := 4) (Nat.le_of_ble_eq_true rfl)
  rw [lg_entry_eq]
  generalize (lg_sl ([.ref h0, .int p0, .int p1]) ++ List.replicate (4 - (lg_sl ([.ref h0, .int p0, .int p1])).length) Slot.unset).toArray = ls at hl ⊢
  have hl : lv_has ls 4 [(0, .ref h0), (1, .int p0), (2, .int p1)] := hl
  have hf_15 := hts (.fieldLink RX0 15 "MajorityIndex$Row" "length" "I") (List.mem_of_getElem? (i := 1) rfl)
  have hi_0 : ∀ w ∈ u_ws RX0 TX0 2, w ∈ wsX0_putIn := fun w h => List.mem_cons_of_mem _ (List.mem_append_right _ h)
  have hf_9 := hts (.fieldLink RX0 9 "MajorityIndex$Row" "cell" "[I") (List.mem_of_getElem? (i := 2) rfl)
  refine lv_iload_n hx hb dX0_putIn_0 rfl (lv_at hl 1 rfl) ?_
  refine lv_if_lt (tgt := 22) hx hb dX0_putIn_1 (by decide) (fun c_1 => ?_) (fun c_1 => ?_)
  · have i_1 : p0.toInt < 0 := kc_lt c_1
    exfalso; omega
  · have i_1 : 0 ≤ p0.toInt := kc_nlt c_1
    refine lv_iload_n hx hb dX0_putIn_4 rfl (lv_at hl 1 rfl) ?_
    refine lv_aload_n hx hb dX0_putIn_5 rfl (lv_at hl 0 rfl) ?_
    refine va_get (D := (dC, dI)) (ci := 0) (v := .int len) (C := RX0) (T := TX0) (N := 2) hx hb hts hi_0 hown hK hP 0 rfl rfl 1 (by decide) hf_15 (fun _ h9 => h9) rfl dX0_putIn_6 ?_
    refine lv_icmp_gt (tgt := 22) hx hb dX0_putIn_9 (by decide) (fun c_2 => ?_) (fun c_2 => ?_)
    · have i_2 : len.toInt < p0.toInt := kc_lt c_2
      exfalso; omega
    · have i_2 : p0.toInt ≤ len.toInt := kc_nlt c_2
      refine lv_aload_n hx hb dX0_putIn_12 rfl (lv_at hl 0 rfl) ?_
      refine va_get (D := (dC, dI)) (ci := 0) (v := .int len) (C := RX0) (T := TX0) (N := 2) hx hb hts hi_0 hown hK hP 0 rfl rfl 1 (by decide) hf_15 (fun _ h9 => h9) rfl dX0_putIn_13 ?_
      refine lv_sipush (v := 160) hx hb dX0_putIn_16 (by decide) ?_
      refine lv_icmp_lt (tgt := 23) hx hb dX0_putIn_19 (by decide) (fun c_3 => ?_) (fun c_3 => ?_)
      · have i_3 : len.toInt < 160 := kc_lt c_3
        refine lv_aload_n hx hb dX0_putIn_23 rfl (lv_at hl 0 rfl) ?_
        refine va_get (D := (dC, dI)) (ci := 0) (v := .int len) (C := RX0) (T := TX0) (N := 2) hx hb hts hi_0 hown hK hP 0 rfl rfl 1 (by decide) hf_15 (fun _ h9 => h9) rfl dX0_putIn_24 ?_
        refine lv_istore_n (lv' := [(3, .int len), (0, .ref h0), (1, .int p0), (2, .int p1)]) hx hb dX0_putIn_27 rfl hl (by decide) rfl (fun ls hl => ?_)
        have LP1 : ∀ (n : Nat) (i : Int32) (fc : Nat → Int32), (p0.toInt ≤ i.toInt) → (i.toInt ≤ len.toInt) → (fc = shR f len.toNatClampNeg i.toNatClampNeg) → (i.toInt).toNat < n → ∀ (H : Heap) (locs : List Loc), va_P (dC, dI) vwCl [kx_0 h0 h1 len, kx_a h1 cyI 160 fc] H → va_D A [kx_0 h0 h1 len, kx_a h1 cyI 160 fc] → va_S A s.heap H locs → ∀ (ls : Array Slot), lv_has ls 4 [(3, .int i), (0, .ref h0), (1, .int p0), (2, .int p1)] → W p l e (headSpec wsX0_putIn ({ frames := 0, cells := 0, slots := 0, locals := 0 })).room s m ([.ref h0, .int p0, .int p1] : List Value).toArray below meth c H locs 0 0 (MQ below (va_Qv (fun u : Int32 × (Nat → Int32) => u.1.toInt = len.toInt + 1 ∧ u.2 = upd (shR f len.toNatClampNeg p0.toNatClampNeg) p0.toNatClampNeg p1) (fun (u : Int32 × (Nat → Int32)) (t : State) => va_P (dC, dI) vwCl [kx_0 h0 h1 u.1, kx_a h1 cyI 160 u.2] t.heap ∧ va_K (dC, dI) vwCl [(cyI, .int)] t ∧ va_D A [kx_0 h0 h1 u.1, kx_a h1 cyI 160 u.2]) A) ([.ref h0, .int p0, .int p1] : List Value).toArray s 0 0 A) (F0 m 28 ls []) := by
          intro n
          induction n with
          | zero => intro i fc LP1_h0 LP1_h1 LP1_h2 hn; exact absurd hn (Nat.not_lt_zero _)
          | succ n ih1 =>
            intro i fc LP1_h0 LP1_h1 LP1_h2 hn1 H locs hP hD hS ls hl
            have n_i := ki_nat i rfl (by omega)
            have n_l := ki_nat len rfl (by omega)
            refine lv_iload_n hx hb dX0_putIn_28 rfl (lv_at hl 0 rfl) ?_
            refine lv_iload_n hx hb dX0_putIn_29 rfl (lv_at hl 2 rfl) ?_
            refine lv_icmp_le (tgt := 53) hx hb dX0_putIn_30 (by decide) (fun c_4 => ?_) (fun c_4 => ?_)
            · have i_4 : i.toInt ≤ p0.toInt := kc_le c_4
              refine lv_aload_n hx hb dX0_putIn_53 rfl (lv_at hl 1 rfl) ?_
              refine va_get (D := (dC, dI)) (ci := 0) (v := .ref h1) (C := RX0) (T := TX0) (N := 2) hx hb hts hi_0 hown hK hP 0 rfl rfl 0 (by decide) hf_9 (fun _ h9 => h9) rfl dX0_putIn_54 ?_
              refine lv_iload_n hx hb dX0_putIn_57 rfl (lv_at hl 2 rfl) ?_
              refine lv_iload_n hx hb dX0_putIn_58 rfl (lv_at hl 3 rfl) ?_
              refine va_iast hx hb hK hP hD hS 1 0 rfl rfl (ki_in (om_8 a0) (om_12 a1 a2)) dX0_putIn_59 (fun H locs hP hD hS => ?_)
              have hP : va_P (dC, dI) vwCl [kx_0 h0 h1 len, kx_a h1 cyI 160 (upd fc p0.toNatClampNeg p1)] H := hP
              have hD : va_D A [kx_0 h0 h1 len, kx_a h1 cyI 160 (upd fc p0.toNatClampNeg p1)] := hD
              refine lv_aload_n hx hb dX0_putIn_60 rfl (lv_at hl 1 rfl) ?_
              refine lv_dup hx hb dX0_putIn_61 rfl ?_
              refine va_get (D := (dC, dI)) (ci := 0) (v := .int len) (C := RX0) (T := TX0) (N := 2) hx hb hts hi_0 hown hK hP 0 rfl rfl 1 (by decide) hf_15 (fun _ h9 => h9) rfl dX0_putIn_62 ?_
              refine lv_iconst (v := 1) hx hb dX0_putIn_65 (by decide) ?_
              refine lv_iadd hx hb dX0_putIn_66 ?_
              refine lv_topi (fun y_5 ey_5 => ?_)
              have i_5 : y_5.toInt = len.toInt + 1 := ki_add ey_5 rfl rfl (om_13 a1 i_1) (om_11 a2)
              refine va_put (D := (dC, dI)) (ci := 0) (v := .int y_5) (ty := .int) (C := RX0) (T := TX0) (N := 2) hx hb hts hi_0 tyX0 tyX0_ok nmX0 hown hK hP hD hS 0 rfl rfl 1 (by decide) hf_15 (fun _ h9 => h9) rfl (by decide +kernel) rfl rfl (Nat.le_of_ble_eq_true rfl) dX0_putIn_67 (fun H locs hP hD hS => ?_)
              have hP : va_P (dC, dI) vwCl [kx_0 h0 h1 y_5, kx_a h1 cyI 160 (upd fc p0.toNatClampNeg p1)] H := hP
              have hD : va_D A [kx_0 h0 h1 y_5, kx_a h1 cyI 160 (upd fc p0.toNatClampNeg p1)] := hD
              have hP9 := hP
              have hD9 := hD
              have hK9 := hK
              exact W.vret hx hb hr (fun t ht hW => ⟨⟨(y_5, (upd fc p0.toNatClampNeg p1)), rfl, ⟨(by (try dsimp only); omega), (by (try dsimp only); rw [LP1_h2, ki_nateq (show i.toInt = p0.toInt by omega)])⟩, by rw [ht]; exact hP9, va_K.moved hW.alike hK9, hD9⟩, hS.F ht⟩) hS.2.2 dX0_putIn_70
            · have i_4 : p0.toInt < i.toInt := kc_nle c_4
              refine lv_aload_n hx hb dX0_putIn_33 rfl (lv_at hl 1 rfl) ?_
              refine va_get (D := (dC, dI)) (ci := 0) (v := .ref h1) (C := RX0) (T := TX0) (N := 2) hx hb hts hi_0 hown hK hP 0 rfl rfl 0 (by decide) hf_9 (fun _ h9 => h9) rfl dX0_putIn_34 ?_
              refine lv_iload_n hx hb dX0_putIn_37 rfl (lv_at hl 0 rfl) ?_
              refine lv_aload_n hx hb dX0_putIn_38 rfl (lv_at hl 1 rfl) ?_
              refine va_get (D := (dC, dI)) (ci := 0) (v := .ref h1) (C := RX0) (T := TX0) (N := 2) hx hb hts hi_0 hown hK hP 0 rfl rfl 0 (by decide) hf_9 (fun _ h9 => h9) rfl dX0_putIn_39 ?_
              refine lv_iload_n hx hb dX0_putIn_42 rfl (lv_at hl 0 rfl) ?_
              refine lv_iconst (v := 1) hx hb dX0_putIn_43 (by decide) ?_
              refine lv_isub hx hb dX0_putIn_44 ?_
              refine lv_topi (fun y_6 ey_6 => ?_)
              have i_6 : y_6.toInt = i.toInt - 1 := ki_sub ey_6 rfl rfl (om_14 a0 i_4) (om_15 a2 LP1_h1)
              refine va_iald hx hb hK hP 1 0 rfl rfl (ki_in (om_16 a0 i_4 i_6) (om_17 a2 LP1_h1 i_6)) dX0_putIn_45 ?_
              refine lv_topi (fun y_7 ey_7 => ?_)
              have j_7 : y_7.toInt = (fc y_6.toNatClampNeg).toInt := congrArg Int32.toInt ey_7
              refine va_iast hx hb hK hP hD hS 1 0 rfl rfl (ki_in (om_18 a0 i_4) (om_19 a2 LP1_h1)) dX0_putIn_46 (fun H locs hP hD hS => ?_)
              have hP : va_P (dC, dI) vwCl [kx_0 h0 h1 len, kx_a h1 cyI 160 (upd fc i.toNatClampNeg y_7)] H := hP
              have hD : va_D A [kx_0 h0 h1 len, kx_a h1 cyI 160 (upd fc i.toNatClampNeg y_7)] := hD
              obtain ⟨x_8, ex_8⟩ : ∃ y : Int32, y = i + (-1) := ⟨_, rfl⟩
              have i_8 : x_8.toInt = i.toInt + (-1) := ki_add ex_8 rfl rfl (om_20 a0 i_4) (om_21 a2 LP1_h1)
              refine lv_iinc (v := x_8) (lv' := [(3, .int x_8), (0, .ref h0), (1, .int p0), (2, .int p1)]) hx hb dX0_putIn_47 hl (k := 0) rfl (by rw [ex_8]; rfl) (by decide) rfl (fun ls hl => ?_)
              refine lv_goto (tgt := 28) hx hb dX0_putIn_50 (by decide) ?_
              have n_y := ki_nat y_6 rfl (by omega)
              have n_x := ki_nat x_8 rfl (by omega)
              exact ih1 x_8 (upd fc i.toNatClampNeg y_7) (om_22 i_4 i_8) (om_23 LP1_h1 i_8) (by rw [ey_7, LP1_h2]; exact shR_step (by omega) (by omega) (by omega)) (om_mu hn1 (om_24 i_8) (om_25 a0 i_4)) _ _ hP hD hS ls (lv_sub hl [0, 1, 2, 3] rfl)
        exact LP1 ((len.toInt : Int).toNat + 1) len f (om_26 a1) om_7 (shR_self _ _).symm (Nat.lt_succ_self _) _ _ hP hD hS ls (lv_sub hl [0, 1, 2, 3] rfl)
      · have i_3 : 160 ≤ len.toInt := kc_nlt c_3
        exfalso; omega


