def kindOk (f : Nat → Int32) (n : Int) : Prop := ∀ k : Nat, (k : Int) < n → 0 ≤ (f k).toInt ∧ (f k).toInt ≤ (k : Int)
theorem kindOk_0 (f : Nat → Int32) {n : Int} (h : n ≤ 0) : kindOk f n := fun k hk => absurd hk (by omega)
theorem kindOk_upd {f : Nat → Int32} {n n2 : Int} {k : Nat} {x : Int32} (h : kindOk f n) (hk : (k : Int) = n) (h2 : n2 = n + 1) (h0 : 0 ≤ x.toInt) (h1 : x.toInt ≤ n) : kindOk (upd f k x) n2 := by
  intro j hj
  unfold upd
  split
  · omega
  · exact h j (by omega)

set_option maxHeartbeats 4000000 in
set_option maxRecDepth 100000 in
theorem c_J7_fill_160 (l : Launch) (dC : Nat → ClassId) (dI : Nat → Nat → Nat) (a_ : Nat) (cyI : ClassId) (f : Nat → Int32) (p0 : Int32) (sz : Nat) : Met l yJ7_fill_53178 wsJ7_fill_53178 ({ frames := 0, cells := 0, slots := 0, locals := 0 }) (va_Pc [.ref a_, .int p0] (fun U => U.heap.size = sz ∧ va_P (dC, dI) vwCl [kx_a a_ cyI 160 f] U.heap ∧ va_K (dC, dI) vwCl [(cyI, .int)] U ∧ va_D (fun _ => True) [kx_a a_ cyI 160 f])) (va_Qv (fun u : (Nat → Int32) => ∀ k : Nat, k < 160 → u k = p0) (fun (u : (Nat → Int32)) (t : State) => va_P (dC, dI) vwCl [kx_a a_ cyI 160 u] t.heap ∧ va_K (dC, dI) vwCl [(cyI, .int)] t ∧ va_D (va_A [kx_a a_ cyI 160 f] sz) [kx_a a_ cyI 160 u]) (va_A [kx_a a_ cyI 160 f] sz)) 0 0 (va_A [kx_a a_ cyI 160 f] sz) := by
  refine Met.ofW (cc := cJ7_fill_53178) (maxL := 4) (ret := none) (by decide) rfl ?_
  intro p e s m args below meth c s₁ B hml hv
  obtain ⟨rfl, hsz, hP, hK, hD0⟩ := hv
  have hx := B.exec
  have hb := B.bytes
  have hr := B.returns
  have hts := atoms_spec (ws := wsJ7_fill_53178) B.pre
  have hown : s.vm.findClass RJ7 = some m.cls := findClass_of_methodNamed B.named
  have hlocks := B.notSynchronized
  subst hsz
  have hD := hD0.self (sz := s.heap.size)
  generalize hAe : va_A [kx_a a_ cyI 160 f] s.heap.size = A at hD ⊢
  have hA : ∀ q : Nat, s.heap.size ≤ q → A q := fun q h => by rw [← hAe]; exact Or.inr h
  have hS : va_S A s.heap s.heap [] := va_S.rf
  have hP : va_P (dC, dI) vwCl [kx_a a_ cyI 160 f] s.heap := hP
  have hl := lv_entry ([.ref a_, .int p0]) (n := 4) (Nat.le_of_ble_eq_true rfl)
  rw [lg_entry_eq]
  generalize (lg_sl ([.ref a_, .int p0]) ++ List.replicate (4 - (lg_sl ([.ref a_, .int p0])).length) Slot.unset).toArray = ls at hl ⊢
  have hl : lv_has ls 4 [(0, .ref a_), (1, .int p0)] := hl
  refine lv_iconst (v := 0) hx hb dJ7_fill_53178_0 (by decide) ?_
  refine lv_istore_n (lv' := [(2, .int 0), (0, .ref a_), (1, .int p0)]) hx hb dJ7_fill_53178_1 rfl hl (by decide) rfl (fun ls hl => ?_)
  refine lv_aload_n hx hb dJ7_fill_53178_2 rfl (lv_at hl 1 rfl) ?_
  refine va_alen (v := 160) hx hb hK hP 0 0 rfl rfl rfl dJ7_fill_53178_3 ?_
  refine lv_istore_n (lv' := [(3, .int 160), (2, .int 0), (0, .ref a_), (1, .int p0)]) hx hb dJ7_fill_53178_4 rfl hl (by decide) rfl (fun ls hl => ?_)
  have LP1 : ∀ (n : Nat) (i : Int32) (g : Nat → Int32), (0 ≤ i.toInt) → (∀ k : Nat, k < i.toNatClampNeg → g k = p0) → (160 - i.toInt).toNat < n → ∀ (H : Heap) (locs : List Loc), va_P (dC, dI) vwCl [kx_a a_ cyI 160 g] H → va_D A [kx_a a_ cyI 160 g] → va_S A s.heap H locs → ∀ (ls : Array Slot), lv_has ls 4 [(3, .int 160), (2, .int i), (0, .ref a_), (1, .int p0)] → W p l e (headSpec wsJ7_fill_53178 ({ frames := 0, cells := 0, slots := 0, locals := 0 })).room s m ([.ref a_, .int p0] : List Value).toArray below meth c H locs 0 0 (MQ below (va_Qv (fun u : (Nat → Int32) => ∀ k : Nat, k < 160 → u k = p0) (fun (u : (Nat → Int32)) (t : State) => va_P (dC, dI) vwCl [kx_a a_ cyI 160 u] t.heap ∧ va_K (dC, dI) vwCl [(cyI, .int)] t ∧ va_D A [kx_a a_ cyI 160 u]) A) ([.ref a_, .int p0] : List Value).toArray s 0 0 A) (F0 m 5 ls []) := by
    intro n
    induction n with
    | zero => intro i g LP1_h0 LP1_h1 hn; exact absurd hn (Nat.not_lt_zero _)
    | succ n ih1 =>
      intro i g LP1_h0 LP1_h1 hn1 H locs hP hD hS ls hl
      have n_i := ki_nat i rfl (by omega)
      refine lv_iload_n hx hb dJ7_fill_53178_5 rfl (lv_at hl 1 rfl) ?_
      refine lv_iload_n hx hb dJ7_fill_53178_6 rfl (lv_at hl 0 rfl) ?_
      refine lv_icmp_ge (tgt := 20) hx hb dJ7_fill_53178_7 (by decide) (fun c_1 => ?_) (fun c_1 => ?_)
      · have i_1 : 160 ≤ i.toInt := kc_le c_1
        have hP9 := hP
        have hD9 := hD
        have hK9 := hK
        exact W.vret hx hb hr (fun t ht hW => ⟨⟨(g), rfl, (fun k hk => LP1_h1 k (by (try dsimp only); omega)), by rw [ht]; exact hP9, va_K.moved hW.alike hK9, hD9⟩, hS.F ht⟩) hS.2.2 dJ7_fill_53178_20
      · have i_1 : i.toInt < 160 := kc_nle c_1
        refine lv_aload_n hx hb dJ7_fill_53178_10 rfl (lv_at hl 2 rfl) ?_
        refine lv_iload_n hx hb dJ7_fill_53178_11 rfl (lv_at hl 1 rfl) ?_
        refine lv_iload_n hx hb dJ7_fill_53178_12 rfl (lv_at hl 3 rfl) ?_
        refine va_iast hx hb hK hP hD hS 0 0 rfl rfl (ki_in (om_8 LP1_h0) (om_9 i_1)) dJ7_fill_53178_13 (fun H locs hP hD hS => ?_)
        have hP : va_P (dC, dI) vwCl [kx_a a_ cyI 160 (upd g i.toNatClampNeg p0)] H := hP
        have hD : va_D A [kx_a a_ cyI 160 (upd g i.toNatClampNeg p0)] := hD
        obtain ⟨x_2, ex_2⟩ : ∃ y : Int32, y = i + 1 := ⟨_, rfl⟩
        have i_2 : x_2.toInt = i.toInt + 1 := ki_add ex_2 rfl rfl (om_10 LP1_h0) (om_11 i_1)
        refine lv_iinc (v := x_2) (lv' := [(2, .int x_2), (3, .int 160), (0, .ref a_), (1, .int p0)]) hx hb dJ7_fill_53178_14 hl (k := 1) rfl (by rw [ex_2]; rfl) (by decide) rfl (fun ls hl => ?_)
        refine lv_goto (tgt := 5) hx hb dJ7_fill_53178_17 (by decide) ?_
        have n_x := ki_nat x_2 rfl (by omega)
        exact ih1 x_2 (upd g i.toNatClampNeg p0) (om_31 LP1_h0 i_2) (fun k hk => by unfold upd; split <;> first | rfl | exact LP1_h1 k (by omega)) (om_mu hn1 (om_106 i_2) (om_107 i_1)) _ _ hP hD hS ls (lv_sub hl [1, 0, 2, 3] rfl)
  have k_3 : (0 : Int32).toInt = 0 := rfl
  exact LP1 ((160 - 0 : Int).toNat + 1) 0 f om_32 (fun k hk => absurd hk (Nat.not_lt_zero k)) (Nat.lt_succ_self _) _ _ hP hD hS ls (lv_sub hl [0, 1, 2, 3] rfl)

set_option maxHeartbeats 4000000 in
set_option maxRecDepth 100000 in
theorem c_J7_fill_161 (l : Launch) (dC : Nat → ClassId) (dI : Nat → Nat → Nat) (a_ : Nat) (cyI : ClassId) (f : Nat → Int32) (p0 : Int32) (sz : Nat) : Met l yJ7_fill_53178 wsJ7_fill_53178 ({ frames := 0, cells := 0, slots := 0, locals := 0 }) (va_Pc [.ref a_, .int p0] (fun U => U.heap.size = sz ∧ va_P (dC, dI) vwCl [kx_a a_ cyI 161 f] U.heap ∧ va_K (dC, dI) vwCl [(cyI, .int)] U ∧ va_D (fun _ => True) [kx_a a_ cyI 161 f])) (va_Qv (fun u : (Nat → Int32) => ∀ k : Nat, k < 161 → u k = p0) (fun (u : (Nat → Int32)) (t : State) => va_P (dC, dI) vwCl [kx_a a_ cyI 161 u] t.heap ∧ va_K (dC, dI) vwCl [(cyI, .int)] t ∧ va_D (va_A [kx_a a_ cyI 161 f] sz) [kx_a a_ cyI 161 u]) (va_A [kx_a a_ cyI 161 f] sz)) 0 0 (va_A [kx_a a_ cyI 161 f] sz) := by
  refine Met.ofW (cc := cJ7_fill_53178) (maxL := 4) (ret := none) (by decide) rfl ?_
  intro p e s m args below meth c s₁ B hml hv
  obtain ⟨rfl, hsz, hP, hK, hD0⟩ := hv
  have hx := B.exec
  have hb := B.bytes
  have hr := B.returns
  have hts := atoms_spec (ws := wsJ7_fill_53178) B.pre
  have hown : s.vm.findClass RJ7 = some m.cls := findClass_of_methodNamed B.named
  have hlocks := B.notSynchronized
  subst hsz
  have hD := hD0.self (sz := s.heap.size)
  generalize hAe : va_A [kx_a a_ cyI 161 f] s.heap.size = A at hD ⊢
  have hA : ∀ q : Nat, s.heap.size ≤ q → A q := fun q h => by rw [← hAe]; exact Or.inr h
  have hS : va_S A s.heap s.heap [] := va_S.rf
  have hP : va_P (dC, dI) vwCl [kx_a a_ cyI 161 f] s.heap := hP
  have hl := lv_entry ([.ref a_, .int p0]) (n := 4) (Nat.le_of_ble_eq_true rfl)
  rw [lg_entry_eq]
  generalize (lg_sl ([.ref a_, .int p0]) ++ List.replicate (4 - (lg_sl ([.ref a_, .int p0])).length) Slot.unset).toArray = ls at hl ⊢
  have hl : lv_has ls 4 [(0, .ref a_), (1, .int p0)] := hl
  refine lv_iconst (v := 0) hx hb dJ7_fill_53178_0 (by decide) ?_
  refine lv_istore_n (lv' := [(2, .int 0), (0, .ref a_), (1, .int p0)]) hx hb dJ7_fill_53178_1 rfl hl (by decide) rfl (fun ls hl => ?_)
  refine lv_aload_n hx hb dJ7_fill_53178_2 rfl (lv_at hl 1 rfl) ?_
  refine va_alen (v := 161) hx hb hK hP 0 0 rfl rfl rfl dJ7_fill_53178_3 ?_
  refine lv_istore_n (lv' := [(3, .int 161), (2, .int 0), (0, .ref a_), (1, .int p0)]) hx hb dJ7_fill_53178_4 rfl hl (by decide) rfl (fun ls hl => ?_)
  have LP1 : ∀ (n : Nat) (i : Int32) (g : Nat → Int32), (0 ≤ i.toInt) → (∀ k : Nat, k < i.toNatClampNeg → g k = p0) → (161 - i.toInt).toNat < n → ∀ (H : Heap) (locs : List Loc), va_P (dC, dI) vwCl [kx_a a_ cyI 161 g] H → va_D A [kx_a a_ cyI 161 g] → va_S A s.heap H locs → ∀ (ls : Array Slot), lv_has ls 4 [(3, .int 161), (2, .int i), (0, .ref a_), (1, .int p0)] → W p l e (headSpec wsJ7_fill_53178 ({ frames := 0, cells := 0, slots := 0, locals := 0 })).room s m ([.ref a_, .int p0] : List Value).toArray below meth c H locs 0 0 (MQ below (va_Qv (fun u : (Nat → Int32) => ∀ k : Nat, k < 161 → u k = p0) (fun (u : (Nat → Int32)) (t : State) => va_P (dC, dI) vwCl [kx_a a_ cyI 161 u] t.heap ∧ va_K (dC, dI) vwCl [(cyI, .int)] t ∧ va_D A [kx_a a_ cyI 161 u]) A) ([.ref a_, .int p0] : List Value).toArray s 0 0 A) (F0 m 5 ls []) := by
    intro n
    induction n with
    | zero => intro i g LP1_h0 LP1_h1 hn; exact absurd hn (Nat.not_lt_zero _)
    | succ n ih1 =>
      intro i g LP1_h0 LP1_h1 hn1 H locs hP hD hS ls hl
      have n_i := ki_nat i rfl (by omega)
      refine lv_iload_n hx hb dJ7_fill_53178_5 rfl (lv_at hl 1 rfl) ?_
      refine lv_iload_n hx hb dJ7_fill_53178_6 rfl (lv_at hl 0 rfl) ?_
      refine lv_icmp_ge (tgt := 20) hx hb dJ7_fill_53178_7 (by decide) (fun c_1 => ?_) (fun c_1 => ?_)
      · have i_1 : 161 ≤ i.toInt := kc_le c_1
        have hP9 := hP
        have hD9 := hD
        have hK9 := hK
        exact W.vret hx hb hr (fun t ht hW => ⟨⟨(g), rfl, (fun k hk => LP1_h1 k (by (try dsimp only); omega)), by rw [ht]; exact hP9, va_K.moved hW.alike hK9, hD9⟩, hS.F ht⟩) hS.2.2 dJ7_fill_53178_20
      · have i_1 : i.toInt < 161 := kc_nle c_1
        refine lv_aload_n hx hb dJ7_fill_53178_10 rfl (lv_at hl 2 rfl) ?_
        refine lv_iload_n hx hb dJ7_fill_53178_11 rfl (lv_at hl 1 rfl) ?_
        refine lv_iload_n hx hb dJ7_fill_53178_12 rfl (lv_at hl 3 rfl) ?_
        refine va_iast hx hb hK hP hD hS 0 0 rfl rfl (ki_in (om_8 LP1_h0) (om_108 i_1)) dJ7_fill_53178_13 (fun H locs hP hD hS => ?_)
        have hP : va_P (dC, dI) vwCl [kx_a a_ cyI 161 (upd g i.toNatClampNeg p0)] H := hP
        have hD : va_D A [kx_a a_ cyI 161 (upd g i.toNatClampNeg p0)] := hD
        obtain ⟨x_2, ex_2⟩ : ∃ y : Int32, y = i + 1 := ⟨_, rfl⟩
        have i_2 : x_2.toInt = i.toInt + 1 := ki_add ex_2 rfl rfl (om_10 LP1_h0) (om_109 i_1)
        refine lv_iinc (v := x_2) (lv' := [(2, .int x_2), (3, .int 161), (0, .ref a_), (1, .int p0)]) hx hb dJ7_fill_53178_14 hl (k := 1) rfl (by rw [ex_2]; rfl) (by decide) rfl (fun ls hl => ?_)
        refine lv_goto (tgt := 5) hx hb dJ7_fill_53178_17 (by decide) ?_
        have n_x := ki_nat x_2 rfl (by omega)
        exact ih1 x_2 (upd g i.toNatClampNeg p0) (om_31 LP1_h0 i_2) (fun k hk => by unfold upd; split <;> first | rfl | exact LP1_h1 k (by omega)) (om_mu hn1 (om_110 i_2) (om_111 i_1)) _ _ hP hD hS ls (lv_sub hl [1, 0, 2, 3] rfl)
  have k_3 : (0 : Int32).toInt = 0 := rfl
  exact LP1 ((161 - 0 : Int).toNat + 1) 0 f om_32 (fun k hk => absurd hk (Nat.not_lt_zero k)) (Nat.lt_succ_self _) _ _ hP hD hS ls (lv_sub hl [0, 1, 2, 3] rfl)

set_option maxHeartbeats 4000000 in
set_option maxRecDepth 100000 in
theorem c_X1_learn (l : Launch) (dC : Nat → ClassId) (dI : Nat → Nat → Nat) (t_ : Nat) (t_k : Nat) (t_o : Nat) (cyI : ClassId) (tk : Int32) (mo : Int32) (fk : Nat → Int32) (q_row : Nat) (q_cell : Nat) (len : Int32) (f : Nat → Int32) (sz : Nat) (a0 : 0 ≤ len.toInt) (a1 : len.toInt ≤ 160) : Met l yX1_learn wsX1_learn ({ frames := 1, cells := 0, slots := 0, locals := 45 }) (va_Pc [.ref t_, .ref q_row] (fun U => U.heap.size = sz ∧ va_P (dC, dI) vwCl [kx_1 t_ t_k t_o tk mo, kx_a t_k cyI 160 fk, kx_0 q_row q_cell len, kx_a q_cell cyI 160 f] U.heap ∧ va_K (dC, dI) vwCl [(cyI, .int)] U ∧ va_D (fun _ => True) [kx_1 t_ t_k t_o tk mo, kx_a t_k cyI 160 fk, kx_0 q_row q_cell len, kx_a q_cell cyI 160 f])) (va_Qv (fun u : (Nat → Int32) => kindOk u len.toInt) (fun (u : (Nat → Int32)) (t : State) => va_P (dC, dI) vwCl [kx_1 t_ t_k t_o tk mo, kx_a t_k cyI 160 u, kx_0 q_row q_cell len, kx_a q_cell cyI 160 f] t.heap ∧ va_K (dC, dI) vwCl [(cyI, .int)] t ∧ va_D (va_A [kx_1 t_ t_k t_o tk mo, kx_a t_k cyI 160 fk, kx_0 q_row q_cell len, kx_a q_cell cyI 160 f] sz) [kx_1 t_ t_k t_o tk mo, kx_a t_k cyI 160 u, kx_0 q_row q_cell len, kx_a q_cell cyI 160 f]) (va_A [kx_1 t_ t_k t_o tk mo, kx_a t_k cyI 160 fk, kx_0 q_row q_cell len, kx_a q_cell cyI 160 f] sz)) 0 0 (va_A [kx_1 t_ t_k t_o tk mo, kx_a t_k cyI 160 fk, kx_0 q_row q_cell len, kx_a q_cell cyI 160 f] sz) := by
  refine Met.ofW (cc := cX1_learn) (maxL := 3) (ret := none) (by decide) rfl ?_
  intro p e s m args below meth c s₁ B hml hv
  obtain ⟨rfl, hsz, hP, hK, hD0⟩ := hv
  have hx := B.exec
  have hb := B.bytes
  have hr := B.returns
  have hts := atoms_spec (ws := wsX1_learn) B.pre
  have hown : s.vm.findClass RX1 = some m.cls := findClass_of_methodNamed B.named
  have hlocks := B.notSynchronized
  subst hsz
  have hD := hD0.self (sz := s.heap.size)
  generalize hAe : va_A [kx_1 t_ t_k t_o tk mo, kx_a t_k cyI 160 fk, kx_0 q_row q_cell len, kx_a q_cell cyI 160 f] s.heap.size = A at hD ⊢
  have hA : ∀ q : Nat, s.heap.size ≤ q → A q := fun q h => by rw [← hAe]; exact Or.inr h
  have hS : va_S A s.heap s.heap [] := va_S.rf
  have hP : va_P (dC, dI) vwCl [kx_1 t_ t_k t_o tk mo, kx_a t_k cyI 160 fk, kx_0 q_row q_cell len, kx_a q_cell cyI 160 f] s.heap := hP
  have hl := lv_entry ([.ref t_, .ref q_row]) (n := 3) (Nat.le_of_ble_eq_true rfl)
  rw [lg_entry_eq]
  generalize (lg_sl ([.ref t_, .ref q_row]) ++ List.replicate (3 - (lg_sl ([.ref t_, .ref q_row])).length) Slot.unset).toArray = ls at hl ⊢
  have hl : lv_has ls 3 [(0, .ref t_), (1, .ref q_row)] := hl
  have hf_18 := hts (.fieldLink RX1 18 "MajorityIndex$Row" "length" "I") (List.mem_of_getElem? (i := 1) rfl)
  have hi_0 : ∀ w ∈ u_ws RX0 TX0 2, w ∈ wsX1_learn := fun w h => List.mem_cons_of_mem _ (List.mem_append_left _ (List.mem_append_right _ h))
  have hf_9 := hts (.fieldLink RX1 9 "MajorityIndex$Tally" "kind" "[I") (List.mem_of_getElem? (i := 2) rfl)
  have hi_1 : ∀ w ∈ u_ws RX1 TX1 4, w ∈ wsX1_learn := fun w h => List.mem_cons_of_mem _ (List.mem_append_right _ h)
  refine lv_iconst (v := 0) hx hb dX1_learn_0 (by decide) ?_
  refine lv_istore_n (lv' := [(2, .int 0), (0, .ref t_), (1, .ref q_row)]) hx hb dX1_learn_1 rfl hl (by decide) rfl (fun ls hl => ?_)
  have LP1 : ∀ (n : Nat) (i : Int32) (gk : Nat → Int32), (0 ≤ i.toInt) → (kindOk gk i.toInt) → (len.toInt - i.toInt).toNat < n → ∀ (H : Heap) (locs : List Loc), va_P (dC, dI) vwCl [kx_1 t_ t_k t_o tk mo, kx_a t_k cyI 160 gk, kx_0 q_row q_cell len, kx_a q_cell cyI 160 f] H → va_D A [kx_1 t_ t_k t_o tk mo, kx_a t_k cyI 160 gk, kx_0 q_row q_cell len, kx_a q_cell cyI 160 f] → va_S A s.heap H locs → ∀ (ls : Array Slot), lv_has ls 3 [(2, .int i), (0, .ref t_), (1, .ref q_row)] → W p l e (headSpec wsX1_learn ({ frames := 1, cells := 0, slots := 0, locals := 45 })).room s m ([.ref t_, .ref q_row] : List Value).toArray below meth c H locs 0 0 (MQ below (va_Qv (fun u : (Nat → Int32) => kindOk u len.toInt) (fun (u : (Nat → Int32)) (t : State) => va_P (dC, dI) vwCl [kx_1 t_ t_k t_o tk mo, kx_a t_k cyI 160 u, kx_0 q_row q_cell len, kx_a q_cell cyI 160 f] t.heap ∧ va_K (dC, dI) vwCl [(cyI, .int)] t ∧ va_D A [kx_1 t_ t_k t_o tk mo, kx_a t_k cyI 160 u, kx_0 q_row q_cell len, kx_a q_cell cyI 160 f]) A) ([.ref t_, .ref q_row] : List Value).toArray s 0 0 A) (F0 m 2 ls []) := by
    intro n
    induction n with
    | zero => intro i gk LP1_h0 LP1_h1 hn; exact absurd hn (Nat.not_lt_zero _)
    | succ n ih1 =>
      intro i gk LP1_h0 LP1_h1 hn1 H locs hP hD hS ls hl
      refine lv_iload_n hx hb dX1_learn_2 rfl (lv_at hl 0 rfl) ?_
      refine lv_aload_n hx hb dX1_learn_3 rfl (lv_at hl 2 rfl) ?_
      refine va_get (D := (dC, dI)) (ci := 0) (v := .int len) (C := RX0) (T := TX0) (N := 2) hx hb hts hi_0 hown hK hP 2 rfl rfl 1 (by decide) hf_18 (fun _ h9 => h9) rfl dX1_learn_4 ?_
      refine lv_icmp_ge (tgt := 27) hx hb dX1_learn_7 (by decide) (fun c_1 => ?_) (fun c_1 => ?_)
      · have i_1 : len.toInt ≤ i.toInt := kc_le c_1
        have hP9 := hP
        have hD9 := hD
        have hK9 := hK
        exact W.vret hx hb hr (fun t ht hW => ⟨⟨(gk), rfl, (fun k hk => LP1_h1 k (by (try dsimp only); omega)), by rw [ht]; exact hP9, va_K.moved hW.alike hK9, hD9⟩, hS.F ht⟩) hS.2.2 dX1_learn_27
      · have i_1 : i.toInt < len.toInt := kc_nle c_1
        refine lv_aload_n hx hb dX1_learn_10 rfl (lv_at hl 1 rfl) ?_
        refine va_get (D := (dC, dI)) (ci := 1) (v := .ref t_k) (C := RX1) (T := TX1) (N := 4) hx hb hts hi_1 hown hK hP 0 rfl rfl 0 (by decide) hf_9 (fun _ h9 => h9) rfl dX1_learn_11 ?_
        refine lv_iload_n hx hb dX1_learn_14 rfl (lv_at hl 0 rfl) ?_
        refine lv_aload_n hx hb dX1_learn_15 rfl (lv_at hl 2 rfl) ?_
        refine lv_iload_n hx hb dX1_learn_16 rfl (lv_at hl 0 rfl) ?_
        have hPc := hP.sub (ws' := [kx_0 q_row q_cell len, kx_a q_cell cyI 160 f]) [2, 3] rfl
        have hKc := hK
        refine vp_callSi (W.runV (As := [.int i]) (rest := [.int i, .ref t_k]) ⟨hx, hb, hml, hown, hts⟩ (c_X0_firstLike l dC dI q_row q_cell cyI len f i LP1_h0 (om_112 a1 i_1)) (cwV 1 hts gX1_learn_X0_firstLike rfl rfl rfl (by decide +kernel) ⟨Nat.le_of_ble_eq_true rfl, Nat.le_of_ble_eq_true rfl⟩) ⟨fun a U g mk q => by obtain ⟨q0, qP, qK⟩ := q; exact ⟨q0, qP, va_K.moved (u := U) (U := U.calling g mk a) (Vm.Alike.refl U.vm) qK⟩, va_recv hKc hPc (ci := 0) (q0 := 0) rfl rfl, fun U hU hW => ⟨rfl, by rw [hU]; exact hPc, va_K.moved hW.alike hKc⟩⟩ rfl rfl hl.1 rfl (lv_room (Nat.le_of_ble_eq_true rfl)) dX1_learn_17 ⟨Nat.le_of_ble_eq_true rfl, Nat.le_of_ble_eq_true rfl⟩) (fun r_2 w_2 => ?_)
        have w_2 : 0 ≤ r_2.toInt ∧ r_2.toInt ≤ i.toInt := w_2
        refine va_iast hx hb hK hP hD hS 1 0 rfl rfl (ki_in (om_8 LP1_h0) (om_1 a1 i_1)) dX1_learn_20 (fun H locs hP hD hS => ?_)
        have hP : va_P (dC, dI) vwCl [kx_1 t_ t_k t_o tk mo, kx_a t_k cyI 160 (upd gk i.toNatClampNeg r_2), kx_0 q_row q_cell len, kx_a q_cell cyI 160 f] H := hP
        have hD : va_D A [kx_1 t_ t_k t_o tk mo, kx_a t_k cyI 160 (upd gk i.toNatClampNeg r_2), kx_0 q_row q_cell len, kx_a q_cell cyI 160 f] := hD
        obtain ⟨x_3, ex_3⟩ : ∃ y : Int32, y = i + 1 := ⟨_, rfl⟩
        have i_3 : x_3.toInt = i.toInt + 1 := ki_add ex_3 rfl rfl (om_10 LP1_h0) (om_3 a1 i_1)
        refine lv_iinc (v := x_3) (lv' := [(2, .int x_3), (0, .ref t_), (1, .ref q_row)]) hx hb dX1_learn_21 hl (k := 0) rfl (by rw [ex_3]; rfl) (by decide) rfl (fun ls hl => ?_)
        refine lv_goto (tgt := 2) hx hb dX1_learn_24 (by decide) ?_
        have n_i := ki_nat i rfl (by omega)
        exact ih1 x_3 (upd gk i.toNatClampNeg r_2) (om_31 LP1_h0 i_3) (kindOk_upd LP1_h1 (by omega) (by omega) (by omega) (by omega)) (om_mu hn1 (om_5 i_3) (om_6 i_1)) _ _ hP hD hS ls (lv_sub hl [0, 1, 2] rfl)
  have k_4 : (0 : Int32).toInt = 0 := rfl
  exact LP1 ((len.toInt - 0 : Int).toNat + 1) 0 fk om_32 (kindOk_0 _ (by omega)) (Nat.lt_succ_self _) _ _ hP hD hS ls (lv_sub hl [0, 1, 2] rfl)

set_option maxHeartbeats 4000000 in
set_option maxRecDepth 100000 in
theorem c_X1_clear (l : Launch) (dC : Nat → ClassId) (dI : Nat → Nat → Nat) (t_ : Nat) (t_k : Nat) (t_o : Nat) (cyI : ClassId) (tk : Int32) (mo : Int32) (fq : Nat → Int32) (sz : Nat) : Met l yX1_clear wsX1_clear ({ frames := 1, cells := 0, slots := 0, locals := 45 }) (va_Pc [.ref t_] (fun U => U.heap.size = sz ∧ va_P (dC, dI) vwCl [kx_1 t_ t_k t_o tk mo, kx_a t_o cyI 160 fq] U.heap ∧ va_K (dC, dI) vwCl [(cyI, .int)] U ∧ va_D (fun _ => True) [kx_1 t_ t_k t_o tk mo, kx_a t_o cyI 160 fq])) (va_Qv (fun u : (Nat → Int32) => ∀ k : Nat, k < 160 → u k = 0) (fun (u : (Nat → Int32)) (t : State) => va_P (dC, dI) vwCl [kx_1 t_ t_k t_o 0 0, kx_a t_o cyI 160 u] t.heap ∧ va_K (dC, dI) vwCl [(cyI, .int)] t ∧ va_D (va_A [kx_1 t_ t_k t_o tk mo, kx_a t_o cyI 160 fq] sz) [kx_1 t_ t_k t_o 0 0, kx_a t_o cyI 160 u]) (va_A [kx_1 t_ t_k t_o tk mo, kx_a t_o cyI 160 fq] sz)) 0 0 (va_A [kx_1 t_ t_k t_o tk mo, kx_a t_o cyI 160 fq] sz) := by
  refine Met.ofW (cc := cX1_clear) (maxL := 1) (ret := none) (by decide) rfl ?_
  intro p e s m args below meth c s₁ B hml hv
  obtain ⟨rfl, hsz, hP, hK, hD0⟩ := hv
  have hx := B.exec
  have hb := B.bytes
  have hr := B.returns
  have hts := atoms_spec (ws := wsX1_clear) B.pre
  have hown : s.vm.findClass RX1 = some m.cls := findClass_of_methodNamed B.named
  have hlocks := B.notSynchronized
  subst hsz
  have hD := hD0.self (sz := s.heap.size)
  generalize hAe : va_A [kx_1 t_ t_k t_o tk mo, kx_a t_o cyI 160 fq] s.heap.size = A at hD ⊢
  have hA : ∀ q : Nat, s.heap.size ≤ q → A q := fun q h => by rw [← hAe]; exact Or.inr h
  have hS : va_S A s.heap s.heap [] := va_S.rf
  have hP : va_P (dC, dI) vwCl [kx_1 t_ t_k t_o tk mo, kx_a t_o cyI 160 fq] s.heap := hP
  have hl := lv_entry ([.ref t_]) (n := 1) (Nat.le_of_ble_eq_true rfl)
  rw [lg_entry_eq]
  generalize (lg_sl ([.ref t_]) ++ List.replicate (1 - (lg_sl ([.ref t_])).length) Slot.unset).toArray = ls at hl ⊢
  have hl : lv_has ls 1 [(0, .ref t_)] := hl
  have hf_15 := hts (.fieldLink RX1 15 "MajorityIndex$Tally" "often" "[I") (List.mem_of_getElem? (i := 1) rfl)
  have hi_1 : ∀ w ∈ u_ws RX1 TX1 4, w ∈ wsX1_clear := fun w h => List.mem_cons_of_mem _ (List.mem_append_right _ h)
  have hf_34 := hts (.fieldLink RX1 34 "MajorityIndex$Tally" "taken" "I") (List.mem_of_getElem? (i := 2) rfl)
  have hf_37 := hts (.fieldLink RX1 37 "MajorityIndex$Tally" "most" "I") (List.mem_of_getElem? (i := 3) rfl)
  refine lv_aload_n hx hb dX1_clear_0 rfl (lv_at hl 0 rfl) ?_
  refine va_get (D := (dC, dI)) (ci := 1) (v := .ref t_o) (C := RX1) (T := TX1) (N := 4) hx hb hts hi_1 hown hK hP 0 rfl rfl 1 (by decide) hf_15 (fun _ h9 => h9) rfl dX1_clear_1 ?_
  refine lv_iconst (v := 0) hx hb dX1_clear_4 (by decide) ?_
  have hPc := hP.sub (ws' := [kx_a t_o cyI 160 fq]) [1] rfl
  have hKc := hK
  have hDc := hD.sub (ws' := [kx_a t_o cyI 160 fq]) [1] (by decide) rfl
  have hFc := va_free (wc := [kx_a t_o cyI 160 fq]) hD hS hA [1] rfl
  refine va_callv (va_runS (As := [.ref t_o, .int 0]) (rest := []) ⟨hx, hb, hml, hown, hts⟩ (c_J7_fill_160 l dC dI t_o cyI fq 0 s.heap.size) (va_cwS 2 hts gX1_clear_J7_fill_53178 rfl rfl rfl (by decide +kernel) ⟨Nat.le_of_ble_eq_true rfl, Nat.le_of_ble_eq_true rfl⟩) ⟨fun a U g mk q => by obtain ⟨q0, q1, qP, qK, qD⟩ := q; exact ⟨q0, q1, qP, va_K.moved (u := U) (U := U.calling g mk a) (Vm.Alike.refl U.vm) qK, qD⟩, fun U hU hW => ⟨rfl, by rw [hU], by rw [hU]; exact hPc, va_K.moved hW.alike hKc, hDc.weaken (fun _ _ _ _ => trivial)⟩⟩ rfl rfl hl.1 rfl (lv_room (Nat.le_of_ble_eq_true rfl)) dX1_clear_5 ⟨Nat.le_of_ble_eq_true rfl, Nat.le_of_ble_eq_true rfl⟩) hS (fun q _ h => hFc q h) hFc (fun u t H1 locs ht hvm w_1 hB hz1 hk1 hS => ?_)
  obtain ⟨o_2, rfl⟩ : ∃ z, z = u := ⟨_, rfl⟩
  obtain ⟨hP1, hK1, hD1⟩ := hB
  rw [ht] at hP1
  have hK1 := va_K.moved hvm.symm hK1
  obtain ⟨hP, hD⟩ := va_join (wr := [kx_1 t_ t_k t_o tk mo]) (w1 := [kx_a t_o cyI 160 o_2]) hP hD [1] [0] rfl rfl (by decide) (by decide) hk1 hFc hP1 hD1
  clear hP1 hD1 hK1 hk1 hz1 hFc hDc hPc hKc
  generalize H1 = H at hP hS ⊢
  have hP : va_P (dC, dI) vwCl [kx_1 t_ t_k t_o tk mo, kx_a t_o cyI 160 o_2] H := hP
  have hD : va_D A [kx_1 t_ t_k t_o tk mo, kx_a t_o cyI 160 o_2] := hD
  have w_1 : ∀ k : Nat, k < 160 → o_2 k = 0 := w_1
  refine lv_aload_n hx hb dX1_clear_8 rfl (lv_at hl 0 rfl) ?_
  refine lv_iconst (v := 0) hx hb dX1_clear_9 (by decide) ?_
  refine va_put (D := (dC, dI)) (ci := 1) (v := .int 0) (ty := .int) (C := RX1) (T := TX1) (N := 4) hx hb hts hi_1 tyX1 tyX1_ok nmX1 hown hK hP hD hS 0 rfl rfl 2 (by decide) hf_34 (fun _ h9 => h9) rfl (by decide +kernel) rfl rfl (Nat.le_of_ble_eq_true rfl) dX1_clear_10 (fun H locs hP hD hS => ?_)
  have hP : va_P (dC, dI) vwCl [kx_1 t_ t_k t_o 0 mo, kx_a t_o cyI 160 o_2] H := hP
  have hD : va_D A [kx_1 t_ t_k t_o 0 mo, kx_a t_o cyI 160 o_2] := hD
  refine lv_aload_n hx hb dX1_clear_13 rfl (lv_at hl 0 rfl) ?_
  refine lv_iconst (v := 0) hx hb dX1_clear_14 (by decide) ?_
  refine va_put (D := (dC, dI)) (ci := 1) (v := .int 0) (ty := .int) (C := RX1) (T := TX1) (N := 4) hx hb hts hi_1 tyX1 tyX1_ok nmX1 hown hK hP hD hS 0 rfl rfl 3 (by decide) hf_37 (fun _ h9 => h9) rfl (by decide +kernel) rfl rfl (Nat.le_of_ble_eq_true rfl) dX1_clear_15 (fun H locs hP hD hS => ?_)
  have hP : va_P (dC, dI) vwCl [kx_1 t_ t_k t_o 0 0, kx_a t_o cyI 160 o_2] H := hP
  have hD : va_D A [kx_1 t_ t_k t_o 0 0, kx_a t_o cyI 160 o_2] := hD
  have hP9 := hP
  have hD9 := hD
  have hK9 := hK
  exact W.vret hx hb hr (fun t ht hW => ⟨⟨(o_2), rfl, w_1, by rw [ht]; exact hP9, va_K.moved hW.alike hK9, hD9⟩, hS.F ht⟩) hS.2.2 dX1_clear_18

set_option maxHeartbeats 4000000 in
set_option maxRecDepth 100000 in
theorem c_X1_take (l : Launch) (dC : Nat → ClassId) (dI : Nat → Nat → Nat) (t_ : Nat) (t_k : Nat) (t_o : Nat) (cyI : ClassId) (tk : Int32) (mo : Int32) (fk : Nat → Int32) (fq : Nat → Int32) (nn : Int) (p0 : Int32) (sz : Nat) (k0 : kindOk fk nn) (b0 : 0 ≤ p0.toInt) (b1 : p0.toInt < nn) (b2 : nn ≤ 160) : Met l yX1_take wsX1_take ({ frames := 0, cells := 0, slots := 0, locals := 0 }) (va_Pc [.ref t_, .int p0] (fun U => U.heap.size = sz ∧ va_P (dC, dI) vwCl [kx_1 t_ t_k t_o tk mo, kx_a t_k cyI 160 fk, kx_a t_o cyI 160 fq] U.heap ∧ va_K (dC, dI) vwCl [(cyI, .int)] U ∧ va_D (fun _ => True) [kx_1 t_ t_k t_o tk mo, kx_a t_k cyI 160 fk, kx_a t_o cyI 160 fq])) (va_Qv (fun u : Int32 × Int32 × (Nat → Int32) => True) (fun (u : Int32 × Int32 × (Nat → Int32)) (t : State) => va_P (dC, dI) vwCl [kx_1 t_ t_k t_o u.1 u.2.1, kx_a t_k cyI 160 fk, kx_a t_o cyI 160 u.2.2] t.heap ∧ va_K (dC, dI) vwCl [(cyI, .int)] t ∧ va_D (va_A [kx_1 t_ t_k t_o tk mo, kx_a t_k cyI 160 fk, kx_a t_o cyI 160 fq] sz) [kx_1 t_ t_k t_o u.1 u.2.1, kx_a t_k cyI 160 fk, kx_a t_o cyI 160 u.2.2]) (va_A [kx_1 t_ t_k t_o tk mo, kx_a t_k cyI 160 fk, kx_a t_o cyI 160 fq] sz)) 0 0 (va_A [kx_1 t_ t_k t_o tk mo, kx_a t_k cyI 160 fk, kx_a t_o cyI 160 fq] sz) := by
  refine Met.ofW (cc := cX1_take) (maxL := 3) (ret := none) (by decide) rfl ?_
  intro p e s m args below meth c s₁ B hml hv
  obtain ⟨rfl, hsz, hP, hK, hD0⟩ := hv
  have hx := B.exec
  have hb := B.bytes
  have hr := B.returns
  have hts := atoms_spec (ws := wsX1_take) B.pre
  have hown : s.vm.findClass RX1 = some m.cls := findClass_of_methodNamed B.named
  have hlocks := B.notSynchronized
  subst hsz
  have hD := hD0.self (sz := s.heap.size)
  generalize hAe : va_A [kx_1 t_ t_k t_o tk mo, kx_a t_k cyI 160 fk, kx_a t_o cyI 160 fq] s.heap.size = A at hD ⊢
  have hA : ∀ q : Nat, s.heap.size ≤ q → A q := fun q h => by rw [← hAe]; exact Or.inr h
  have hS : va_S A s.heap s.heap [] := va_S.rf
  have hP : va_P (dC, dI) vwCl [kx_1 t_ t_k t_o tk mo, kx_a t_k cyI 160 fk, kx_a t_o cyI 160 fq] s.heap := hP
  have hl := lv_entry ([.ref t_, .int p0]) (n := 3) (Nat.le_of_ble_eq_true rfl)
  rw [lg_entry_eq]
  generalize (lg_sl ([.ref t_, .int p0]) ++ List.replicate (3 - (lg_sl ([.ref t_, .int p0])).length) Slot.unset).toArray = ls at hl ⊢
  have hl : lv_has ls 3 [(0, .ref t_), (1, .int p0)] := hl
  have hf_15 := hts (.fieldLink RX1 15 "MajorityIndex$Tally" "often" "[I") (List.mem_of_getElem? (i := 1) rfl)
  have hi_1 : ∀ w ∈ u_ws RX1 TX1 4, w ∈ wsX1_take := fun w h => List.mem_cons_of_mem _ (List.mem_append_right _ h)
  have hf_9 := hts (.fieldLink RX1 9 "MajorityIndex$Tally" "kind" "[I") (List.mem_of_getElem? (i := 2) rfl)
  have hf_34 := hts (.fieldLink RX1 34 "MajorityIndex$Tally" "taken" "I") (List.mem_of_getElem? (i := 3) rfl)
  have hf_37 := hts (.fieldLink RX1 37 "MajorityIndex$Tally" "most" "I") (List.mem_of_getElem? (i := 4) rfl)
  refine lv_aload_n hx hb dX1_take_0 rfl (lv_at hl 0 rfl) ?_
  refine va_get (D := (dC, dI)) (ci := 1) (v := .ref t_o) (C := RX1) (T := TX1) (N := 4) hx hb hts hi_1 hown hK hP 0 rfl rfl 1 (by decide) hf_15 (fun _ h9 => h9) rfl dX1_take_1 ?_
  refine lv_aload_n hx hb dX1_take_4 rfl (lv_at hl 0 rfl) ?_
  refine va_get (D := (dC, dI)) (ci := 1) (v := .ref t_k) (C := RX1) (T := TX1) (N := 4) hx hb hts hi_1 hown hK hP 0 rfl rfl 0 (by decide) hf_9 (fun _ h9 => h9) rfl dX1_take_5 ?_
  refine lv_iload_n hx hb dX1_take_8 rfl (lv_at hl 1 rfl) ?_
  refine va_iald hx hb hK hP 1 0 rfl rfl (ki_in (om_8 b0) (by omega)) dX1_take_9 ?_
  refine lv_topi (fun y_1 ey_1 => ?_)
  have j_1 : y_1.toInt = (fk p0.toNatClampNeg).toInt := congrArg Int32.toInt ey_1
  have n_2 : (p0.toNatClampNeg : Int) = p0.toInt := ki_nat _ rfl (om_8 b0)
  have i_3 := k0 p0.toNatClampNeg (by omega)
  refine va_iald hx hb hK hP 2 0 rfl rfl (ki_in (by omega) (by omega)) dX1_take_10 ?_
  refine lv_topi (fun y_4 ey_4 => ?_)
  have j_4 : y_4.toInt = (fq y_1.toNatClampNeg).toInt := congrArg Int32.toInt ey_4
  refine lv_iconst (v := 1) hx hb dX1_take_11 (by decide) ?_
  refine lv_iadd hx hb dX1_take_12 ?_
  refine lv_topi (fun y_5 ey_5 => ?_)
  refine lv_istore_n (lv' := [(2, .int y_5), (0, .ref t_), (1, .int p0)]) hx hb dX1_take_13 rfl hl (by decide) rfl (fun ls hl => ?_)
  refine lv_aload_n hx hb dX1_take_14 rfl (lv_at hl 1 rfl) ?_
  refine va_get (D := (dC, dI)) (ci := 1) (v := .ref t_o) (C := RX1) (T := TX1) (N := 4) hx hb hts hi_1 hown hK hP 0 rfl rfl 1 (by decide) hf_15 (fun _ h9 => h9) rfl dX1_take_15 ?_
  refine lv_aload_n hx hb dX1_take_18 rfl (lv_at hl 1 rfl) ?_
  refine va_get (D := (dC, dI)) (ci := 1) (v := .ref t_k) (C := RX1) (T := TX1) (N := 4) hx hb hts hi_1 hown hK hP 0 rfl rfl 0 (by decide) hf_9 (fun _ h9 => h9) rfl dX1_take_19 ?_
  refine lv_iload_n hx hb dX1_take_22 rfl (lv_at hl 2 rfl) ?_
  refine va_iald hx hb hK hP 1 0 rfl rfl (ki_in (om_8 b0) (by omega)) dX1_take_23 ?_
  refine lv_topi (fun y_6 ey_6 => ?_)
  have j_6 : y_6.toInt = (fk p0.toNatClampNeg).toInt := congrArg Int32.toInt ey_6
  have n_7 : (p0.toNatClampNeg : Int) = p0.toInt := ki_nat _ rfl (om_8 b0)
  have i_8 := k0 p0.toNatClampNeg (by omega)
  refine lv_iload_n hx hb dX1_take_24 rfl (lv_at hl 0 rfl) ?_
  refine va_iast hx hb hK hP hD hS 2 0 rfl rfl (ki_in (by omega) (by omega)) dX1_take_25 (fun H locs hP hD hS => ?_)
  have hP : va_P (dC, dI) vwCl [kx_1 t_ t_k t_o tk mo, kx_a t_k cyI 160 fk, kx_a t_o cyI 160 (upd fq y_6.toNatClampNeg y_5)] H := hP
  have hD : va_D A [kx_1 t_ t_k t_o tk mo, kx_a t_k cyI 160 fk, kx_a t_o cyI 160 (upd fq y_6.toNatClampNeg y_5)] := hD
  refine lv_aload_n hx hb dX1_take_26 rfl (lv_at hl 1 rfl) ?_
  refine lv_dup hx hb dX1_take_27 rfl ?_
  refine va_get (D := (dC, dI)) (ci := 1) (v := .int tk) (C := RX1) (T := TX1) (N := 4) hx hb hts hi_1 hown hK hP 0 rfl rfl 2 (by decide) hf_34 (fun _ h9 => h9) rfl dX1_take_28 ?_
  refine lv_iconst (v := 1) hx hb dX1_take_31 (by decide) ?_
  refine lv_iadd hx hb dX1_take_32 ?_
  refine lv_topi (fun y_9 ey_9 => ?_)
  refine va_put (D := (dC, dI)) (ci := 1) (v := .int y_9) (ty := .int) (C := RX1) (T := TX1) (N := 4) hx hb hts hi_1 tyX1 tyX1_ok nmX1 hown hK hP hD hS 0 rfl rfl 2 (by decide) hf_34 (fun _ h9 => h9) rfl (by decide +kernel) rfl rfl (Nat.le_of_ble_eq_true rfl) dX1_take_33 (fun H locs hP hD hS => ?_)
  have hP : va_P (dC, dI) vwCl [kx_1 t_ t_k t_o y_9 mo, kx_a t_k cyI 160 fk, kx_a t_o cyI 160 (upd fq y_6.toNatClampNeg y_5)] H := hP
  have hD : va_D A [kx_1 t_ t_k t_o y_9 mo, kx_a t_k cyI 160 fk, kx_a t_o cyI 160 (upd fq y_6.toNatClampNeg y_5)] := hD
  refine lv_iload_n hx hb dX1_take_36 rfl (lv_at hl 0 rfl) ?_
  refine lv_aload_n hx hb dX1_take_37 rfl (lv_at hl 1 rfl) ?_
  refine va_get (D := (dC, dI)) (ci := 1) (v := .int mo) (C := RX1) (T := TX1) (N := 4) hx hb hts hi_1 hown hK hP 0 rfl rfl 3 (by decide) hf_37 (fun _ h9 => h9) rfl dX1_take_38 ?_
  refine lv_icmp_le (tgt := 49) hx hb dX1_take_41 (by decide) (fun c_10 => ?_) (fun c_10 => ?_)
  · have i_10 : y_5.toInt ≤ mo.toInt := kc_le c_10
    have hP9 := hP
    have hD9 := hD
    have hK9 := hK
    exact W.vret hx hb hr (fun t ht hW => ⟨⟨(y_9, mo, (upd fq y_6.toNatClampNeg y_5)), rfl, trivial, by rw [ht]; exact hP9, va_K.moved hW.alike hK9, hD9⟩, hS.F ht⟩) hS.2.2 dX1_take_49
  · have i_10 : mo.toInt < y_5.toInt := kc_nle c_10
    refine lv_aload_n hx hb dX1_take_44 rfl (lv_at hl 1 rfl) ?_
    refine lv_iload_n hx hb dX1_take_45 rfl (lv_at hl 0 rfl) ?_
    refine va_put (D := (dC, dI)) (ci := 1) (v := .int y_5) (ty := .int) (C := RX1) (T := TX1) (N := 4) hx hb hts hi_1 tyX1 tyX1_ok nmX1 hown hK hP hD hS 0 rfl rfl 3 (by decide) hf_37 (fun _ h9 => h9) rfl (by decide +kernel) rfl rfl (Nat.le_of_ble_eq_true rfl) dX1_take_46 (fun H locs hP hD hS => ?_)
    have hP : va_P (dC, dI) vwCl [kx_1 t_ t_k t_o y_9 y_5, kx_a t_k cyI 160 fk, kx_a t_o cyI 160 (upd fq y_6.toNatClampNeg y_5)] H := hP
    have hD : va_D A [kx_1 t_ t_k t_o y_9 y_5, kx_a t_k cyI 160 fk, kx_a t_o cyI 160 (upd fq y_6.toNatClampNeg y_5)] := hD
    have hP9 := hP
    have hD9 := hD
    have hK9 := hK
    exact W.vret hx hb hr (fun t ht hW => ⟨⟨(y_9, y_5, (upd fq y_6.toNatClampNeg y_5)), rfl, trivial, by rw [ht]; exact hP9, va_K.moved hW.alike hK9, hD9⟩, hS.F ht⟩) hS.2.2 dX1_take_49

set_option maxHeartbeats 4000000 in
set_option maxRecDepth 100000 in
theorem c_X1_drop (l : Launch) (dC : Nat → ClassId) (dI : Nat → Nat → Nat) (t_ : Nat) (t_k : Nat) (t_o : Nat) (cyI : ClassId) (tk : Int32) (mo : Int32) (fk : Nat → Int32) (fq : Nat → Int32) (nn : Int) (p0 : Int32) (sz : Nat) (k0 : kindOk fk nn) (b0 : 0 ≤ p0.toInt) (b1 : p0.toInt < nn) (b2 : nn ≤ 160) : Met l yX1_drop wsX1_drop ({ frames := 0, cells := 0, slots := 0, locals := 0 }) (va_Pc [.ref t_, .int p0] (fun U => U.heap.size = sz ∧ va_P (dC, dI) vwCl [kx_1 t_ t_k t_o tk mo, kx_a t_k cyI 160 fk, kx_a t_o cyI 160 fq] U.heap ∧ va_K (dC, dI) vwCl [(cyI, .int)] U ∧ va_D (fun _ => True) [kx_1 t_ t_k t_o tk mo, kx_a t_k cyI 160 fk, kx_a t_o cyI 160 fq])) (va_Qv (fun u : Int32 × (Nat → Int32) => True) (fun (u : Int32 × (Nat → Int32)) (t : State) => va_P (dC, dI) vwCl [kx_1 t_ t_k t_o u.1 mo, kx_a t_k cyI 160 fk, kx_a t_o cyI 160 u.2] t.heap ∧ va_K (dC, dI) vwCl [(cyI, .int)] t ∧ va_D (va_A [kx_1 t_ t_k t_o tk mo, kx_a t_k cyI 160 fk, kx_a t_o cyI 160 fq] sz) [kx_1 t_ t_k t_o u.1 mo, kx_a t_k cyI 160 fk, kx_a t_o cyI 160 u.2]) (va_A [kx_1 t_ t_k t_o tk mo, kx_a t_k cyI 160 fk, kx_a t_o cyI 160 fq] sz)) 0 0 (va_A [kx_1 t_ t_k t_o tk mo, kx_a t_k cyI 160 fk, kx_a t_o cyI 160 fq] sz) := by
  refine Met.ofW (cc := cX1_drop) (maxL := 2) (ret := none) (by decide) rfl ?_
  intro p e s m args below meth c s₁ B hml hv
  obtain ⟨rfl, hsz, hP, hK, hD0⟩ := hv
  have hx := B.exec
  have hb := B.bytes
  have hr := B.returns
  have hts := atoms_spec (ws := wsX1_drop) B.pre
  have hown : s.vm.findClass RX1 = some m.cls := findClass_of_methodNamed B.named
  have hlocks := B.notSynchronized
  subst hsz
  have hD := hD0.self (sz := s.heap.size)
  generalize hAe : va_A [kx_1 t_ t_k t_o tk mo, kx_a t_k cyI 160 fk, kx_a t_o cyI 160 fq] s.heap.size = A at hD ⊢
  have hA : ∀ q : Nat, s.heap.size ≤ q → A q := fun q h => by rw [← hAe]; exact Or.inr h
  have hS : va_S A s.heap s.heap [] := va_S.rf
  have hP : va_P (dC, dI) vwCl [kx_1 t_ t_k t_o tk mo, kx_a t_k cyI 160 fk, kx_a t_o cyI 160 fq] s.heap := hP
  have hl := lv_entry ([.ref t_, .int p0]) (n := 2) (Nat.le_of_ble_eq_true rfl)
  rw [lg_entry_eq]
  generalize (lg_sl ([.ref t_, .int p0]) ++ List.replicate (2 - (lg_sl ([.ref t_, .int p0])).length) Slot.unset).toArray = ls at hl ⊢
  have hl : lv_has ls 2 [(0, .ref t_), (1, .int p0)] := hl
  have hf_15 := hts (.fieldLink RX1 15 "MajorityIndex$Tally" "often" "[I") (List.mem_of_getElem? (i := 1) rfl)
  have hi_1 : ∀ w ∈ u_ws RX1 TX1 4, w ∈ wsX1_drop := fun w h => List.mem_cons_of_mem _ (List.mem_append_right _ h)
  have hf_9 := hts (.fieldLink RX1 9 "MajorityIndex$Tally" "kind" "[I") (List.mem_of_getElem? (i := 2) rfl)
  have hf_34 := hts (.fieldLink RX1 34 "MajorityIndex$Tally" "taken" "I") (List.mem_of_getElem? (i := 3) rfl)
  refine lv_aload_n hx hb dX1_drop_0 rfl (lv_at hl 0 rfl) ?_
  refine va_get (D := (dC, dI)) (ci := 1) (v := .ref t_o) (C := RX1) (T := TX1) (N := 4) hx hb hts hi_1 hown hK hP 0 rfl rfl 1 (by decide) hf_15 (fun _ h9 => h9) rfl dX1_drop_1 ?_
  refine lv_aload_n hx hb dX1_drop_4 rfl (lv_at hl 0 rfl) ?_
  refine va_get (D := (dC, dI)) (ci := 1) (v := .ref t_k) (C := RX1) (T := TX1) (N := 4) hx hb hts hi_1 hown hK hP 0 rfl rfl 0 (by decide) hf_9 (fun _ h9 => h9) rfl dX1_drop_5 ?_
  refine lv_iload_n hx hb dX1_drop_8 rfl (lv_at hl 1 rfl) ?_
  refine va_iald hx hb hK hP 1 0 rfl rfl (ki_in (om_8 b0) (by omega)) dX1_drop_9 ?_
  refine lv_topi (fun y_1 ey_1 => ?_)
  have j_1 : y_1.toInt = (fk p0.toNatClampNeg).toInt := congrArg Int32.toInt ey_1
  have n_2 : (p0.toNatClampNeg : Int) = p0.toInt := ki_nat _ rfl (om_8 b0)
  have i_3 := k0 p0.toNatClampNeg (by omega)
  refine lv_dup2_11 hx hb dX1_drop_10 rfl rfl ?_
  refine va_iald hx hb hK hP 2 0 rfl rfl (ki_in (by omega) (by omega)) dX1_drop_11 ?_
  refine lv_topi (fun y_4 ey_4 => ?_)
  have j_4 : y_4.toInt = (fq y_1.toNatClampNeg).toInt := congrArg Int32.toInt ey_4
  refine lv_iconst (v := 1) hx hb dX1_drop_12 (by decide) ?_
  refine lv_isub hx hb dX1_drop_13 ?_
  refine lv_topi (fun y_5 ey_5 => ?_)
  refine va_iast hx hb hK hP hD hS 2 0 rfl rfl (ki_in (by omega) (by omega)) dX1_drop_14 (fun H locs hP hD hS => ?_)
  have hP : va_P (dC, dI) vwCl [kx_1 t_ t_k t_o tk mo, kx_a t_k cyI 160 fk, kx_a t_o cyI 160 (upd fq y_1.toNatClampNeg y_5)] H := hP
  have hD : va_D A [kx_1 t_ t_k t_o tk mo, kx_a t_k cyI 160 fk, kx_a t_o cyI 160 (upd fq y_1.toNatClampNeg y_5)] := hD
  refine lv_aload_n hx hb dX1_drop_15 rfl (lv_at hl 0 rfl) ?_
  refine lv_dup hx hb dX1_drop_16 rfl ?_
  refine va_get (D := (dC, dI)) (ci := 1) (v := .int tk) (C := RX1) (T := TX1) (N := 4) hx hb hts hi_1 hown hK hP 0 rfl rfl 2 (by decide) hf_34 (fun _ h9 => h9) rfl dX1_drop_17 ?_
  refine lv_iconst (v := 1) hx hb dX1_drop_20 (by decide) ?_
  refine lv_isub hx hb dX1_drop_21 ?_
  refine lv_topi (fun y_6 ey_6 => ?_)
  refine va_put (D := (dC, dI)) (ci := 1) (v := .int y_6) (ty := .int) (C := RX1) (T := TX1) (N := 4) hx hb hts hi_1 tyX1 tyX1_ok nmX1 hown hK hP hD hS 0 rfl rfl 2 (by decide) hf_34 (fun _ h9 => h9) rfl (by decide +kernel) rfl rfl (Nat.le_of_ble_eq_true rfl) dX1_drop_22 (fun H locs hP hD hS => ?_)
  have hP : va_P (dC, dI) vwCl [kx_1 t_ t_k t_o y_6 mo, kx_a t_k cyI 160 fk, kx_a t_o cyI 160 (upd fq y_1.toNatClampNeg y_5)] H := hP
  have hD : va_D A [kx_1 t_ t_k t_o y_6 mo, kx_a t_k cyI 160 fk, kx_a t_o cyI 160 (upd fq y_1.toNatClampNeg y_5)] := hD
  have hP9 := hP
  have hD9 := hD
  have hK9 := hK
  exact W.vret hx hb hr (fun t ht hW => ⟨⟨(y_6, (upd fq y_1.toNatClampNeg y_5)), rfl, trivial, by rw [ht]; exact hP9, va_K.moved hW.alike hK9, hD9⟩, hS.F ht⟩) hS.2.2 dX1_drop_25

set_option maxHeartbeats 4000000 in
set_option maxRecDepth 100000 in
theorem c_X1_hasMajority (l : Launch) (dC : Nat → ClassId) (dI : Nat → Nat → Nat) (t_ : Nat) (t_k : Nat) (t_o : Nat) (tk : Int32) (mo : Int32) : Met l yX1_hasMajority wsX1_hasMajority ({ frames := 0, cells := 0, slots := 0, locals := 0 }) (va_Pc [.ref t_] (fun U => va_P (dC, dI) vwCl [kx_1 t_ t_k t_o tk mo] U.heap ∧ va_K (dC, dI) vwCl [] U)) (vp_Si (fun r : Int32 => (r = 1 ∧ (0 : Int) ≤ 1) ∨ (r = 0 ∧ (0 : Int) ≤ 1))) 0 0 (fun _ => False) := by
  refine Met.ofW (cc := cX1_hasMajority) (maxL := 1) (ret := (some .boolean)) (by decide) rfl ?_
  intro p e s m args below meth c s₁ B hml hv
  obtain ⟨rfl, hP, hK⟩ := hv
  have hx := B.exec
  have hb := B.bytes
  have hr := B.returns
  have hts := atoms_spec (ws := wsX1_hasMajority) B.pre
  have hown : s.vm.findClass RX1 = some m.cls := findClass_of_methodNamed B.named
  have hlocks := B.notSynchronized
  have hP : va_P (dC, dI) vwCl [kx_1 t_ t_k t_o tk mo] s.heap := hP
  have hl := lv_entry ([.ref t_]) (n := 1) (Nat.le_of_ble_eq_true rfl)
  rw [lg_entry_eq]
  generalize (lg_sl ([.ref t_]) ++ List.replicate (1 - (lg_sl ([.ref t_])).length) Slot.unset).toArray = ls at hl ⊢
  have hl : lv_has ls 1 [(0, .ref t_)] := hl
  have hf_37 := hts (.fieldLink RX1 37 "MajorityIndex$Tally" "most" "I") (List.mem_of_getElem? (i := 1) rfl)
  have hi_1 : ∀ w ∈ u_ws RX1 TX1 4, w ∈ wsX1_hasMajority := fun w h => List.mem_cons_of_mem _ (List.mem_append_right _ h)
  have hf_34 := hts (.fieldLink RX1 34 "MajorityIndex$Tally" "taken" "I") (List.mem_of_getElem? (i := 2) rfl)
  refine lv_iconst (v := 2) hx hb dX1_hasMajority_0 (by decide) ?_
  refine lv_aload_n hx hb dX1_hasMajority_1 rfl (lv_at hl 0 rfl) ?_
  refine va_get (D := (dC, dI)) (ci := 1) (v := .int mo) (C := RX1) (T := TX1) (N := 4) hx hb hts hi_1 hown hK hP 0 rfl rfl 3 (by decide) hf_37 (fun _ h9 => h9) rfl dX1_hasMajority_2 ?_
  refine lv_imul hx hb dX1_hasMajority_5 ?_
  refine lv_topi (fun y_1 ey_1 => ?_)
  refine lv_aload_n hx hb dX1_hasMajority_6 rfl (lv_at hl 0 rfl) ?_
  refine va_get (D := (dC, dI)) (ci := 1) (v := .int tk) (C := RX1) (T := TX1) (N := 4) hx hb hts hi_1 hown hK hP 0 rfl rfl 2 (by decide) hf_34 (fun _ h9 => h9) rfl dX1_hasMajority_7 ?_
  refine lv_icmp_le (tgt := 17) hx hb dX1_hasMajority_10 (by decide) (fun c_2 => ?_) (fun c_2 => ?_)
  · have i_2 : y_1.toInt ≤ tk.toInt := kc_le c_2
    refine lv_iconst (v := 0) hx hb dX1_hasMajority_17 (by decide) ?_
    exact W.zret (v := 0) hx hb hr (by decide) (fun t ht hW => ⟨0, rfl, Or.inr (⟨rfl, by omega⟩), ht⟩) (fun q hq => by cases hq) dX1_hasMajority_18
  · have i_2 : tk.toInt < y_1.toInt := kc_nle c_2
    refine lv_iconst (v := 1) hx hb dX1_hasMajority_13 (by decide) ?_
    refine lv_goto (tgt := 18) hx hb dX1_hasMajority_14 (by decide) ?_
    exact W.zret (v := 1) hx hb hr (by decide) (fun t ht hW => ⟨1, rfl, Or.inl ⟨rfl, by omega⟩, ht⟩) (fun q hq => by cases hq) dX1_hasMajority_18


