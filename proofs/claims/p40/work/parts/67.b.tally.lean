def kindOk (f : Nat → Int32) (n : Int) : Prop := ∀ k : Nat, (k : Int) < n → 0 ≤ (f k).toInt ∧ (f k).toInt ≤ (k : Int)
theorem kindOk_0 (f : Nat → Int32) {n : Int} (h : n ≤ 0) : kindOk f n := fun k hk => absurd hk (by omega)
theorem kindOk_upd {f : Nat → Int32} {n n2 : Int} {k : Nat} {x : Int32} (h : kindOk f n) (hk : (k : Int) = n) (h2 : n2 = n + 1) (h0 : 0 ≤ x.toInt) (h1 : x.toInt ≤ n) : kindOk (upd f k x) n2 := by
  intro j hj
  unfold upd
  split
  · omega
  · exact h j (by omega)

set_option maxHeartbeats 4000000 in
set_option maxRecDepth 100000 in
theorem c_J7_fill_160 (l : Launch) (dC : Nat → ClassId) (dI : Nat → Nat → Nat) (a_ : Nat) (cyI : ClassId) (f : Nat → Int32) (p0 : Int32) (sz : Nat) : kx_MQ l (dC, dI) yJ7_fill_53178 wsJ7_fill_53178 ({ frames := 0, cells := 0, slots := 0, locals := 0 }) [.ref a_, .int p0] [kx_a a_ cyI 160 f] [(cyI, .int)] sz (fun A => va_Qv (fun u : (Nat → Int32) => ∀ k : Nat, k < 160 → u k = p0) (fun (u : (Nat → Int32)) (t : State) => va_P (dC, dI) vwCl [kx_a a_ cyI 160 u] t.heap ∧ va_K (dC, dI) vwCl [(cyI, .int)] t ∧ va_D A [kx_a a_ cyI 160 u]) A) := by
  refine kx_stQ (ws := wsJ7_fill_53178) (cc := cJ7_fill_53178) (maxL := 4) (ret := none) (by decide) rfl (Nat.le_of_ble_eq_true rfl) ?_
  intro p e s m below meth c A ls hx hb hr hlocks hts hown hml hA hS hP hK hD hl
  have hown : s.vm.findClass RJ7 = some m.cls := hown
  have hl : lv_has ls 4 [(0, .ref a_), (1, .int p0)] := hl
  refine lv_iconst (v := 0) hx hb dJ7_fill_53178_0 (by decide) ?_
  refine lv_istore_n (lv' := [(2, .int 0), (0, .ref a_), (1, .int p0)]) hx hb dJ7_fill_53178_1 rfl hl (by decide) rfl (fun ls hl => ?_)
  refine lv_aload_n hx hb dJ7_fill_53178_2 rfl (lv_at hl 1 rfl) ?_
  refine va_alen (v := 160) hx hb hK hP 0 0 rfl rfl rfl dJ7_fill_53178_3 ?_
  refine lv_istore_n (lv' := [(3, .int 160), (2, .int 0), (0, .ref a_), (1, .int p0)]) hx hb dJ7_fill_53178_4 rfl hl (by decide) rfl (fun ls hl => ?_)
  have LP1 : ∀ (n : Nat) (i : Int32) (g : Nat → Int32), (0 ≤ i.toInt) → (∀ k : Nat, k < i.toNatClampNeg → g k = p0) → (160 - i.toInt).toNat < n → ∀ (H : Heap) (locs : List Loc), va_P (dC, dI) vwCl [kx_a a_ cyI 160 g] H → va_D A [kx_a a_ cyI 160 g] → va_S A s.heap H locs → ∀ (ls : Array Slot), lv_has ls 4 [(3, .int 160), (2, .int i), (0, .ref a_), (1, .int p0)] → W p l e (headSpec wsJ7_fill_53178 ({ frames := 0, cells := 0, slots := 0, locals := 0 })).room s m ([.ref a_, .int p0] : List Value).toArray below meth c H locs 0 0 (MQ below (va_Qv (fun u : (Nat → Int32) => ∀ k : Nat, k < 160 → u k = p0) (fun (u : (Nat → Int32)) (t : State) => va_P (dC, dI) vwCl [kx_a a_ cyI 160 u] t.heap ∧ va_K (dC, dI) vwCl [(cyI, .int)] t ∧ va_D A [kx_a a_ cyI 160 u]) A) ([.ref a_, .int p0] : List Value).toArray s 0 0 A) (F0 m 5 ls []) := by
    intro n
    induction n with
    | zero => intro i g LP1_h0 LP1_h1 hn; exact absurd hn (Nat.not_lt_zero _)
    | succ n ih1 =>
      intro i g LP1_h0 LP1_h1 hn1 H locs hP hD hS ls hl
      have n_i := ki_nat i rfl (by omega)
      refine lv_iload_n hx hb dJ7_fill_53178_5 rfl (lv_at hl 1 rfl) ?_
      refine lv_iload_n hx hb dJ7_fill_53178_6 rfl (lv_at hl 0 rfl) ?_
      refine lv_icmp_ge (tgt := 20) hx hb dJ7_fill_53178_7 (by decide) (fun c_1 => ?_) (fun c_1 => ?_)
      · have i_1 : 160 ≤ i.toInt := kc_le c_1
        have hP9 := hP
        have hD9 := hD
        have hK9 := hK
        exact W.vret hx hb hr (hlocks := hlocks) (fun t ht hW => ⟨⟨(g), rfl, (fun k hk => LP1_h1 k (by (try dsimp only); omega)), by rw [ht]; exact hP9, va_K.moved hW.alike hK9, hD9⟩, hS.F ht⟩) hS.2.2 dJ7_fill_53178_20
      · have i_1 : i.toInt < 160 := kc_nle c_1
        refine lv_aload_n hx hb dJ7_fill_53178_10 rfl (lv_at hl 2 rfl) ?_
        refine lv_iload_n hx hb dJ7_fill_53178_11 rfl (lv_at hl 1 rfl) ?_
        refine lv_iload_n hx hb dJ7_fill_53178_12 rfl (lv_at hl 3 rfl) ?_
        refine va_iast hx hb hK hP hD hS 0 0 rfl rfl (ki_in (om_10 LP1_h0) (om_12 i_1)) dJ7_fill_53178_13 (fun H locs hP hD hS => ?_)
        obtain ⟨hP, hD⟩ := kx_re (w2 := [kx_a a_ cyI 160 (upd g i.toNatClampNeg p0)]) hP hD rfl
        obtain ⟨x_2, ex_2⟩ : ∃ y : Int32, y = i + 1 := ⟨_, rfl⟩
        have i_2 : x_2.toInt = i.toInt + 1 := ki_add ex_2 rfl rfl (om_13 LP1_h0) (om_14 i_1)
        refine lv_iinc (v := x_2) (lv' := [(2, .int x_2), (3, .int 160), (0, .ref a_), (1, .int p0)]) hx hb dJ7_fill_53178_14 hl (k := 1) rfl (by rw [ex_2]; rfl) (by decide) rfl (fun ls hl => ?_)
        refine lv_goto (tgt := 5) hx hb dJ7_fill_53178_17 (by decide) ?_
        have n_x := ki_nat x_2 rfl (by omega)
        exact ih1 x_2 (upd g i.toNatClampNeg p0) (om_34 LP1_h0 i_2) (fun k hk => by unfold upd; split <;> first | rfl | exact LP1_h1 k (by omega)) (om_mu hn1 (om_137 i_2) (om_138 i_1)) _ _ hP hD hS ls (lv_sub hl [1, 0, 2, 3] rfl)
  have k_3 : (0 : Int32).toInt = 0 := rfl
  exact LP1 ((160 - 0 : Int).toNat + 1) 0 f om_35 (fun k hk => absurd hk (Nat.not_lt_zero k)) (Nat.lt_succ_self _) _ _ hP hD hS ls (lv_sub hl [0, 1, 2, 3] rfl)

set_option maxHeartbeats 4000000 in
set_option maxRecDepth 100000 in
theorem c_J7_fill_161 (l : Launch) (dC : Nat → ClassId) (dI : Nat → Nat → Nat) (a_ : Nat) (cyI : ClassId) (f : Nat → Int32) (p0 : Int32) (sz : Nat) : kx_MQ l (dC, dI) yJ7_fill_53178 wsJ7_fill_53178 ({ frames := 0, cells := 0, slots := 0, locals := 0 }) [.ref a_, .int p0] [kx_a a_ cyI 161 f] [(cyI, .int)] sz (fun A => va_Qv (fun u : (Nat → Int32) => ∀ k : Nat, k < 161 → u k = p0) (fun (u : (Nat → Int32)) (t : State) => va_P (dC, dI) vwCl [kx_a a_ cyI 161 u] t.heap ∧ va_K (dC, dI) vwCl [(cyI, .int)] t ∧ va_D A [kx_a a_ cyI 161 u]) A) := by
  refine kx_stQ (ws := wsJ7_fill_53178) (cc := cJ7_fill_53178) (maxL := 4) (ret := none) (by decide) rfl (Nat.le_of_ble_eq_true rfl) ?_
  intro p e s m below meth c A ls hx hb hr hlocks hts hown hml hA hS hP hK hD hl
  have hown : s.vm.findClass RJ7 = some m.cls := hown
  have hl : lv_has ls 4 [(0, .ref a_), (1, .int p0)] := hl
  refine lv_iconst (v := 0) hx hb dJ7_fill_53178_0 (by decide) ?_
  refine lv_istore_n (lv' := [(2, .int 0), (0, .ref a_), (1, .int p0)]) hx hb dJ7_fill_53178_1 rfl hl (by decide) rfl (fun ls hl => ?_)
  refine lv_aload_n hx hb dJ7_fill_53178_2 rfl (lv_at hl 1 rfl) ?_
  refine va_alen (v := 161) hx hb hK hP 0 0 rfl rfl rfl dJ7_fill_53178_3 ?_
  refine lv_istore_n (lv' := [(3, .int 161), (2, .int 0), (0, .ref a_), (1, .int p0)]) hx hb dJ7_fill_53178_4 rfl hl (by decide) rfl (fun ls hl => ?_)
  have LP1 : ∀ (n : Nat) (i : Int32) (g : Nat → Int32), (0 ≤ i.toInt) → (∀ k : Nat, k < i.toNatClampNeg → g k = p0) → (161 - i.toInt).toNat < n → ∀ (H : Heap) (locs : List Loc), va_P (dC, dI) vwCl [kx_a a_ cyI 161 g] H → va_D A [kx_a a_ cyI 161 g] → va_S A s.heap H locs → ∀ (ls : Array Slot), lv_has ls 4 [(3, .int 161), (2, .int i), (0, .ref a_), (1, .int p0)] → W p l e (headSpec wsJ7_fill_53178 ({ frames := 0, cells := 0, slots := 0, locals := 0 })).room s m ([.ref a_, .int p0] : List Value).toArray below meth c H locs 0 0 (MQ below (va_Qv (fun u : (Nat → Int32) => ∀ k : Nat, k < 161 → u k = p0) (fun (u : (Nat → Int32)) (t : State) => va_P (dC, dI) vwCl [kx_a a_ cyI 161 u] t.heap ∧ va_K (dC, dI) vwCl [(cyI, .int)] t ∧ va_D A [kx_a a_ cyI 161 u]) A) ([.ref a_, .int p0] : List Value).toArray s 0 0 A) (F0 m 5 ls []) := by
    intro n
    induction n with
    | zero => intro i g LP1_h0 LP1_h1 hn; exact absurd hn (Nat.not_lt_zero _)
    | succ n ih1 =>
      intro i g LP1_h0 LP1_h1 hn1 H locs hP hD hS ls hl
      have n_i := ki_nat i rfl (by omega)
      refine lv_iload_n hx hb dJ7_fill_53178_5 rfl (lv_at hl 1 rfl) ?_
      refine lv_iload_n hx hb dJ7_fill_53178_6 rfl (lv_at hl 0 rfl) ?_
      refine lv_icmp_ge (tgt := 20) hx hb dJ7_fill_53178_7 (by decide) (fun c_1 => ?_) (fun c_1 => ?_)
      · have i_1 : 161 ≤ i.toInt := kc_le c_1
        have hP9 := hP
        have hD9 := hD
        have hK9 := hK
        exact W.vret hx hb hr (hlocks := hlocks) (fun t ht hW => ⟨⟨(g), rfl, (fun k hk => LP1_h1 k (by (try dsimp only); omega)), by rw [ht]; exact hP9, va_K.moved hW.alike hK9, hD9⟩, hS.F ht⟩) hS.2.2 dJ7_fill_53178_20
      · have i_1 : i.toInt < 161 := kc_nle c_1
        refine lv_aload_n hx hb dJ7_fill_53178_10 rfl (lv_at hl 2 rfl) ?_
        refine lv_iload_n hx hb dJ7_fill_53178_11 rfl (lv_at hl 1 rfl) ?_
        refine lv_iload_n hx hb dJ7_fill_53178_12 rfl (lv_at hl 3 rfl) ?_
        refine va_iast hx hb hK hP hD hS 0 0 rfl rfl (ki_in (om_10 LP1_h0) (om_139 i_1)) dJ7_fill_53178_13 (fun H locs hP hD hS => ?_)
        obtain ⟨hP, hD⟩ := kx_re (w2 := [kx_a a_ cyI 161 (upd g i.toNatClampNeg p0)]) hP hD rfl
        obtain ⟨x_2, ex_2⟩ : ∃ y : Int32, y = i + 1 := ⟨_, rfl⟩
        have i_2 : x_2.toInt = i.toInt + 1 := ki_add ex_2 rfl rfl (om_13 LP1_h0) (om_140 i_1)
        refine lv_iinc (v := x_2) (lv' := [(2, .int x_2), (3, .int 161), (0, .ref a_), (1, .int p0)]) hx hb dJ7_fill_53178_14 hl (k := 1) rfl (by rw [ex_2]; rfl) (by decide) rfl (fun ls hl => ?_)
        refine lv_goto (tgt := 5) hx hb dJ7_fill_53178_17 (by decide) ?_
        have n_x := ki_nat x_2 rfl (by omega)
        exact ih1 x_2 (upd g i.toNatClampNeg p0) (om_34 LP1_h0 i_2) (fun k hk => by unfold upd; split <;> first | rfl | exact LP1_h1 k (by omega)) (om_mu hn1 (om_141 i_2) (om_142 i_1)) _ _ hP hD hS ls (lv_sub hl [1, 0, 2, 3] rfl)
  have k_3 : (0 : Int32).toInt = 0 := rfl
  exact LP1 ((161 - 0 : Int).toNat + 1) 0 f om_35 (fun k hk => absurd hk (Nat.not_lt_zero k)) (Nat.lt_succ_self _) _ _ hP hD hS ls (lv_sub hl [0, 1, 2, 3] rfl)

set_option maxHeartbeats 4000000 in
set_option maxRecDepth 100000 in
theorem c_X1_learn (l : Launch) (dC : Nat → ClassId) (dI : Nat → Nat → Nat) (t_ : Nat) (t_k : Nat) (t_o : Nat) (cyI : ClassId) (tk : Int32) (mo : Int32) (fk : Nat → Int32) (q_row : Nat) (q_cell : Nat) (len : Int32) (f : Nat → Int32) (sz : Nat) (a0 : 0 ≤ len.toInt) (a1 : len.toInt ≤ 160) : kx_MQ l (dC, dI) yX1_learn wsX1_learn ({ frames := 1, cells := 0, slots := 0, locals := 45 }) [.ref t_, .ref q_row] [kx_1 t_ t_k t_o tk mo, kx_a t_k cyI 160 fk, kx_0 q_row q_cell len, kx_a q_cell cyI 160 f] [(cyI, .int)] sz (fun A => va_Qv (fun u : (Nat → Int32) => kindOk u len.toInt) (fun (u : (Nat → Int32)) (t : State) => va_P (dC, dI) vwCl [kx_1 t_ t_k t_o tk mo, kx_a t_k cyI 160 u, kx_0 q_row q_cell len, kx_a q_cell cyI 160 f] t.heap ∧ va_K (dC, dI) vwCl [(cyI, .int)] t ∧ va_D A [kx_1 t_ t_k t_o tk mo, kx_a t_k cyI 160 u, kx_0 q_row q_cell len, kx_a q_cell cyI 160 f]) A) := by
  refine kx_stQ (ws := wsX1_learn) (cc := cX1_learn) (maxL := 3) (ret := none) (by decide) rfl (Nat.le_of_ble_eq_true rfl) ?_
  intro p e s m below meth c A ls hx hb hr hlocks hts hown hml hA hS hP hK hD hl
  have hown : s.vm.findClass RX1 = some m.cls := hown
  have hl : lv_has ls 3 [(0, .ref t_), (1, .ref q_row)] := hl
  have hf_18 := hts (.fieldLink RX1 18 "MajorityIndex$Row" "length" "I") (List.mem_of_getElem? (i := 1) rfl)
  have hi_0 : ∀ w ∈ u_ws RX0 TX0 2, w ∈ wsX1_learn := fun w h => List.mem_cons_of_mem _ (List.mem_append_left _ (List.mem_append_right _ h))
  have hf_9 := hts (.fieldLink RX1 9 "MajorityIndex$Tally" "kind" "[I") (List.mem_of_getElem? (i := 2) rfl)
  have hi_1 : ∀ w ∈ u_ws RX1 TX1 4, w ∈ wsX1_learn := fun w h => List.mem_cons_of_mem _ (List.mem_append_right _ h)
  refine lv_iconst (v := 0) hx hb dX1_learn_0 (by decide) ?_
  refine lv_istore_n (lv' := [(2, .int 0), (0, .ref t_), (1, .ref q_row)]) hx hb dX1_learn_1 rfl hl (by decide) rfl (fun ls hl => ?_)
  have LP1 : ∀ (n : Nat) (i : Int32) (gk : Nat → Int32), (0 ≤ i.toInt) → (kindOk gk i.toInt) → (len.toInt - i.toInt).toNat < n → ∀ (H : Heap) (locs : List Loc), va_P (dC, dI) vwCl [kx_1 t_ t_k t_o tk mo, kx_a t_k cyI 160 gk, kx_0 q_row q_cell len, kx_a q_cell cyI 160 f] H → va_D A [kx_1 t_ t_k t_o tk mo, kx_a t_k cyI 160 gk, kx_0 q_row q_cell len, kx_a q_cell cyI 160 f] → va_S A s.heap H locs → ∀ (ls : Array Slot), lv_has ls 3 [(2, .int i), (0, .ref t_), (1, .ref q_row)] → W p l e (headSpec wsX1_learn ({ frames := 1, cells := 0, slots := 0, locals := 45 })).room s m ([.ref t_, .ref q_row] : List Value).toArray below meth c H locs 0 0 (MQ below (va_Qv (fun u : (Nat → Int32) => kindOk u len.toInt) (fun (u : (Nat → Int32)) (t : State) => va_P (dC, dI) vwCl [kx_1 t_ t_k t_o tk mo, kx_a t_k cyI 160 u, kx_0 q_row q_cell len, kx_a q_cell cyI 160 f] t.heap ∧ va_K (dC, dI) vwCl [(cyI, .int)] t ∧ va_D A [kx_1 t_ t_k t_o tk mo, kx_a t_k cyI 160 u, kx_0 q_row q_cell len, kx_a q_cell cyI 160 f]) A) ([.ref t_, .ref q_row] : List Value).toArray s 0 0 A) (F0 m 2 ls []) := by
    intro n
    induction n with
    | zero => intro i gk LP1_h0 LP1_h1 hn; exact absurd hn (Nat.not_lt_zero _)
    | succ n ih1 =>
      intro i gk LP1_h0 LP1_h1 hn1 H locs hP hD hS ls hl
      refine lv_iload_n hx hb dX1_learn_2 rfl (lv_at hl 0 rfl) ?_
      refine lv_aload_n hx hb dX1_learn_3 rfl (lv_at hl 2 rfl) ?_
      refine va_get (D := (dC, dI)) (ci := 0) (v := .int len) (C := RX0) (T := TX0) (N := 2) hx hb hts hi_0 hown hK hP 2 rfl rfl 1 (by decide) hf_18 (fun _ h9 => h9) rfl dX1_learn_4 ?_
      refine lv_icmp_ge (tgt := 27) hx hb dX1_learn_7 (by decide) (fun c_1 => ?_) (fun c_1 => ?_)
      · have i_1 : len.toInt ≤ i.toInt := kc_le c_1
        have hP9 := hP
        have hD9 := hD
        have hK9 := hK
        exact W.vret hx hb hr (hlocks := hlocks) (fun t ht hW => ⟨⟨(gk), rfl, (fun k hk => LP1_h1 k (by (try dsimp only); omega)), by rw [ht]; exact hP9, va_K.moved hW.alike hK9, hD9⟩, hS.F ht⟩) hS.2.2 dX1_learn_27
      · have i_1 : i.toInt < len.toInt := kc_nle c_1
        refine lv_aload_n hx hb dX1_learn_10 rfl (lv_at hl 1 rfl) ?_
        refine va_get (D := (dC, dI)) (ci := 1) (v := .ref t_k) (C := RX1) (T := TX1) (N := 4) hx hb hts hi_1 hown hK hP 0 rfl rfl 0 (by decide) hf_9 (fun _ h9 => h9) rfl dX1_learn_11 ?_
        refine lv_iload_n hx hb dX1_learn_14 rfl (lv_at hl 0 rfl) ?_
        refine lv_aload_n hx hb dX1_learn_15 rfl (lv_at hl 2 rfl) ?_
        refine lv_iload_n hx hb dX1_learn_16 rfl (lv_at hl 0 rfl) ?_
        have hPc := hP.sub (ws' := [kx_0 q_row q_cell len, kx_a q_cell cyI 160 f]) [2, 3] rfl
        have hKc := hK
        refine vp_callSi (W.runV (As := [.int i]) (rest := [.int i, .ref t_k]) ⟨hx, hb, hml, hown, hts⟩ (c_X0_firstLike l dC dI q_row q_cell cyI len f i LP1_h0 (om_143 a1 i_1)) (cwV 1 hts gX1_learn_X0_firstLike rfl rfl rfl (by decide +kernel) ⟨Nat.le_of_ble_eq_true rfl, Nat.le_of_ble_eq_true rfl⟩) ⟨fun a U g mk q => by obtain ⟨q0, qP, qK⟩ := q; exact ⟨q0, qP, va_K.moved (u := U) (U := U.calling g mk a) (Vm.Alike.refl U.vm) qK⟩, kx_rc0 hKc hPc (q0 := 0) rfl, fun U hU hW => ⟨rfl, by rw [hU]; exact hPc, va_K.moved hW.alike hKc⟩⟩ rfl rfl hl.1 rfl (lv_room (Nat.le_of_ble_eq_true rfl)) dX1_learn_17 ⟨Nat.le_of_ble_eq_true rfl, Nat.le_of_ble_eq_true rfl⟩) (fun r_2 w_2 => ?_)
        have w_2 : 0 ≤ r_2.toInt ∧ r_2.toInt ≤ i.toInt := w_2
        refine va_iast hx hb hK hP hD hS 1 0 rfl rfl (ki_in (om_10 LP1_h0) (om_1 a1 i_1)) dX1_learn_20 (fun H locs hP hD hS => ?_)
        obtain ⟨hP, hD⟩ := kx_re (w2 := [kx_1 t_ t_k t_o tk mo, kx_a t_k cyI 160 (upd gk i.toNatClampNeg r_2), kx_0 q_row q_cell len, kx_a q_cell cyI 160 f]) hP hD rfl
        obtain ⟨x_3, ex_3⟩ : ∃ y : Int32, y = i + 1 := ⟨_, rfl⟩
        have i_3 : x_3.toInt = i.toInt + 1 := ki_add ex_3 rfl rfl (om_13 LP1_h0) (om_3 a1 i_1)
        refine lv_iinc (v := x_3) (lv' := [(2, .int x_3), (0, .ref t_), (1, .ref q_row)]) hx hb dX1_learn_21 hl (k := 0) rfl (by rw [ex_3]; rfl) (by decide) rfl (fun ls hl => ?_)
        refine lv_goto (tgt := 2) hx hb dX1_learn_24 (by decide) ?_
        have n_i := ki_nat i rfl (by omega)
        exact ih1 x_3 (upd gk i.toNatClampNeg r_2) (om_34 LP1_h0 i_3) (kindOk_upd LP1_h1 (by omega) (by omega) (by omega) (by omega)) (om_mu hn1 (om_5 i_3) (om_6 i_1)) _ _ hP hD hS ls (lv_sub hl [0, 1, 2] rfl)
  have k_4 : (0 : Int32).toInt = 0 := rfl
  exact LP1 ((len.toInt - 0 : Int).toNat + 1) 0 fk om_35 (kindOk_0 _ (by omega)) (Nat.lt_succ_self _) _ _ hP hD hS ls (lv_sub hl [0, 1, 2] rfl)

set_option maxHeartbeats 4000000 in
set_option maxRecDepth 100000 in
theorem c_X1_clear (l : Launch) (dC : Nat → ClassId) (dI : Nat → Nat → Nat) (t_ : Nat) (t_k : Nat) (t_o : Nat) (cyI : ClassId) (tk : Int32) (mo : Int32) (fq : Nat → Int32) (sz : Nat) : kx_MQ l (dC, dI) yX1_clear wsX1_clear ({ frames := 1, cells := 0, slots := 0, locals := 45 }) [.ref t_] [kx_1 t_ t_k t_o tk mo, kx_a t_o cyI 160 fq] [(cyI, .int)] sz (fun A => va_Qv (fun u : (Nat → Int32) => ∀ k : Nat, k < 160 → u k = 0) (fun (u : (Nat → Int32)) (t : State) => va_P (dC, dI) vwCl [kx_1 t_ t_k t_o 0 0, kx_a t_o cyI 160 u] t.heap ∧ va_K (dC, dI) vwCl [(cyI, .int)] t ∧ va_D A [kx_1 t_ t_k t_o 0 0, kx_a t_o cyI 160 u]) A) := by
  refine kx_stQ (ws := wsX1_clear) (cc := cX1_clear) (maxL := 1) (ret := none) (by decide) rfl (Nat.le_of_ble_eq_true rfl) ?_
  intro p e s m below meth c A ls hx hb hr hlocks hts hown hml hA hS hP hK hD hl
  have hown : s.vm.findClass RX1 = some m.cls := hown
  have hl : lv_has ls 1 [(0, .ref t_)] := hl
  have hf_15 := hts (.fieldLink RX1 15 "MajorityIndex$Tally" "often" "[I") (List.mem_of_getElem? (i := 1) rfl)
  have hi_1 : ∀ w ∈ u_ws RX1 TX1 4, w ∈ wsX1_clear := fun w h => List.mem_cons_of_mem _ (List.mem_append_right _ h)
  have hf_34 := hts (.fieldLink RX1 34 "MajorityIndex$Tally" "taken" "I") (List.mem_of_getElem? (i := 2) rfl)
  have hf_37 := hts (.fieldLink RX1 37 "MajorityIndex$Tally" "most" "I") (List.mem_of_getElem? (i := 3) rfl)
  refine lv_aload_n hx hb dX1_clear_0 rfl (lv_at hl 0 rfl) ?_
  refine va_get (D := (dC, dI)) (ci := 1) (v := .ref t_o) (C := RX1) (T := TX1) (N := 4) hx hb hts hi_1 hown hK hP 0 rfl rfl 1 (by decide) hf_15 (fun _ h9 => h9) rfl dX1_clear_1 ?_
  refine lv_iconst (v := 0) hx hb dX1_clear_4 (by decide) ?_
  obtain ⟨hPc, hDc, hFc, hCc⟩ := kx_preM (wc := [kx_a t_o cyI 160 fq]) hP hD hS hA [false, true] rfl
  have hKc := hK
  refine va_callv (va_runS (As := [.ref t_o, .int 0]) (rest := []) ⟨hx, hb, hml, hown, hts⟩ (kx_un (c_J7_fill_160 l dC dI t_o cyI fq 0 s.heap.size)) (va_cwS 2 hts gX1_clear_J7_fill_53178 rfl rfl rfl (by decide +kernel) ⟨Nat.le_of_ble_eq_true rfl, Nat.le_of_ble_eq_true rfl⟩) ⟨fun a U g mk q => by obtain ⟨q0, q1, qP, qK, qD⟩ := q; exact ⟨q0, q1, qP, va_K.moved (u := U) (U := U.calling g mk a) (Vm.Alike.refl U.vm) qK, qD⟩, fun U hU hW => ⟨rfl, by rw [hU], by rw [hU]; exact hPc, va_K.moved hW.alike hKc, hDc.weaken (fun _ _ _ _ => trivial)⟩⟩ rfl rfl hl.1 rfl (lv_room (Nat.le_of_ble_eq_true rfl)) dX1_clear_5 ⟨Nat.le_of_ble_eq_true rfl, Nat.le_of_ble_eq_true rfl⟩) hS (fun q _ h => hFc q h) hFc (fun u t H1 locs ht hvm w_1 hB hz1 hk1 hS => ?_)
  obtain ⟨o_2, rfl⟩ : ∃ z, z = u := ⟨_, rfl⟩
  obtain ⟨hP1, hK1, hD1⟩ := hB
  rw [ht] at hP1
  have hK1 := va_K.moved hvm.symm hK1
  obtain ⟨hP, hD⟩ := kx_joinM (w2 := [kx_1 t_ t_k t_o tk mo, kx_a t_o cyI 160 o_2]) hP hD hP1 hD1 hk1 hFc [false, true] hCc rfl
  clear hP1 hD1 hK1 hk1 hz1 hFc hDc hPc hKc hCc
  generalize H1 = H at hP hS ⊢
  have w_1 : ∀ k : Nat, k < 160 → o_2 k = 0 := w_1
  refine lv_aload_n hx hb dX1_clear_8 rfl (lv_at hl 0 rfl) ?_
  refine lv_iconst (v := 0) hx hb dX1_clear_9 (by decide) ?_
  refine va_put (D := (dC, dI)) (ci := 1) (v := .int 0) (ty := .int) (C := RX1) (T := TX1) (N := 4) hx hb hts hi_1 tyX1 tyX1_ok nmX1 hown hK hP hD hS 0 rfl rfl 2 (by decide) hf_34 (fun _ h9 => h9) rfl (by decide +kernel) rfl rfl (Nat.le_of_ble_eq_true rfl) dX1_clear_10 (fun H locs hP hD hS => ?_)
  obtain ⟨hP, hD⟩ := kx_re (w2 := [kx_1 t_ t_k t_o 0 mo, kx_a t_o cyI 160 o_2]) hP hD rfl
  refine lv_aload_n hx hb dX1_clear_13 rfl (lv_at hl 0 rfl) ?_
  refine lv_iconst (v := 0) hx hb dX1_clear_14 (by decide) ?_
  refine va_put (D := (dC, dI)) (ci := 1) (v := .int 0) (ty := .int) (C := RX1) (T := TX1) (N := 4) hx hb hts hi_1 tyX1 tyX1_ok nmX1 hown hK hP hD hS 0 rfl rfl 3 (by decide) hf_37 (fun _ h9 => h9) rfl (by decide +kernel) rfl rfl (Nat.le_of_ble_eq_true rfl) dX1_clear_15 (fun H locs hP hD hS => ?_)
  obtain ⟨hP, hD⟩ := kx_re (w2 := [kx_1 t_ t_k t_o 0 0, kx_a t_o cyI 160 o_2]) hP hD rfl
  have hP9 := hP
  have hD9 := hD
  have hK9 := hK
  exact W.vret hx hb hr (hlocks := hlocks) (fun t ht hW => ⟨⟨(o_2), rfl, w_1, by rw [ht]; exact hP9, va_K.moved hW.alike hK9, hD9⟩, hS.F ht⟩) hS.2.2 dX1_clear_18

set_option maxHeartbeats 4000000 in
set_option maxRecDepth 100000 in
theorem c_X1_take (l : Launch) (dC : Nat → ClassId) (dI : Nat → Nat → Nat) (t_ : Nat) (t_k : Nat) (t_o : Nat) (cyI : ClassId) (tk : Int32) (mo : Int32) (fk : Nat → Int32) (fq : Nat → Int32) (nn : Int) (p0 : Int32) (sz : Nat) (k0 : kindOk fk nn) (b0 : 0 ≤ p0.toInt) (b1 : p0.toInt < nn) (b2 : nn ≤ 160) : kx_MQ l (dC, dI) yX1_take wsX1_take ({ frames := 0, cells := 0, slots := 0, locals := 0 }) [.ref t_, .int p0] [kx_1 t_ t_k t_o tk mo, kx_a t_k cyI 160 fk, kx_a t_o cyI 160 fq] [(cyI, .int)] sz (fun A => va_Qv (fun u : Int32 × Int32 × (Nat → Int32) => True) (fun (u : Int32 × Int32 × (Nat → Int32)) (t : State) => va_P (dC, dI) vwCl [kx_1 t_ t_k t_o u.1 u.2.1, kx_a t_k cyI 160 fk, kx_a t_o cyI 160 u.2.2] t.heap ∧ va_K (dC, dI) vwCl [(cyI, .int)] t ∧ va_D A [kx_1 t_ t_k t_o u.1 u.2.1, kx_a t_k cyI 160 fk, kx_a t_o cyI 160 u.2.2]) A) := by
  refine kx_stQ (ws := wsX1_take) (cc := cX1_take) (maxL := 3) (ret := none) (by decide) rfl (Nat.le_of_ble_eq_true rfl) ?_
  intro p e s m below meth c A ls hx hb hr hlocks hts hown hml hA hS hP hK hD hl
  have hown : s.vm.findClass RX1 = some m.cls := hown
  have hl : lv_has ls 3 [(0, .ref t_), (1, .int p0)] := hl
  have hf_15 := hts (.fieldLink RX1 15 "MajorityIndex$Tally" "often" "[I") (List.mem_of_getElem? (i := 1) rfl)
  have hi_1 : ∀ w ∈ u_ws RX1 TX1 4, w ∈ wsX1_take := fun w h => List.mem_cons_of_mem _ (List.mem_append_right _ h)
  have hf_9 := hts (.fieldLink RX1 9 "MajorityIndex$Tally" "kind" "[I") (List.mem_of_getElem? (i := 2) rfl)
  have hf_34 := hts (.fieldLink RX1 34 "MajorityIndex$Tally" "taken" "I") (List.mem_of_getElem? (i := 3) rfl)
  have hf_37 := hts (.fieldLink RX1 37 "MajorityIndex$Tally" "most" "I") (List.mem_of_getElem? (i := 4) rfl)
  refine lv_aload_n hx hb dX1_take_0 rfl (lv_at hl 0 rfl) ?_
  refine va_get (D := (dC, dI)) (ci := 1) (v := .ref t_o) (C := RX1) (T := TX1) (N := 4) hx hb hts hi_1 hown hK hP 0 rfl rfl 1 (by decide) hf_15 (fun _ h9 => h9) rfl dX1_take_1 ?_
  refine lv_aload_n hx hb dX1_take_4 rfl (lv_at hl 0 rfl) ?_
  refine va_get (D := (dC, dI)) (ci := 1) (v := .ref t_k) (C := RX1) (T := TX1) (N := 4) hx hb hts hi_1 hown hK hP 0 rfl rfl 0 (by decide) hf_9 (fun _ h9 => h9) rfl dX1_take_5 ?_
  refine lv_iload_n hx hb dX1_take_8 rfl (lv_at hl 1 rfl) ?_
  refine va_iald hx hb hK hP 1 0 rfl rfl (ki_in (om_10 b0) (by omega)) dX1_take_9 ?_
  refine lv_topi (fun y_1 ey_1 => ?_)
  have j_1 : y_1.toInt = (fk p0.toNatClampNeg).toInt := congrArg Int32.toInt ey_1
  have n_2 : (p0.toNatClampNeg : Int) = p0.toInt := ki_nat _ rfl (om_10 b0)
  have i_3 := k0 p0.toNatClampNeg (by omega)
  refine va_iald hx hb hK hP 2 0 rfl rfl (ki_in (om_144 j_1 i_3.1) (by omega)) dX1_take_10 ?_
  refine lv_topi (fun y_4 ey_4 => ?_)
  have j_4 : y_4.toInt = (fq y_1.toNatClampNeg).toInt := congrArg Int32.toInt ey_4
  refine lv_iconst (v := 1) hx hb dX1_take_11 (by decide) ?_
  refine lv_iadd hx hb dX1_take_12 ?_
  refine lv_topi (fun y_5 ey_5 => ?_)
  refine lv_istore_n (lv' := [(2, .int y_5), (0, .ref t_), (1, .int p0)]) hx hb dX1_take_13 rfl hl (by decide) rfl (fun ls hl => ?_)
  refine lv_aload_n hx hb dX1_take_14 rfl (lv_at hl 1 rfl) ?_
  refine va_get (D := (dC, dI)) (ci := 1) (v := .ref t_o) (C := RX1) (T := TX1) (N := 4) hx hb hts hi_1 hown hK hP 0 rfl rfl 1 (by decide) hf_15 (fun _ h9 => h9) rfl dX1_take_15 ?_
  refine lv_aload_n hx hb dX1_take_18 rfl (lv_at hl 1 rfl) ?_
  refine va_get (D := (dC, dI)) (ci := 1) (v := .ref t_k) (C := RX1) (T := TX1) (N := 4) hx hb hts hi_1 hown hK hP 0 rfl rfl 0 (by decide) hf_9 (fun _ h9 => h9) rfl dX1_take_19 ?_
  refine lv_iload_n hx hb dX1_take_22 rfl (lv_at hl 2 rfl) ?_
  refine va_iald hx hb hK hP 1 0 rfl rfl (ki_in (om_10 b0) (by omega)) dX1_take_23 ?_
  refine lv_topi (fun y_6 ey_6 => ?_)
  have j_6 : y_6.toInt = (fk p0.toNatClampNeg).toInt := congrArg Int32.toInt ey_6
  have n_7 : (p0.toNatClampNeg : Int) = p0.toInt := ki_nat _ rfl (om_10 b0)
  have i_8 := k0 p0.toNatClampNeg (by omega)
  refine lv_iload_n hx hb dX1_take_24 rfl (lv_at hl 0 rfl) ?_
  refine va_iast hx hb hK hP hD hS 2 0 rfl rfl (ki_in (om_144 j_6 i_8.1) (by omega)) dX1_take_25 (fun H locs hP hD hS => ?_)
  obtain ⟨hP, hD⟩ := kx_re (w2 := [kx_1 t_ t_k t_o tk mo, kx_a t_k cyI 160 fk, kx_a t_o cyI 160 (upd fq y_6.toNatClampNeg y_5)]) hP hD rfl
  refine lv_aload_n hx hb dX1_take_26 rfl (lv_at hl 1 rfl) ?_
  refine lv_dup hx hb dX1_take_27 rfl ?_
  refine va_get (D := (dC, dI)) (ci := 1) (v := .int tk) (C := RX1) (T := TX1) (N := 4) hx hb hts hi_1 hown hK hP 0 rfl rfl 2 (by decide) hf_34 (fun _ h9 => h9) rfl dX1_take_28 ?_
  refine lv_iconst (v := 1) hx hb dX1_take_31 (by decide) ?_
  refine lv_iadd hx hb dX1_take_32 ?_
  refine lv_topi (fun y_9 ey_9 => ?_)
  refine va_put (D := (dC, dI)) (ci := 1) (v := .int y_9) (ty := .int) (C := RX1) (T := TX1) (N := 4) hx hb hts hi_1 tyX1 tyX1_ok nmX1 hown hK hP hD hS 0 rfl rfl 2 (by decide) hf_34 (fun _ h9 => h9) rfl (by decide +kernel) rfl rfl (Nat.le_of_ble_eq_true rfl) dX1_take_33 (fun H locs hP hD hS => ?_)
  obtain ⟨hP, hD⟩ := kx_re (w2 := [kx_1 t_ t_k t_o y_9 mo, kx_a t_k cyI 160 fk, kx_a t_o cyI 160 (upd fq y_6.toNatClampNeg y_5)]) hP hD rfl
  refine lv_iload_n hx hb dX1_take_36 rfl (lv_at hl 0 rfl) ?_
  refine lv_aload_n hx hb dX1_take_37 rfl (lv_at hl 1 rfl) ?_
  refine va_get (D := (dC, dI)) (ci := 1) (v := .int mo) (C := RX1) (T := TX1) (N := 4) hx hb hts hi_1 hown hK hP 0 rfl rfl 3 (by decide) hf_37 (fun _ h9 => h9) rfl dX1_take_38 ?_
  refine lv_icmp_le (tgt := 49) hx hb dX1_take_41 (by decide) (fun c_10 => ?_) (fun c_10 => ?_)
  · have i_10 : y_5.toInt ≤ mo.toInt := kc_le c_10
    have hP9 := hP
    have hD9 := hD
    have hK9 := hK
    exact W.vret hx hb hr (hlocks := hlocks) (fun t ht hW => ⟨⟨(y_9, mo, (upd fq y_6.toNatClampNeg y_5)), rfl, trivial, by rw [ht]; exact hP9, va_K.moved hW.alike hK9, hD9⟩, hS.F ht⟩) hS.2.2 dX1_take_49
  · have i_10 : mo.toInt < y_5.toInt := kc_nle c_10
    refine lv_aload_n hx hb dX1_take_44 rfl (lv_at hl 1 rfl) ?_
    refine lv_iload_n hx hb dX1_take_45 rfl (lv_at hl 0 rfl) ?_
    refine va_put (D := (dC, dI)) (ci := 1) (v := .int y_5) (ty := .int) (C := RX1) (T := TX1) (N := 4) hx hb hts hi_1 tyX1 tyX1_ok nmX1 hown hK hP hD hS 0 rfl rfl 3 (by decide) hf_37 (fun _ h9 => h9) rfl (by decide +kernel) rfl rfl (Nat.le_of_ble_eq_true rfl) dX1_take_46 (fun H locs hP hD hS => ?_)
    obtain ⟨hP, hD⟩ := kx_re (w2 := [kx_1 t_ t_k t_o y_9 y_5, kx_a t_k cyI 160 fk, kx_a t_o cyI 160 (upd fq y_6.toNatClampNeg y_5)]) hP hD rfl
    have hP9 := hP
    have hD9 := hD
    have hK9 := hK
    exact W.vret hx hb hr (hlocks := hlocks) (fun t ht hW => ⟨⟨(y_9, y_5, (upd fq y_6.toNatClampNeg y_5)), rfl, trivial, by rw [ht]; exact hP9, va_K.moved hW.alike hK9, hD9⟩, hS.F ht⟩) hS.2.2 dX1_take_49

set_option maxHeartbeats 4000000 in
set_option maxRecDepth 100000 in
theorem c_X1_hasMajority (l : Launch) (dC : Nat → ClassId) (dI : Nat → Nat → Nat) (t_ : Nat) (t_k : Nat) (t_o : Nat) (tk : Int32) (mo : Int32) : Met l yX1_hasMajority wsX1_hasMajority ({ frames := 0, cells := 0, slots := 0, locals := 0 }) (va_Pc [.ref t_] (fun U => va_P (dC, dI) vwCl [kx_1 t_ t_k t_o tk mo] U.heap ∧ va_K (dC, dI) vwCl [] U)) (vp_Si (fun r : Int32 => (r = 1 ∧ (0 : Int) ≤ 1) ∨ (r = 0 ∧ (0 : Int) ≤ 1))) 0 0 (fun _ => False) := by
  refine kx_stS (ws := wsX1_hasMajority) (cc := cX1_hasMajority) (maxL := 1) (ret := (some .boolean)) (by decide) rfl (Nat.le_of_ble_eq_true rfl) ?_
  intro p e s m below meth c ls hx hb hr hlocks hts hown hml hP hK hl
  have hown : s.vm.findClass RX1 = some m.cls := hown
  have hl : lv_has ls 1 [(0, .ref t_)] := hl
  have hf_37 := hts (.fieldLink RX1 37 "MajorityIndex$Tally" "most" "I") (List.mem_of_getElem? (i := 1) rfl)
  have hi_1 : ∀ w ∈ u_ws RX1 TX1 4, w ∈ wsX1_hasMajority := fun w h => List.mem_cons_of_mem _ (List.mem_append_right _ h)
  have hf_34 := hts (.fieldLink RX1 34 "MajorityIndex$Tally" "taken" "I") (List.mem_of_getElem? (i := 2) rfl)
  refine lv_iconst (v := 2) hx hb dX1_hasMajority_0 (by decide) ?_
  refine lv_aload_n hx hb dX1_hasMajority_1 rfl (lv_at hl 0 rfl) ?_
  refine va_get (D := (dC, dI)) (ci := 1) (v := .int mo) (C := RX1) (T := TX1) (N := 4) hx hb hts hi_1 hown hK hP 0 rfl rfl 3 (by decide) hf_37 (fun _ h9 => h9) rfl dX1_hasMajority_2 ?_
  refine lv_imul hx hb dX1_hasMajority_5 ?_
  refine lv_topi (fun y_1 ey_1 => ?_)
  refine lv_aload_n hx hb dX1_hasMajority_6 rfl (lv_at hl 0 rfl) ?_
  refine va_get (D := (dC, dI)) (ci := 1) (v := .int tk) (C := RX1) (T := TX1) (N := 4) hx hb hts hi_1 hown hK hP 0 rfl rfl 2 (by decide) hf_34 (fun _ h9 => h9) rfl dX1_hasMajority_7 ?_
  refine lv_icmp_le (tgt := 17) hx hb dX1_hasMajority_10 (by decide) (fun c_2 => ?_) (fun c_2 => ?_)
  · have i_2 : y_1.toInt ≤ tk.toInt := kc_le c_2
    refine lv_iconst (v := 0) hx hb dX1_hasMajority_17 (by decide) ?_
    exact W.zret (v := 0) hx hb hr (by decide) (hlocks := hlocks) (fun t ht hW => ⟨0, rfl, Or.inr (⟨rfl, om_29⟩), ht⟩) (fun q hq => by cases hq) dX1_hasMajority_18
  · have i_2 : tk.toInt < y_1.toInt := kc_nle c_2
    refine lv_iconst (v := 1) hx hb dX1_hasMajority_13 (by decide) ?_
    refine lv_goto (tgt := 18) hx hb dX1_hasMajority_14 (by decide) ?_
    exact W.zret (v := 1) hx hb hr (by decide) (hlocks := hlocks) (fun t ht hW => ⟨1, rfl, Or.inl ⟨rfl, om_29⟩, ht⟩) (fun q hq => by cases hq) dX1_hasMajority_18



abbrev wsX40 : List Cond := u_ws RX4 TX4 9
theorem nmX4 : ∀ a, a < 9 → ∀ b, b < 9 → a ≠ b → (TX4 a).2.1 ≠ (TX4 b).2.1 := by decide +kernel
theorem tyX4_ok : ∀ k, k < 9 → parseFieldDescriptor (TX4 k).2.2.1 = some (tyX4 k) := by decide +kernel
abbrev cX4_feed : ByteArray := prog_1_method_2_code
def yX4_feed : MethodName := ⟨RX4, "feed", "(II)I"⟩
abbrev cX4_end : ByteArray := prog_1_method_3_code
def yX4_end : MethodName := ⟨RX4, "end", "(I)I"⟩
abbrev cX4_slots : ByteArray := prog_1_method_4_code
def yX4_slots : MethodName := ⟨RX4, "slots", "(I)I"⟩
abbrev cX4_insert : ByteArray := prog_1_method_9_code
def yX4_insert : MethodName := ⟨RX4, "insert", "(II)I"⟩
abbrev cX4_remove : ByteArray := prog_1_method_10_code
def yX4_remove : MethodName := ⟨RX4, "remove", "(I)I"⟩
abbrev cX4_isValue : ByteArray := prog_1_method_46_code
def yX4_isValue : MethodName := ⟨RX4, "isValue", "(I)Z"⟩
abbrev cX4_isShare : ByteArray := prog_1_method_47_code
def yX4_isShare : MethodName := ⟨RX4, "isShare", "(II)Z"⟩
abbrev cX4_laidTree : ByteArray := prog_1_method_51_code
def yX4_laidTree : MethodName := ⟨RX4, "laidTree", "()LMajorityIndex$Tree;"⟩
def wsX4_feed : List Cond := .code yX4_feed cX4_feed 3 (some .int) :: ([.fieldLink RX4 12 "MajorityIndex" "row" "LMajorityIndex$Row;", .fieldLink RX4 57 "MajorityIndex$Row" "length" "I", .fieldLink RX4 53 "MajorityIndex" "treeIsOld" "Z", .methodLink RX4 60 yX0_append, .instanceMethod yX0_append, .selects RX0 yX0_append yX0_append, .initialized RX0, .code yX0_append cX0_append 2 none, .fieldLink RX0 15 "MajorityIndex$Row" "length" "I", .fieldLink RX0 9 "MajorityIndex$Row" "cell" "[I"] ++ wsX40 ++ wsX00)
def wsX4_end : List Cond := .code yX4_end cX4_end 2 (some .int) :: ([.fieldLink RX4 12 "MajorityIndex" "row" "LMajorityIndex$Row;", .fieldLink RX4 57 "MajorityIndex$Row" "length" "I", .fieldLink RX4 53 "MajorityIndex" "treeIsOld" "Z"] ++ wsX40 ++ wsX00)
def wsX4_slots : List Cond := .code yX4_slots cX4_slots 3 (some .int) :: ([.fieldLink RX4 49 "MajorityIndex" "slotsNow" "I", .fieldLink RX4 53 "MajorityIndex" "treeIsOld" "Z"] ++ wsX40)
def wsX4_isValue : List Cond := .code yX4_isValue cX4_isValue 1 (some .boolean) :: ([])
def wsX4_laidTree_r1 : List Cond := [Cond.fieldLink RX4 53 "MajorityIndex" "treeIsOld" "Z", Cond.fieldLink RX4 21 "MajorityIndex" "tree" "LMajorityIndex$Tree;", Cond.fieldLink RX4 49 "MajorityIndex" "slotsNow" "I", Cond.fieldLink RX4 204 "MajorityIndex$Tree" "slotsHere" "I", Cond.fieldLink RX4 12 "MajorityIndex" "row" "LMajorityIndex$Row;", Cond.fieldLink RX4 57 "MajorityIndex$Row" "length" "I", Cond.methodLink RX4 259 yX2_layRanges, Cond.instanceMethod yX2_layRanges, Cond.selects RX2 yX2_layRanges yX2_layRanges, Cond.initialized RX2, Cond.code yX2_layRanges cX2_layRanges 2 none, Cond.fieldLink RX2 40 "MajorityIndex$Tree" "row" "LMajorityIndex$Row;", Cond.fieldLink RX2 44 "MajorityIndex$Row" "length" "I", Cond.fieldLink RX2 50 "MajorityIndex$Tree" "nodes" "I", Cond.fieldLink RX2 18 "MajorityIndex$Tree" "from" "[I", Cond.fieldLink RX2 22 "MajorityIndex$Tree" "to" "[I", Cond.methodLink RX2 53 yX2_layBelow, Cond.instanceMethod yX2_layBelow, Cond.selects RX2 yX2_layBelow yX2_layBelow, Cond.code yX2_layBelow cX2_layBelow 4 none, Cond.methodLink RX2 57 yX2_rightBelow, Cond.instanceMethod yX2_rightBelow, Cond.selects RX2 yX2_rightBelow yX2_rightBelow, Cond.code yX2_rightBelow cX2_rightBelow 3 (some .int)]
def wsX4_laidTree_r2 : List Cond := [Cond.methodLink RX4 87 yX2_renew, Cond.instanceMethod yX2_renew, Cond.selects RX2 yX2_renew yX2_renew, Cond.code yX2_renew cX2_renew 5 (some .int), Cond.methodLink RX2 61 yX2_putTogether, Cond.instanceMethod yX2_putTogether, Cond.selects RX2 yX2_putTogether yX2_putTogether, Cond.code yX2_putTogether cX2_putTogether 2 none, Cond.fieldLink RX2 12 "MajorityIndex$Tree" "joined" "LMajorityIndex$Votes;", Cond.fieldLink RX2 74 "MajorityIndex$Row" "cell" "[I", Cond.fieldLink RX2 85 "MajorityIndex$Tree" "slotsHere" "I", Cond.methodLink RX2 71 yX3_clear, Cond.instanceMethod yX3_clear, Cond.selects RX3 yX3_clear yX3_clear, Cond.initialized RX3, Cond.code yX3_clear cX3_clear 1 none, Cond.fieldLink RX3 18 "MajorityIndex$Votes" "size" "I", Cond.fieldLink RX3 22 "MajorityIndex$Votes" "lost" "I", Cond.fieldLink RX3 25 "MajorityIndex$Votes" "lessBy" "I", Cond.methodLink RX2 77 yX3_add, Cond.instanceMethod yX3_add, Cond.selects RX3 yX3_add yX3_add, Cond.code yX3_add cX3_add 4 none, Cond.fieldLink RX3 9 "MajorityIndex$Votes" "value" "[I"]
def wsX4_laidTree_r3 : List Cond := [Cond.fieldLink RX3 15 "MajorityIndex$Votes" "number" "[I", Cond.methodLink RX2 81 yX2_joinNode, Cond.instanceMethod yX2_joinNode, Cond.selects RX2 yX2_joinNode yX2_joinNode, Cond.code yX2_joinNode cX2_joinNode 5 none, Cond.fieldLink RX2 25 "MajorityIndex$Tree" "size" "[I", Cond.fieldLink RX2 34 "MajorityIndex$Tree" "value" "[I", Cond.fieldLink RX2 37 "MajorityIndex$Tree" "number" "[I", Cond.fieldLink RX2 91 "MajorityIndex$Votes" "lost" "I", Cond.fieldLink RX2 28 "MajorityIndex$Tree" "lossOf" "[I", Cond.methodLink RX2 88 yX3_cancel, Cond.instanceMethod yX3_cancel, Cond.selects RX3 yX3_cancel yX3_cancel, Cond.code yX3_cancel cX3_cancel 4 none, Cond.methodLink RX3 32 yX3_order, Cond.instanceMethod yX3_order, Cond.selects RX3 yX3_order yX3_order, Cond.code yX3_order cX3_order 3 none, Cond.methodLink RX3 35 yX3_isAhead, Cond.instanceMethod yX3_isAhead, Cond.selects RX3 yX3_isAhead yX3_isAhead, Cond.code yX3_isAhead cX3_isAhead 3 (some .boolean), Cond.methodLink RX3 39 yX3_exchange, Cond.instanceMethod yX3_exchange]
def wsX4_laidTree_r4 : List Cond := [Cond.selects RX3 yX3_exchange yX3_exchange, Cond.code yX3_exchange cX3_exchange 5 none, Cond.methodLink RX2 64 yX2_isJoined, Cond.instanceMethod yX2_isJoined, Cond.selects RX2 yX2_isJoined yX2_isJoined, Cond.code yX2_isJoined cX2_isJoined 4 (some .boolean), Cond.fieldLink RX2 94 "MajorityIndex$Votes" "size" "I", Cond.fieldLink RX2 96 "MajorityIndex$Votes" "value" "[I", Cond.fieldLink RX2 97 "MajorityIndex$Votes" "number" "[I", Cond.methodLink RX2 68 yX2_keepJoined, Cond.instanceMethod yX2_keepJoined, Cond.selects RX2 yX2_keepJoined yX2_keepJoined, Cond.code yX2_keepJoined cX2_keepJoined 4 none, Cond.methodLink RX2 98 Lib.Math.min.name, Cond.static Lib.Math.min.name, Cond.initialized "java/lang/Math", Cond.code Lib.Math.min.name Lib.Math.min.code 2 (some .int), Cond.fieldLink RX2 31 "MajorityIndex$Tree" "lessBy" "[I", Cond.fieldLink RX2 104 "MajorityIndex$Votes" "lessBy" "I"]
def wsX4_laidTree : List Cond := .code yX4_laidTree cX4_laidTree 1 (some (.object "MajorityIndex$Tree")) :: ((wsX4_laidTree_r1 ++ (wsX4_laidTree_r2 ++ (wsX4_laidTree_r3 ++ wsX4_laidTree_r4))) ++ wsX40 ++ wsX20 ++ wsX00 ++ wsX30)
def wsX4_insert : List Cond := .code yX4_insert cX4_insert 3 (some .int) :: ([.fieldLink RX4 12 "MajorityIndex" "row" "LMajorityIndex$Row;", .fieldLink RX4 57 "MajorityIndex$Row" "length" "I", .fieldLink RX4 53 "MajorityIndex" "treeIsOld" "Z", .methodLink RX4 68 yX4_isValue, .static yX4_isValue, .initialized RX4, .code yX4_isValue cX4_isValue 1 (some .boolean), .methodLink RX4 99 yX0_putIn, .instanceMethod yX0_putIn, .selects RX0 yX0_putIn yX0_putIn, .initialized RX0, .code yX0_putIn cX0_putIn 4 none, .fieldLink RX0 15 "MajorityIndex$Row" "length" "I", .fieldLink RX0 9 "MajorityIndex$Row" "cell" "[I"] ++ wsX40 ++ wsX00)
def wsX4_remove : List Cond := .code yX4_remove cX4_remove 3 (some .int) :: ([.fieldLink RX4 12 "MajorityIndex" "row" "LMajorityIndex$Row;", .constant RX4 102 (-40000), .fieldLink RX4 53 "MajorityIndex" "treeIsOld" "Z", .methodLink RX4 64 yX0_hasPlace, .instanceMethod yX0_hasPlace, .selects RX0 yX0_hasPlace yX0_hasPlace, .initialized RX0, .code yX0_hasPlace cX0_hasPlace 2 (some .boolean), .fieldLink RX0 15 "MajorityIndex$Row" "length" "I", .methodLink RX4 103 yX0_takeOut, .instanceMethod yX0_takeOut, .selects RX0 yX0_takeOut yX0_takeOut, .code yX0_takeOut cX0_takeOut 4 (some .int), .constant RX0 23 (-40000), .fieldLink RX0 9 "MajorityIndex$Row" "cell" "[I", .methodLink RX0 19 yX0_hasPlace] ++ wsX40 ++ wsX00)
def wsX4_isShare : List Cond := .code yX4_isShare cX4_isShare 2 (some .boolean) :: ([])
set_option maxRecDepth 20000 in
theorem ggX4_feed_X0_append : GoodIn wsX4_feed wsX0_append := goodIn_r _ [8, 9, 10, 20, 21] rfl (by decide +kernel)
set_option maxRecDepth 20000 in
theorem gX4_feed_X0_append : GoodIn wsX4_feed (wsV RX4 60 RX0 yX0_append wsX0_append) := goodIn_app (goodIn_r _ [4, 5, 6, 7] rfl (by decide +kernel)) ggX4_feed_X0_append
def dt_cX4_feed_0 : List (Nat × Nat × Nat × Nat) := [(0, 42, 0, 0), (1, 180, 2, 12), (4, 180, 2, 57), (7, 7, 0, 0), (8, 96, 0, 0), (9, 17, 2, 160), (12, 164, 2, 5), (15, 2, 0, 0), (16, 172, 0, 0), (17, 42, 0, 0), (18, 180, 2, 12), (21, 27, 0, 0), (22, 16, 1, 16), (24, 122, 0, 0), (25, 182, 2, 60), (28, 42, 0, 0), (29, 180, 2, 12), (32, 27, 0, 0), (33, 147, 0, 0), (34, 182, 2, 60)]
theorem da_cX4_feed_0 : fw dt_cX4_feed_0 0 cX4_feed.data.toList = true := by decide +kernel
theorem dX4_feed_0 : decode cX4_feed 0 = .ok (.aload_n 0, 1) := fo_42 (fw_get da_cX4_feed_0 0 rfl)
theorem dX4_feed_1 : decode cX4_feed 1 = .ok (.getfield 12, 3) := fo_180 (fw_get da_cX4_feed_0 1 rfl)
theorem dX4_feed_4 : decode cX4_feed 4 = .ok (.getfield 57, 3) := fo_180 (fw_get da_cX4_feed_0 2 rfl)
theorem dX4_feed_7 : decode cX4_feed 7 = .ok (.iconst 4, 1) := fo_7 (fw_get da_cX4_feed_0 3 rfl)
theorem dX4_feed_8 : decode cX4_feed 8 = .ok (.iadd, 1) := fo_96 (fw_get da_cX4_feed_0 4 rfl)
theorem dX4_feed_9 : decode cX4_feed 9 = .ok (.sipush 160, 3) := fo_17 (fw_get da_cX4_feed_0 5 rfl) (by decide +kernel)
theorem dX4_feed_12 : decode cX4_feed 12 = .ok (.if_icmp .le 5, 3) := fo_164 (fw_get da_cX4_feed_0 6 rfl) (by decide +kernel)
theorem dX4_feed_15 : decode cX4_feed 15 = .ok (.iconst (-1), 1) := fo_2 (fw_get da_cX4_feed_0 7 rfl)
theorem dX4_feed_16 : decode cX4_feed 16 = .ok (.ireturn, 1) := fo_172 (fw_get da_cX4_feed_0 8 rfl)
theorem dX4_feed_17 : decode cX4_feed 17 = .ok (.aload_n 0, 1) := fo_42 (fw_get da_cX4_feed_0 9 rfl)
theorem dX4_feed_18 : decode cX4_feed 18 = .ok (.getfield 12, 3) := fo_180 (fw_get da_cX4_feed_0 10 rfl)
theorem dX4_feed_21 : decode cX4_feed 21 = .ok (.iload_n 1, 1) := fo_27 (fw_get da_cX4_feed_0 11 rfl)
theorem dX4_feed_22 : decode cX4_feed 22 = .ok (.bipush 16, 2) := fo_16 (fw_get da_cX4_feed_0 12 rfl) (by decide +kernel)
theorem dX4_feed_24 : decode cX4_feed 24 = .ok (.ishr, 1) := fo_122 (fw_get da_cX4_feed_0 13 rfl)
theorem dX4_feed_25 : decode cX4_feed 25 = .ok (.invokevirtual 60, 3) := fo_182 (fw_get da_cX4_feed_0 14 rfl)
theorem dX4_feed_28 : decode cX4_feed 28 = .ok (.aload_n 0, 1) := fo_42 (fw_get da_cX4_feed_0 15 rfl)
theorem dX4_feed_29 : decode cX4_feed 29 = .ok (.getfield 12, 3) := fo_180 (fw_get da_cX4_feed_0 16 rfl)
theorem dX4_feed_32 : decode cX4_feed 32 = .ok (.iload_n 1, 1) := fo_27 (fw_get da_cX4_feed_0 17 rfl)
theorem dX4_feed_33 : decode cX4_feed 33 = .ok (.i2s, 1) := fo_147 (fw_get da_cX4_feed_0 18 rfl)
theorem dX4_feed_34 : decode cX4_feed 34 = .ok (.invokevirtual 60, 3) := fo_182 (fw_get da_cX4_feed_0 19 rfl)
def dt_cX4_feed_1 : List (Nat × Nat × Nat × Nat) := [(37, 42, 0, 0), (38, 180, 2, 12), (41, 28, 0, 0), (42, 16, 1, 16), (44, 122, 0, 0), (45, 182, 2, 60), (48, 42, 0, 0), (49, 180, 2, 12), (52, 28, 0, 0), (53, 147, 0, 0), (54, 182, 2, 60), (57, 42, 0, 0), (58, 4, 0, 0), (59, 181, 2, 53), (62, 42, 0, 0), (63, 180, 2, 12), (66, 180, 2, 57), (69, 172, 0, 0)]
theorem da_cX4_feed_1 : fw dt_cX4_feed_1 0 cX4_feed.data.toList = true := by decide +kernel
theorem dX4_feed_37 : decode cX4_feed 37 = .ok (.aload_n 0, 1) := fo_42 (fw_get da_cX4_feed_1 0 rfl)
theorem dX4_feed_38 : decode cX4_feed 38 = .ok (.getfield 12, 3) := fo_180 (fw_get da_cX4_feed_1 1 rfl)
theorem dX4_feed_41 : decode cX4_feed 41 = .ok (.iload_n 2, 1) := fo_28 (fw_get da_cX4_feed_1 2 rfl)
theorem dX4_feed_42 : decode cX4_feed 42 = .ok (.bipush 16, 2) := fo_16 (fw_get da_cX4_feed_1 3 rfl) (by decide +kernel)
theorem dX4_feed_44 : decode cX4_feed 44 = .ok (.ishr, 1) := fo_122 (fw_get da_cX4_feed_1 4 rfl)
theorem dX4_feed_45 : decode cX4_feed 45 = .ok (.invokevirtual 60, 3) := fo_182 (fw_get da_cX4_feed_1 5 rfl)
theorem dX4_feed_48 : decode cX4_feed 48 = .ok (.aload_n 0, 1) := fo_42 (fw_get da_cX4_feed_1 6 rfl)
theorem dX4_feed_49 : decode cX4_feed 49 = .ok (.getfield 12, 3) := fo_180 (fw_get da_cX4_feed_1 7 rfl)
theorem dX4_feed_52 : decode cX4_feed 52 = .ok (.iload_n 2, 1) := fo_28 (fw_get da_cX4_feed_1 8 rfl)
theorem dX4_feed_53 : decode cX4_feed 53 = .ok (.i2s, 1) := fo_147 (fw_get da_cX4_feed_1 9 rfl)
theorem dX4_feed_54 : decode cX4_feed 54 = .ok (.invokevirtual 60, 3) := fo_182 (fw_get da_cX4_feed_1 10 rfl)
theorem dX4_feed_57 : decode cX4_feed 57 = .ok (.aload_n 0, 1) := fo_42 (fw_get da_cX4_feed_1 11 rfl)
theorem dX4_feed_58 : decode cX4_feed 58 = .ok (.iconst 1, 1) := fo_4 (fw_get da_cX4_feed_1 12 rfl)
theorem dX4_feed_59 : decode cX4_feed 59 = .ok (.putfield 53, 3) := fo_181 (fw_get da_cX4_feed_1 13 rfl)
theorem dX4_feed_62 : decode cX4_feed 62 = .ok (.aload_n 0, 1) := fo_42 (fw_get da_cX4_feed_1 14 rfl)
theorem dX4_feed_63 : decode cX4_feed 63 = .ok (.getfield 12, 3) := fo_180 (fw_get da_cX4_feed_1 15 rfl)
theorem dX4_feed_66 : decode cX4_feed 66 = .ok (.getfield 57, 3) := fo_180 (fw_get da_cX4_feed_1 16 rfl)
theorem dX4_feed_69 : decode cX4_feed 69 = .ok (.ireturn, 1) := fo_172 (fw_get da_cX4_feed_1 17 rfl)
def dt_cX4_end_0 : List (Nat × Nat × Nat × Nat) := [(0, 27, 0, 0), (1, 155, 2, 14), (4, 27, 0, 0), (5, 42, 0, 0), (6, 180, 2, 12), (9, 180, 2, 57), (12, 164, 2, 5), (15, 2, 0, 0), (16, 172, 0, 0), (17, 42, 0, 0), (18, 180, 2, 12), (21, 27, 0, 0), (22, 181, 2, 57), (25, 42, 0, 0), (26, 4, 0, 0), (27, 181, 2, 53), (30, 27, 0, 0), (31, 172, 0, 0)]
theorem da_cX4_end_0 : fw dt_cX4_end_0 0 cX4_end.data.toList = true := by decide +kernel
theorem dX4_end_0 : decode cX4_end 0 = .ok (.iload_n 1, 1) := fo_27 (fw_get da_cX4_end_0 0 rfl)
theorem dX4_end_1 : decode cX4_end 1 = .ok (.ifCond .lt 14, 3) := fo_155 (fw_get da_cX4_end_0 1 rfl) (by decide +kernel)
theorem dX4_end_4 : decode cX4_end 4 = .ok (.iload_n 1, 1) := fo_27 (fw_get da_cX4_end_0 2 rfl)
theorem dX4_end_5 : decode cX4_end 5 = .ok (.aload_n 0, 1) := fo_42 (fw_get da_cX4_end_0 3 rfl)
theorem dX4_end_6 : decode cX4_end 6 = .ok (.getfield 12, 3) := fo_180 (fw_get da_cX4_end_0 4 rfl)
theorem dX4_end_9 : decode cX4_end 9 = .ok (.getfield 57, 3) := fo_180 (fw_get da_cX4_end_0 5 rfl)
theorem dX4_end_12 : decode cX4_end 12 = .ok (.if_icmp .le 5, 3) := fo_164 (fw_get da_cX4_end_0 6 rfl) (by decide +kernel)
theorem dX4_end_15 : decode cX4_end 15 = .ok (.iconst (-1), 1) := fo_2 (fw_get da_cX4_end_0 7 rfl)
theorem dX4_end_16 : decode cX4_end 16 = .ok (.ireturn, 1) := fo_172 (fw_get da_cX4_end_0 8 rfl)
theorem dX4_end_17 : decode cX4_end 17 = .ok (.aload_n 0, 1) := fo_42 (fw_get da_cX4_end_0 9 rfl)
theorem dX4_end_18 : decode cX4_end 18 = .ok (.getfield 12, 3) := fo_180 (fw_get da_cX4_end_0 10 rfl)
theorem dX4_end_21 : decode cX4_end 21 = .ok (.iload_n 1, 1) := fo_27 (fw_get da_cX4_end_0 11 rfl)
theorem dX4_end_22 : decode cX4_end 22 = .ok (.putfield 57, 3) := fo_181 (fw_get da_cX4_end_0 12 rfl)
theorem dX4_end_25 : decode cX4_end 25 = .ok (.aload_n 0, 1) := fo_42 (fw_get da_cX4_end_0 13 rfl)
theorem dX4_end_26 : decode cX4_end 26 = .ok (.iconst 1, 1) := fo_4 (fw_get da_cX4_end_0 14 rfl)
theorem dX4_end_27 : decode cX4_end 27 = .ok (.putfield 53, 3) := fo_181 (fw_get da_cX4_end_0 15 rfl)
theorem dX4_end_30 : decode cX4_end 30 = .ok (.iload_n 1, 1) := fo_27 (fw_get da_cX4_end_0 16 rfl)
theorem dX4_end_31 : decode cX4_end 31 = .ok (.ireturn, 1) := fo_172 (fw_get da_cX4_end_0 17 rfl)
def dt_cX4_slots_0 : List (Nat × Nat × Nat × Nat) := [(0, 27, 0, 0), (1, 4, 0, 0), (2, 161, 2, 9), (5, 27, 0, 0), (6, 16, 1, 6), (8, 164, 2, 5), (11, 2, 0, 0), (12, 172, 0, 0), (13, 42, 0, 0), (14, 180, 2, 49), (17, 61, 0, 0), (18, 42, 0, 0), (19, 27, 0, 0), (20, 181, 2, 49), (23, 42, 0, 0), (24, 4, 0, 0), (25, 181, 2, 53), (28, 28, 0, 0), (29, 172, 0, 0)]
theorem da_cX4_slots_0 : fw dt_cX4_slots_0 0 cX4_slots.data.toList = true := by decide +kernel
theorem dX4_slots_0 : decode cX4_slots 0 = .ok (.iload_n 1, 1) := fo_27 (fw_get da_cX4_slots_0 0 rfl)
theorem dX4_slots_1 : decode cX4_slots 1 = .ok (.iconst 1, 1) := fo_4 (fw_get da_cX4_slots_0 1 rfl)
theorem dX4_slots_2 : decode cX4_slots 2 = .ok (.if_icmp .lt 9, 3) := fo_161 (fw_get da_cX4_slots_0 2 rfl) (by decide +kernel)
theorem dX4_slots_5 : decode cX4_slots 5 = .ok (.iload_n 1, 1) := fo_27 (fw_get da_cX4_slots_0 3 rfl)
theorem dX4_slots_6 : decode cX4_slots 6 = .ok (.bipush 6, 2) := fo_16 (fw_get da_cX4_slots_0 4 rfl) (by decide +kernel)
theorem dX4_slots_8 : decode cX4_slots 8 = .ok (.if_icmp .le 5, 3) := fo_164 (fw_get da_cX4_slots_0 5 rfl) (by decide +kernel)
theorem dX4_slots_11 : decode cX4_slots 11 = .ok (.iconst (-1), 1) := fo_2 (fw_get da_cX4_slots_0 6 rfl)
theorem dX4_slots_12 : decode cX4_slots 12 = .ok (.ireturn, 1) := fo_172 (fw_get da_cX4_slots_0 7 rfl)
theorem dX4_slots_13 : decode cX4_slots 13 = .ok (.aload_n 0, 1) := fo_42 (fw_get da_cX4_slots_0 8 rfl)
theorem dX4_slots_14 : decode cX4_slots 14 = .ok (.getfield 49, 3) := fo_180 (fw_get da_cX4_slots_0 9 rfl)
theorem dX4_slots_17 : decode cX4_slots 17 = .ok (.istore_n 2, 1) := fo_61 (fw_get da_cX4_slots_0 10 rfl)
theorem dX4_slots_18 : decode cX4_slots 18 = .ok (.aload_n 0, 1) := fo_42 (fw_get da_cX4_slots_0 11 rfl)
theorem dX4_slots_19 : decode cX4_slots 19 = .ok (.iload_n 1, 1) := fo_27 (fw_get da_cX4_slots_0 12 rfl)
theorem dX4_slots_20 : decode cX4_slots 20 = .ok (.putfield 49, 3) := fo_181 (fw_get da_cX4_slots_0 13 rfl)
theorem dX4_slots_23 : decode cX4_slots 23 = .ok (.aload_n 0, 1) := fo_42 (fw_get da_cX4_slots_0 14 rfl)
theorem dX4_slots_24 : decode cX4_slots 24 = .ok (.iconst 1, 1) := fo_4 (fw_get da_cX4_slots_0 15 rfl)
theorem dX4_slots_25 : decode cX4_slots 25 = .ok (.putfield 53, 3) := fo_181 (fw_get da_cX4_slots_0 16 rfl)
theorem dX4_slots_28 : decode cX4_slots 28 = .ok (.iload_n 2, 1) := fo_28 (fw_get da_cX4_slots_0 17 rfl)
theorem dX4_slots_29 : decode cX4_slots 29 = .ok (.ireturn, 1) := fo_172 (fw_get da_cX4_slots_0 18 rfl)
set_option maxRecDepth 20000 in
theorem ggX4_insert_X4_isValue : GoodIn wsX4_insert wsX4_isValue := goodIn_r _ [7] rfl (by decide +kernel)
set_option maxRecDepth 20000 in
theorem gX4_insert_X4_isValue : GoodIn wsX4_insert (va_wsS RX4 68 yX4_isValue wsX4_isValue) := goodIn_app (goodIn_r _ [4, 5, 6] rfl (by decide +kernel)) ggX4_insert_X4_isValue
set_option maxRecDepth 20000 in
theorem ggX4_insert_X0_putIn : GoodIn wsX4_insert wsX0_putIn := goodIn_r _ [12, 13, 14, 24, 25] rfl (by decide +kernel)
set_option maxRecDepth 20000 in
theorem gX4_insert_X0_putIn : GoodIn wsX4_insert (wsV RX4 99 RX0 yX0_putIn wsX0_putIn) := goodIn_app (goodIn_r _ [8, 9, 10, 11] rfl (by decide +kernel)) ggX4_insert_X0_putIn
def dt_cX4_insert_0 : List (Nat × Nat × Nat × Nat) := [(0, 27, 0, 0), (1, 155, 2, 34), (4, 27, 0, 0), (5, 42, 0, 0), (6, 180, 2, 12), (9, 180, 2, 57), (12, 163, 2, 23), (15, 28, 0, 0), (16, 184, 2, 68), (19, 153, 2, 16), (22, 42, 0, 0), (23, 180, 2, 12), (26, 180, 2, 57), (29, 17, 2, 160), (32, 161, 2, 5), (35, 2, 0, 0), (36, 172, 0, 0), (37, 42, 0, 0), (38, 180, 2, 12), (41, 27, 0, 0)]
theorem da_cX4_insert_0 : fw dt_cX4_insert_0 0 cX4_insert.data.toList = true := by decide +kernel
theorem dX4_insert_0 : decode cX4_insert 0 = .ok (.iload_n 1, 1) := fo_27 (fw_get da_cX4_insert_0 0 rfl)
theorem dX4_insert_1 : decode cX4_insert 1 = .ok (.ifCond .lt 34, 3) := fo_155 (fw_get da_cX4_insert_0 1 rfl) (by decide +kernel)
theorem dX4_insert_4 : decode cX4_insert 4 = .ok (.iload_n 1, 1) := fo_27 (fw_get da_cX4_insert_0 2 rfl)
theorem dX4_insert_5 : decode cX4_insert 5 = .ok (.aload_n 0, 1) := fo_42 (fw_get da_cX4_insert_0 3 rfl)
theorem dX4_insert_6 : decode cX4_insert 6 = .ok (.getfield 12, 3) := fo_180 (fw_get da_cX4_insert_0 4 rfl)
theorem dX4_insert_9 : decode cX4_insert 9 = .ok (.getfield 57, 3) := fo_180 (fw_get da_cX4_insert_0 5 rfl)
theorem dX4_insert_12 : decode cX4_insert 12 = .ok (.if_icmp .gt 23, 3) := fo_163 (fw_get da_cX4_insert_0 6 rfl) (by decide +kernel)
theorem dX4_insert_15 : decode cX4_insert 15 = .ok (.iload_n 2, 1) := fo_28 (fw_get da_cX4_insert_0 7 rfl)
theorem dX4_insert_16 : decode cX4_insert 16 = .ok (.invokestatic 68, 3) := fo_184 (fw_get da_cX4_insert_0 8 rfl)
theorem dX4_insert_19 : decode cX4_insert 19 = .ok (.ifCond .eq 16, 3) := fo_153 (fw_get da_cX4_insert_0 9 rfl) (by decide +kernel)
theorem dX4_insert_22 : decode cX4_insert 22 = .ok (.aload_n 0, 1) := fo_42 (fw_get da_cX4_insert_0 10 rfl)
theorem dX4_insert_23 : decode cX4_insert 23 = .ok (.getfield 12, 3) := fo_180 (fw_get da_cX4_insert_0 11 rfl)
theorem dX4_insert_26 : decode cX4_insert 26 = .ok (.getfield 57, 3) := fo_180 (fw_get da_cX4_insert_0 12 rfl)
theorem dX4_insert_29 : decode cX4_insert 29 = .ok (.sipush 160, 3) := fo_17 (fw_get da_cX4_insert_0 13 rfl) (by decide +kernel)
theorem dX4_insert_32 : decode cX4_insert 32 = .ok (.if_icmp .lt 5, 3) := fo_161 (fw_get da_cX4_insert_0 14 rfl) (by decide +kernel)
theorem dX4_insert_35 : decode cX4_insert 35 = .ok (.iconst (-1), 1) := fo_2 (fw_get da_cX4_insert_0 15 rfl)
theorem dX4_insert_36 : decode cX4_insert 36 = .ok (.ireturn, 1) := fo_172 (fw_get da_cX4_insert_0 16 rfl)
theorem dX4_insert_37 : decode cX4_insert 37 = .ok (.aload_n 0, 1) := fo_42 (fw_get da_cX4_insert_0 17 rfl)
theorem dX4_insert_38 : decode cX4_insert 38 = .ok (.getfield 12, 3) := fo_180 (fw_get da_cX4_insert_0 18 rfl)
theorem dX4_insert_41 : decode cX4_insert 41 = .ok (.iload_n 1, 1) := fo_27 (fw_get da_cX4_insert_0 19 rfl)
def dt_cX4_insert_1 : List (Nat × Nat × Nat × Nat) := [(42, 28, 0, 0), (43, 182, 2, 99), (46, 42, 0, 0), (47, 4, 0, 0), (48, 181, 2, 53), (51, 42, 0, 0), (52, 180, 2, 12), (55, 180, 2, 57), (58, 172, 0, 0)]
theorem da_cX4_insert_1 : fw dt_cX4_insert_1 0 cX4_insert.data.toList = true := by decide +kernel
theorem dX4_insert_42 : decode cX4_insert 42 = .ok (.iload_n 2, 1) := fo_28 (fw_get da_cX4_insert_1 0 rfl)
theorem dX4_insert_43 : decode cX4_insert 43 = .ok (.invokevirtual 99, 3) := fo_182 (fw_get da_cX4_insert_1 1 rfl)
theorem dX4_insert_46 : decode cX4_insert 46 = .ok (.aload_n 0, 1) := fo_42 (fw_get da_cX4_insert_1 2 rfl)
theorem dX4_insert_47 : decode cX4_insert 47 = .ok (.iconst 1, 1) := fo_4 (fw_get da_cX4_insert_1 3 rfl)
theorem dX4_insert_48 : decode cX4_insert 48 = .ok (.putfield 53, 3) := fo_181 (fw_get da_cX4_insert_1 4 rfl)
theorem dX4_insert_51 : decode cX4_insert 51 = .ok (.aload_n 0, 1) := fo_42 (fw_get da_cX4_insert_1 5 rfl)
theorem dX4_insert_52 : decode cX4_insert 52 = .ok (.getfield 12, 3) := fo_180 (fw_get da_cX4_insert_1 6 rfl)
theorem dX4_insert_55 : decode cX4_insert 55 = .ok (.getfield 57, 3) := fo_180 (fw_get da_cX4_insert_1 7 rfl)
theorem dX4_insert_58 : decode cX4_insert 58 = .ok (.ireturn, 1) := fo_172 (fw_get da_cX4_insert_1 8 rfl)
set_option maxRecDepth 20000 in
theorem ggX4_remove_X0_hasPlace : GoodIn wsX4_remove wsX0_hasPlace := goodIn_r _ [8, 9, 26, 27] rfl (by decide +kernel)
set_option maxRecDepth 20000 in
theorem gX4_remove_X0_hasPlace : GoodIn wsX4_remove (wsV RX4 64 RX0 yX0_hasPlace wsX0_hasPlace) := goodIn_app (goodIn_r _ [4, 5, 6, 7] rfl (by decide +kernel)) ggX4_remove_X0_hasPlace
set_option maxRecDepth 20000 in
theorem ggX4_remove_X0_takeOut : GoodIn wsX4_remove wsX0_takeOut := goodIn_r _ [13, 14, 15, 9, 16, 5, 6, 7, 8, 26, 27] rfl (by decide +kernel)
set_option maxRecDepth 20000 in
theorem gX4_remove_X0_takeOut : GoodIn wsX4_remove (wsV RX4 103 RX0 yX0_takeOut wsX0_takeOut) := goodIn_app (goodIn_r _ [10, 11, 12, 7] rfl (by decide +kernel)) ggX4_remove_X0_takeOut
def dt_cX4_remove_0 : List (Nat × Nat × Nat × Nat) := [(0, 42, 0, 0), (1, 180, 2, 12), (4, 27, 0, 0), (5, 182, 2, 64), (8, 154, 2, 6), (11, 18, 1, 102), (13, 172, 0, 0), (14, 42, 0, 0), (15, 180, 2, 12), (18, 27, 0, 0), (19, 182, 2, 103), (22, 61, 0, 0), (23, 42, 0, 0), (24, 4, 0, 0), (25, 181, 2, 53), (28, 28, 0, 0), (29, 172, 0, 0)]
theorem da_cX4_remove_0 : fw dt_cX4_remove_0 0 cX4_remove.data.toList = true := by decide +kernel
theorem dX4_remove_0 : decode cX4_remove 0 = .ok (.aload_n 0, 1) := fo_42 (fw_get da_cX4_remove_0 0 rfl)
theorem dX4_remove_1 : decode cX4_remove 1 = .ok (.getfield 12, 3) := fo_180 (fw_get da_cX4_remove_0 1 rfl)
theorem dX4_remove_4 : decode cX4_remove 4 = .ok (.iload_n 1, 1) := fo_27 (fw_get da_cX4_remove_0 2 rfl)
theorem dX4_remove_5 : decode cX4_remove 5 = .ok (.invokevirtual 64, 3) := fo_182 (fw_get da_cX4_remove_0 3 rfl)
theorem dX4_remove_8 : decode cX4_remove 8 = .ok (.ifCond .ne 6, 3) := fo_154 (fw_get da_cX4_remove_0 4 rfl) (by decide +kernel)
theorem dX4_remove_11 : decode cX4_remove 11 = .ok (.ldc 102, 2) := fo_18 (fw_get da_cX4_remove_0 5 rfl)
theorem dX4_remove_13 : decode cX4_remove 13 = .ok (.ireturn, 1) := fo_172 (fw_get da_cX4_remove_0 6 rfl)
theorem dX4_remove_14 : decode cX4_remove 14 = .ok (.aload_n 0, 1) := fo_42 (fw_get da_cX4_remove_0 7 rfl)
theorem dX4_remove_15 : decode cX4_remove 15 = .ok (.getfield 12, 3) := fo_180 (fw_get da_cX4_remove_0 8 rfl)
theorem dX4_remove_18 : decode cX4_remove 18 = .ok (.iload_n 1, 1) := fo_27 (fw_get da_cX4_remove_0 9 rfl)
theorem dX4_remove_19 : decode cX4_remove 19 = .ok (.invokevirtual 103, 3) := fo_182 (fw_get da_cX4_remove_0 10 rfl)
theorem dX4_remove_22 : decode cX4_remove 22 = .ok (.istore_n 2, 1) := fo_61 (fw_get da_cX4_remove_0 11 rfl)
theorem dX4_remove_23 : decode cX4_remove 23 = .ok (.aload_n 0, 1) := fo_42 (fw_get da_cX4_remove_0 12 rfl)
theorem dX4_remove_24 : decode cX4_remove 24 = .ok (.iconst 1, 1) := fo_4 (fw_get da_cX4_remove_0 13 rfl)
theorem dX4_remove_25 : decode cX4_remove 25 = .ok (.putfield 53, 3) := fo_181 (fw_get da_cX4_remove_0 14 rfl)
theorem dX4_remove_28 : decode cX4_remove 28 = .ok (.iload_n 2, 1) := fo_28 (fw_get da_cX4_remove_0 15 rfl)
theorem dX4_remove_29 : decode cX4_remove 29 = .ok (.ireturn, 1) := fo_172 (fw_get da_cX4_remove_0 16 rfl)
def dt_cX4_isValue_0 : List (Nat × Nat × Nat × Nat) := [(0, 26, 0, 0), (1, 17, 2, 32768), (4, 161, 2, 14), (7, 26, 0, 0), (8, 17, 2, 32767), (11, 163, 2, 7), (14, 4, 0, 0), (15, 167, 2, 4), (18, 3, 0, 0), (19, 172, 0, 0)]
theorem da_cX4_isValue_0 : fw dt_cX4_isValue_0 0 cX4_isValue.data.toList = true := by decide +kernel
theorem dX4_isValue_0 : decode cX4_isValue 0 = .ok (.iload_n 0, 1) := fo_26 (fw_get da_cX4_isValue_0 0 rfl)
theorem dX4_isValue_1 : decode cX4_isValue 1 = .ok (.sipush (-32768), 3) := fo_17 (fw_get da_cX4_isValue_0 1 rfl) (by decide +kernel)
theorem dX4_isValue_4 : decode cX4_isValue 4 = .ok (.if_icmp .lt 14, 3) := fo_161 (fw_get da_cX4_isValue_0 2 rfl) (by decide +kernel)
theorem dX4_isValue_7 : decode cX4_isValue 7 = .ok (.iload_n 0, 1) := fo_26 (fw_get da_cX4_isValue_0 3 rfl)
theorem dX4_isValue_8 : decode cX4_isValue 8 = .ok (.sipush 32767, 3) := fo_17 (fw_get da_cX4_isValue_0 4 rfl) (by decide +kernel)
theorem dX4_isValue_11 : decode cX4_isValue 11 = .ok (.if_icmp .gt 7, 3) := fo_163 (fw_get da_cX4_isValue_0 5 rfl) (by decide +kernel)
theorem dX4_isValue_14 : decode cX4_isValue 14 = .ok (.iconst 1, 1) := fo_4 (fw_get da_cX4_isValue_0 6 rfl)
theorem dX4_isValue_15 : decode cX4_isValue 15 = .ok (.goto 4, 3) := fo_167 (fw_get da_cX4_isValue_0 7 rfl) (by decide +kernel)
theorem dX4_isValue_18 : decode cX4_isValue 18 = .ok (.iconst 0, 1) := fo_3 (fw_get da_cX4_isValue_0 8 rfl)
theorem dX4_isValue_19 : decode cX4_isValue 19 = .ok (.ireturn, 1) := fo_172 (fw_get da_cX4_isValue_0 9 rfl)
def dt_cX4_isShare_0 : List (Nat × Nat × Nat × Nat) := [(0, 26, 0, 0), (1, 4, 0, 0), (2, 161, 2, 19), (5, 27, 0, 0), (6, 26, 0, 0), (7, 161, 2, 14), (10, 27, 0, 0), (11, 17, 2, 999), (14, 163, 2, 7), (17, 4, 0, 0), (18, 167, 2, 4), (21, 3, 0, 0), (22, 172, 0, 0)]
theorem da_cX4_isShare_0 : fw dt_cX4_isShare_0 0 cX4_isShare.data.toList = true := by decide +kernel
theorem dX4_isShare_0 : decode cX4_isShare 0 = .ok (.iload_n 0, 1) := fo_26 (fw_get da_cX4_isShare_0 0 rfl)
theorem dX4_isShare_1 : decode cX4_isShare 1 = .ok (.iconst 1, 1) := fo_4 (fw_get da_cX4_isShare_0 1 rfl)
theorem dX4_isShare_2 : decode cX4_isShare 2 = .ok (.if_icmp .lt 19, 3) := fo_161 (fw_get da_cX4_isShare_0 2 rfl) (by decide +kernel)
theorem dX4_isShare_5 : decode cX4_isShare 5 = .ok (.iload_n 1, 1) := fo_27 (fw_get da_cX4_isShare_0 3 rfl)
theorem dX4_isShare_6 : decode cX4_isShare 6 = .ok (.iload_n 0, 1) := fo_26 (fw_get da_cX4_isShare_0 4 rfl)
theorem dX4_isShare_7 : decode cX4_isShare 7 = .ok (.if_icmp .lt 14, 3) := fo_161 (fw_get da_cX4_isShare_0 5 rfl) (by decide +kernel)
theorem dX4_isShare_10 : decode cX4_isShare 10 = .ok (.iload_n 1, 1) := fo_27 (fw_get da_cX4_isShare_0 6 rfl)
theorem dX4_isShare_11 : decode cX4_isShare 11 = .ok (.sipush 999, 3) := fo_17 (fw_get da_cX4_isShare_0 7 rfl) (by decide +kernel)
theorem dX4_isShare_14 : decode cX4_isShare 14 = .ok (.if_icmp .gt 7, 3) := fo_163 (fw_get da_cX4_isShare_0 8 rfl) (by decide +kernel)
theorem dX4_isShare_17 : decode cX4_isShare 17 = .ok (.iconst 1, 1) := fo_4 (fw_get da_cX4_isShare_0 9 rfl)
theorem dX4_isShare_18 : decode cX4_isShare 18 = .ok (.goto 4, 3) := fo_167 (fw_get da_cX4_isShare_0 10 rfl) (by decide +kernel)
theorem dX4_isShare_21 : decode cX4_isShare 21 = .ok (.iconst 0, 1) := fo_3 (fw_get da_cX4_isShare_0 11 rfl)
theorem dX4_isShare_22 : decode cX4_isShare 22 = .ok (.ireturn, 1) := fo_172 (fw_get da_cX4_isShare_0 12 rfl)
theorem mi_wsX4_laidTree_wsX4_laidTree_r1 : ∀ w ∈ wsX4_laidTree_r1, w ∈ wsX4_laidTree := fun _ h => (List.mem_cons_of_mem _ (List.mem_append_left _ (List.mem_append_left _ (List.mem_append_left _ (List.mem_append_left _ (List.mem_append_left _ h))))))
theorem mi_wsX4_laidTree_wsX20 : ∀ w ∈ wsX20, w ∈ wsX4_laidTree := fun _ h => (List.mem_cons_of_mem _ (List.mem_append_left _ (List.mem_append_left _ (List.mem_append_right _ h))))
theorem mi_wsX4_laidTree_wsX00 : ∀ w ∈ wsX00, w ∈ wsX4_laidTree := fun _ h => (List.mem_cons_of_mem _ (List.mem_append_left _ (List.mem_append_right _ h)))
set_option maxRecDepth 20000 in
theorem ggX4_laidTree_X2_layRanges : GoodIn wsX4_laidTree wsX2_layRanges := goodIn_m _ [(wsX4_laidTree_r1, [false, false, false, false, false, false, false, false, false, false, true, true, true, true, true, true, true, true, true]), (wsX4_laidTree_r1, [false, false, false, false, false, false, false, false, false, true, false, false, false, false, false, false, false, false, false, true, true, true, true, true]), (wsX20, [true, true, true, true, true, true, true, true, true, true, true]), (wsX00, [true, true])] (gm_c mi_wsX4_laidTree_wsX4_laidTree_r1 (gm_c mi_wsX4_laidTree_wsX4_laidTree_r1 (gm_c mi_wsX4_laidTree_wsX20 (gm_c mi_wsX4_laidTree_wsX00 gm_n)))) rfl (by decide +kernel)
set_option maxRecDepth 20000 in
theorem gX4_laidTree_X2_layRanges : GoodIn wsX4_laidTree (wsV RX4 259 RX2 yX2_layRanges wsX2_layRanges) := goodIn_app (goodIn_m _ [(wsX4_laidTree_r1, [false, false, false, false, false, false, true, true, true, true])] (gm_c mi_wsX4_laidTree_wsX4_laidTree_r1 gm_n) rfl (by decide +kernel)) ggX4_laidTree_X2_layRanges
theorem mi_wsX4_laidTree_wsX4_laidTree_r2 : ∀ w ∈ wsX4_laidTree_r2, w ∈ wsX4_laidTree := fun _ h => (List.mem_cons_of_mem _ (List.mem_append_left _ (List.mem_append_left _ (List.mem_append_left _ (List.mem_append_left _ (List.mem_append_right _ (List.mem_append_left _ h)))))))
theorem mi_wsX4_laidTree_wsX4_laidTree_r3 : ∀ w ∈ wsX4_laidTree_r3, w ∈ wsX4_laidTree := fun _ h => (List.mem_cons_of_mem _ (List.mem_append_left _ (List.mem_append_left _ (List.mem_append_left _ (List.mem_append_left _ (List.mem_append_right _ (List.mem_append_right _ (List.mem_append_left _ h))))))))
theorem mi_wsX4_laidTree_wsX4_laidTree_r4 : ∀ w ∈ wsX4_laidTree_r4, w ∈ wsX4_laidTree := fun _ h => (List.mem_cons_of_mem _ (List.mem_append_left _ (List.mem_append_left _ (List.mem_append_left _ (List.mem_append_left _ (List.mem_append_right _ (List.mem_append_right _ (List.mem_append_right _ h))))))))
theorem mi_wsX4_laidTree_wsX30 : ∀ w ∈ wsX30, w ∈ wsX4_laidTree := fun _ h => (List.mem_cons_of_mem _ (List.mem_append_right _ h))
set_option maxRecDepth 20000 in
theorem ggX4_laidTree_X2_renew : GoodIn wsX4_laidTree wsX2_renew := goodIn_m _ [(wsX4_laidTree_r2, [false, false, false, true]), (wsX4_laidTree_r1, [false, false, false, false, false, false, false, false, false, false, false, false, false, true, true, true]), (wsX4_laidTree_r2, [false, false, false, false, true, true, true]), (wsX4_laidTree_r1, [false, false, false, false, false, false, false, false, false, true]), (wsX4_laidTree_r2, [false, false, false, false, false, false, false, true, true]), (wsX4_laidTree_r1, [false, false, false, false, false, false, false, false, false, false, false, true]), (wsX4_laidTree_r2, [false, false, false, false, false, false, false, false, false, true, true, true, true, true, true, true, true, true, true, true, true, true, true, true]), (wsX4_laidTree_r3, [true, true, true, true, true, true, true, true, true, true]), (wsX4_laidTree_r1, [false, false, false, false, false, false, false, false, false, false, false, false, false, false, false, false, false, false, false, false, true, true, true, true]), (wsX4_laidTree_r3, [false, false, false, false, false, false, false, false, false, false, true, true, true, true, true, true, true, true, true, true, true, true, true, true]), (wsX4_laidTree_r4, [true, true, true, true, true, true, true, true, true, true, true, true, true, true, true, true, true, true, true]), (wsX20, [true, true, true, true, true, true, true, true, true, true, true]), (wsX00, [true, true]), (wsX30, [true, true, true, true, true])] (gm_c mi_wsX4_laidTree_wsX4_laidTree_r2 (gm_c mi_wsX4_laidTree_wsX4_laidTree_r1 (gm_c mi_wsX4_laidTree_wsX4_laidTree_r2 (gm_c mi_wsX4_laidTree_wsX4_laidTree_r1 (gm_c mi_wsX4_laidTree_wsX4_laidTree_r2 (gm_c mi_wsX4_laidTree_wsX4_laidTree_r1 (gm_c mi_wsX4_laidTree_wsX4_laidTree_r2 (gm_c mi_wsX4_laidTree_wsX4_laidTree_r3 (gm_c mi_wsX4_laidTree_wsX4_laidTree_r1 (gm_c mi_wsX4_laidTree_wsX4_laidTree_r3 (gm_c mi_wsX4_laidTree_wsX4_laidTree_r4 (gm_c mi_wsX4_laidTree_wsX20 (gm_c mi_wsX4_laidTree_wsX00 (gm_c mi_wsX4_laidTree_wsX30 gm_n)))))))))))))) rfl (by decide +kernel)
set_option maxRecDepth 20000 in
theorem gX4_laidTree_X2_renew : GoodIn wsX4_laidTree (wsV RX4 87 RX2 yX2_renew wsX2_renew) := goodIn_app (goodIn_m _ [(wsX4_laidTree_r2, [true, true, true]), (wsX4_laidTree_r1, [false, false, false, false, false, false, false, false, false, true])] (gm_c mi_wsX4_laidTree_wsX4_laidTree_r2 (gm_c mi_wsX4_laidTree_wsX4_laidTree_r1 gm_n)) rfl (by decide +kernel)) ggX4_laidTree_X2_renew
def dt_cX4_laidTree_0 : List (Nat × Nat × Nat × Nat) := [(0, 42, 0, 0), (1, 180, 2, 53), (4, 153, 2, 42), (7, 42, 0, 0), (8, 180, 2, 21), (11, 182, 2, 259), (14, 42, 0, 0), (15, 180, 2, 21), (18, 42, 0, 0), (19, 180, 2, 49), (22, 181, 2, 204), (25, 42, 0, 0), (26, 180, 2, 21), (29, 3, 0, 0), (30, 42, 0, 0), (31, 180, 2, 12), (34, 180, 2, 57), (37, 182, 2, 87), (40, 87, 0, 0), (41, 42, 0, 0)]
theorem da_cX4_laidTree_0 : fw dt_cX4_laidTree_0 0 cX4_laidTree.data.toList = true := by decide +kernel
theorem dX4_laidTree_0 : decode cX4_laidTree 0 = .ok (.aload_n 0, 1) := fo_42 (fw_get da_cX4_laidTree_0 0 rfl)
theorem dX4_laidTree_1 : decode cX4_laidTree 1 = .ok (.getfield 53, 3) := fo_180 (fw_get da_cX4_laidTree_0 1 rfl)
theorem dX4_laidTree_4 : decode cX4_laidTree 4 = .ok (.ifCond .eq 42, 3) := fo_153 (fw_get da_cX4_laidTree_0 2 rfl) (by decide +kernel)
theorem dX4_laidTree_7 : decode cX4_laidTree 7 = .ok (.aload_n 0, 1) := fo_42 (fw_get da_cX4_laidTree_0 3 rfl)
theorem dX4_laidTree_8 : decode cX4_laidTree 8 = .ok (.getfield 21, 3) := fo_180 (fw_get da_cX4_laidTree_0 4 rfl)
theorem dX4_laidTree_11 : decode cX4_laidTree 11 = .ok (.invokevirtual 259, 3) := fo_182 (fw_get da_cX4_laidTree_0 5 rfl)
theorem dX4_laidTree_14 : decode cX4_laidTree 14 = .ok (.aload_n 0, 1) := fo_42 (fw_get da_cX4_laidTree_0 6 rfl)
theorem dX4_laidTree_15 : decode cX4_laidTree 15 = .ok (.getfield 21, 3) := fo_180 (fw_get da_cX4_laidTree_0 7 rfl)
theorem dX4_laidTree_18 : decode cX4_laidTree 18 = .ok (.aload_n 0, 1) := fo_42 (fw_get da_cX4_laidTree_0 8 rfl)
theorem dX4_laidTree_19 : decode cX4_laidTree 19 = .ok (.getfield 49, 3) := fo_180 (fw_get da_cX4_laidTree_0 9 rfl)
theorem dX4_laidTree_22 : decode cX4_laidTree 22 = .ok (.putfield 204, 3) := fo_181 (fw_get da_cX4_laidTree_0 10 rfl)
theorem dX4_laidTree_25 : decode cX4_laidTree 25 = .ok (.aload_n 0, 1) := fo_42 (fw_get da_cX4_laidTree_0 11 rfl)
theorem dX4_laidTree_26 : decode cX4_laidTree 26 = .ok (.getfield 21, 3) := fo_180 (fw_get da_cX4_laidTree_0 12 rfl)
theorem dX4_laidTree_29 : decode cX4_laidTree 29 = .ok (.iconst 0, 1) := fo_3 (fw_get da_cX4_laidTree_0 13 rfl)
theorem dX4_laidTree_30 : decode cX4_laidTree 30 = .ok (.aload_n 0, 1) := fo_42 (fw_get da_cX4_laidTree_0 14 rfl)
theorem dX4_laidTree_31 : decode cX4_laidTree 31 = .ok (.getfield 12, 3) := fo_180 (fw_get da_cX4_laidTree_0 15 rfl)
theorem dX4_laidTree_34 : decode cX4_laidTree 34 = .ok (.getfield 57, 3) := fo_180 (fw_get da_cX4_laidTree_0 16 rfl)
theorem dX4_laidTree_37 : decode cX4_laidTree 37 = .ok (.invokevirtual 87, 3) := fo_182 (fw_get da_cX4_laidTree_0 17 rfl)
theorem dX4_laidTree_40 : decode cX4_laidTree 40 = .ok (.pop, 1) := fo_87 (fw_get da_cX4_laidTree_0 18 rfl)
theorem dX4_laidTree_41 : decode cX4_laidTree 41 = .ok (.aload_n 0, 1) := fo_42 (fw_get da_cX4_laidTree_0 19 rfl)
def dt_cX4_laidTree_1 : List (Nat × Nat × Nat × Nat) := [(42, 3, 0, 0), (43, 181, 2, 53), (46, 42, 0, 0), (47, 180, 2, 21), (50, 176, 0, 0)]
theorem da_cX4_laidTree_1 : fw dt_cX4_laidTree_1 0 cX4_laidTree.data.toList = true := by decide +kernel
theorem dX4_laidTree_42 : decode cX4_laidTree 42 = .ok (.iconst 0, 1) := fo_3 (fw_get da_cX4_laidTree_1 0 rfl)
theorem dX4_laidTree_43 : decode cX4_laidTree 43 = .ok (.putfield 53, 3) := fo_181 (fw_get da_cX4_laidTree_1 1 rfl)
theorem dX4_laidTree_46 : decode cX4_laidTree 46 = .ok (.aload_n 0, 1) := fo_42 (fw_get da_cX4_laidTree_1 2 rfl)
theorem dX4_laidTree_47 : decode cX4_laidTree 47 = .ok (.getfield 21, 3) := fo_180 (fw_get da_cX4_laidTree_1 3 rfl)
theorem dX4_laidTree_50 : decode cX4_laidTree 50 = .ok (.areturn, 1) := fo_176 (fw_get da_cX4_laidTree_1 4 rfl)


theorem shorts_shR {f : Nat → Int32} {n i : Nat} (h : shorts f) : shorts (shR f n i) := by
  intro k hk
  unfold shR
  split
  · exact h (k - 1) (by omega)
  · exact h k hk
theorem shorts_shL {f : Nat → Int32} {n i : Nat} (h : shorts f) (hi : i < 160) : shorts (shL f n i) := by
  intro k hk
  unfold shL
  split
  · exact h (k + 1) (by omega)
  · exact h k hk
def laidP (old : Int32) (ff ft : Nat → Int32) (nodes len : Int32) : Prop := old.toInt = 0 → (0 ≤ nodes.toInt ∧ nodes.toInt ≤ 319 ∧ treeOk ff ft nodes.toInt len.toInt)

set_option maxHeartbeats 4000000 in
set_option maxRecDepth 100000 in
theorem c_X4_isValue (l : Launch) (dC : Nat → ClassId) (dI : Nat → Nat → Nat) (p0 : Int32) : Met l yX4_isValue wsX4_isValue ({ frames := 0, cells := 0, slots := 0, locals := 0 }) (va_Pc [.int p0] (fun U => va_P (dC, dI) vwCl [] U.heap ∧ va_K (dC, dI) vwCl [] U)) (vp_Si (fun r : Int32 => (r = 1 ∧ (-32768 ≤ p0.toInt ∧ p0.toInt ≤ 32767)) ∨ (r = 0 ∧ (p0.toInt < -32768 ∨ 32767 < p0.toInt)))) 0 0 (fun _ => False) := by
  refine kx_stS (ws := wsX4_isValue) (cc := cX4_isValue) (maxL := 1) (ret := (some .boolean)) (by decide) rfl (Nat.le_of_ble_eq_true rfl) ?_
  intro p e s m below meth c ls hx hb hr hlocks hts hown hml hP hK hl
  have hown : s.vm.findClass RX4 = some m.cls := hown
  have hl : lv_has ls 1 [(0, .int p0)] := hl
  refine lv_iload_n hx hb dX4_isValue_0 rfl (lv_at hl 0 rfl) ?_
  refine lv_sipush (v := (-32768)) hx hb dX4_isValue_1 (by decide) ?_
  refine lv_icmp_lt (tgt := 18) hx hb dX4_isValue_4 (by decide) (fun c_1 => ?_) (fun c_1 => ?_)
  · have i_1 : p0.toInt < (-32768) := kc_lt c_1
    refine lv_iconst (v := 0) hx hb dX4_isValue_18 (by decide) ?_
    exact W.zret (v := 0) hx hb hr (by decide) (hlocks := hlocks) (fun t ht hW => ⟨0, rfl, Or.inr (⟨rfl, (Or.inl (om_145 i_1))⟩), ht⟩) (fun q hq => by cases hq) dX4_isValue_19
  · have i_1 : (-32768) ≤ p0.toInt := kc_nlt c_1
    refine lv_iload_n hx hb dX4_isValue_7 rfl (lv_at hl 0 rfl) ?_
    refine lv_sipush (v := 32767) hx hb dX4_isValue_8 (by decide) ?_
    refine lv_icmp_gt (tgt := 18) hx hb dX4_isValue_11 (by decide) (fun c_2 => ?_) (fun c_2 => ?_)
    · have i_2 : 32767 < p0.toInt := kc_lt c_2
      refine lv_iconst (v := 0) hx hb dX4_isValue_18 (by decide) ?_
      exact W.zret (v := 0) hx hb hr (by decide) (hlocks := hlocks) (fun t ht hW => ⟨0, rfl, Or.inr (⟨rfl, (Or.inr (om_146 i_2))⟩), ht⟩) (fun q hq => by cases hq) dX4_isValue_19
    · have i_2 : p0.toInt ≤ 32767 := kc_nlt c_2
      refine lv_iconst (v := 1) hx hb dX4_isValue_14 (by decide) ?_
      refine lv_goto (tgt := 19) hx hb dX4_isValue_15 (by decide) ?_
      exact W.zret (v := 1) hx hb hr (by decide) (hlocks := hlocks) (fun t ht hW => ⟨1, rfl, Or.inl ⟨rfl, ⟨(om_147 i_1), (om_148 i_2)⟩⟩, ht⟩) (fun q hq => by cases hq) dX4_isValue_19

set_option maxHeartbeats 4000000 in
set_option maxRecDepth 100000 in
theorem c_X4_isShare (l : Launch) (dC : Nat → ClassId) (dI : Nat → Nat → Nat) (p0 : Int32) (p1 : Int32) : Met l yX4_isShare wsX4_isShare ({ frames := 0, cells := 0, slots := 0, locals := 0 }) (va_Pc [.int p0, .int p1] (fun U => va_P (dC, dI) vwCl [] U.heap ∧ va_K (dC, dI) vwCl [] U)) (vp_Si (fun r : Int32 => (r = 1 ∧ (1 ≤ p0.toInt ∧ p0.toInt ≤ p1.toInt ∧ p1.toInt ≤ 999)) ∨ (r = 0 ∧ (p0.toInt < 1 ∨ p1.toInt < p0.toInt ∨ 999 < p1.toInt)))) 0 0 (fun _ => False) := by
  refine kx_stS (ws := wsX4_isShare) (cc := cX4_isShare) (maxL := 2) (ret := (some .boolean)) (by decide) rfl (Nat.le_of_ble_eq_true rfl) ?_
  intro p e s m below meth c ls hx hb hr hlocks hts hown hml hP hK hl
  have hown : s.vm.findClass RX4 = some m.cls := hown
  have hl : lv_has ls 2 [(0, .int p0), (1, .int p1)] := hl
  refine lv_iload_n hx hb dX4_isShare_0 rfl (lv_at hl 0 rfl) ?_
  refine lv_iconst (v := 1) hx hb dX4_isShare_1 (by decide) ?_
  refine lv_icmp_lt (tgt := 21) hx hb dX4_isShare_2 (by decide) (fun c_1 => ?_) (fun c_1 => ?_)
  · have i_1 : p0.toInt < 1 := kc_lt c_1
    refine lv_iconst (v := 0) hx hb dX4_isShare_21 (by decide) ?_
    exact W.zret (v := 0) hx hb hr (by decide) (hlocks := hlocks) (fun t ht hW => ⟨0, rfl, Or.inr (⟨rfl, (Or.inl (om_149 i_1))⟩), ht⟩) (fun q hq => by cases hq) dX4_isShare_22
  · have i_1 : 1 ≤ p0.toInt := kc_nlt c_1
    refine lv_iload_n hx hb dX4_isShare_5 rfl (lv_at hl 1 rfl) ?_
    refine lv_iload_n hx hb dX4_isShare_6 rfl (lv_at hl 0 rfl) ?_
    refine lv_icmp_lt (tgt := 21) hx hb dX4_isShare_7 (by decide) (fun c_2 => ?_) (fun c_2 => ?_)
    · have i_2 : p1.toInt < p0.toInt := kc_lt c_2
      refine lv_iconst (v := 0) hx hb dX4_isShare_21 (by decide) ?_
      exact W.zret (v := 0) hx hb hr (by decide) (hlocks := hlocks) (fun t ht hW => ⟨0, rfl, Or.inr (⟨rfl, (Or.inr (Or.inl (om_11 i_2)))⟩), ht⟩) (fun q hq => by cases hq) dX4_isShare_22
    · have i_2 : p0.toInt ≤ p1.toInt := kc_nlt c_2
      refine lv_iload_n hx hb dX4_isShare_10 rfl (lv_at hl 1 rfl) ?_
      refine lv_sipush (v := 999) hx hb dX4_isShare_11 (by decide) ?_
      refine lv_icmp_gt (tgt := 21) hx hb dX4_isShare_14 (by decide) (fun c_3 => ?_) (fun c_3 => ?_)
      · have i_3 : 999 < p1.toInt := kc_lt c_3
        refine lv_iconst (v := 0) hx hb dX4_isShare_21 (by decide) ?_
        exact W.zret (v := 0) hx hb hr (by decide) (hlocks := hlocks) (fun t ht hW => ⟨0, rfl, Or.inr (⟨rfl, (Or.inr (Or.inr (om_150 i_3)))⟩), ht⟩) (fun q hq => by cases hq) dX4_isShare_22
      · have i_3 : p1.toInt ≤ 999 := kc_nlt c_3
        refine lv_iconst (v := 1) hx hb dX4_isShare_17 (by decide) ?_
        refine lv_goto (tgt := 22) hx hb dX4_isShare_18 (by decide) ?_
        exact W.zret (v := 1) hx hb hr (by decide) (hlocks := hlocks) (fun t ht hW => ⟨1, rfl, Or.inl ⟨rfl, ⟨(om_151 i_1), (om_9 i_2), (om_152 i_3)⟩⟩, ht⟩) (fun q hq => by cases hq) dX4_isShare_22

set_option maxHeartbeats 4000000 in
set_option maxRecDepth 100000 in
theorem c_X4_end (l : Launch) (dC : Nat → ClassId) (dI : Nat → Nat → Nat) (m_ : Nat) (q_row : Nat) (q_t : Nat) (t_ : Nat) (h0 : Nat) (k0 : Nat) (w_ : Nat) (z_ : Nat) (slots : Int32) (old : Int32) (q_cell : Nat) (len : Int32) (p0 : Int32) (sz : Nat) : kx_MQ l (dC, dI) yX4_end wsX4_end ({ frames := 0, cells := 0, slots := 0, locals := 0 }) [.ref m_, .int p0] [kx_4 m_ q_row q_t t_ h0 k0 w_ z_ slots old, kx_0 q_row q_cell len] [] sz (fun A => va_Qi (fun (r : Int32) (u : Int32 × Int32) => ((0 ≤ p0.toInt ∧ p0.toInt ≤ len.toInt ∧ r = p0 ∧ u.2 = p0 ∧ u.1 = 1) ∨ ((p0.toInt < 0 ∨ len.toInt < p0.toInt) ∧ r = -1 ∧ u.2 = len ∧ u.1 = old))) (fun (u : Int32 × Int32) (t : State) => va_P (dC, dI) vwCl [kx_4 m_ q_row q_t t_ h0 k0 w_ z_ slots u.1, kx_0 q_row q_cell u.2] t.heap ∧ va_K (dC, dI) vwCl [] t ∧ va_D A [kx_4 m_ q_row q_t t_ h0 k0 w_ z_ slots u.1, kx_0 q_row q_cell u.2]) A) := by
  refine kx_stQ (ws := wsX4_end) (cc := cX4_end) (maxL := 2) (ret := (some .int)) (by decide) rfl (Nat.le_of_ble_eq_true rfl) ?_
  intro p e s m below meth c A ls hx hb hr hlocks hts hown hml hA hS hP hK hD hl
  have hown : s.vm.findClass RX4 = some m.cls := hown
  have hl : lv_has ls 2 [(0, .ref m_), (1, .int p0)] := hl
  have hf_12 := hts (.fieldLink RX4 12 "MajorityIndex" "row" "LMajorityIndex$Row;") (List.mem_of_getElem? (i := 1) rfl)
  have hi_4 : ∀ w ∈ u_ws RX4 TX4 9, w ∈ wsX4_end := fun w h => List.mem_cons_of_mem _ (List.mem_append_left _ (List.mem_append_right _ h))
  have hf_57 := hts (.fieldLink RX4 57 "MajorityIndex$Row" "length" "I") (List.mem_of_getElem? (i := 2) rfl)
  have hi_0 : ∀ w ∈ u_ws RX0 TX0 2, w ∈ wsX4_end := fun w h => List.mem_cons_of_mem _ (List.mem_append_right _ h)
  have hf_53 := hts (.fieldLink RX4 53 "MajorityIndex" "treeIsOld" "Z") (List.mem_of_getElem? (i := 3) rfl)
  refine lv_iload_n hx hb dX4_end_0 rfl (lv_at hl 1 rfl) ?_
  refine lv_if_lt (tgt := 15) hx hb dX4_end_1 (by decide) (fun c_1 => ?_) (fun c_1 => ?_)
  · have i_1 : p0.toInt < 0 := kc_lt c_1
    refine lv_iconst (v := (-1)) hx hb dX4_end_15 (by decide) ?_
    have hP9 := hP
    have hD9 := hD
    have hK9 := hK
    exact W.iret (v := (-1)) hx hb hr (hlocks := hlocks) (fun t ht hW => ⟨⟨(-1), (old, len), rfl, Or.inr ⟨by omega, rfl, rfl, rfl⟩, by rw [ht]; exact hP9, va_K.moved hW.alike hK9, hD9⟩, hS.F ht⟩) hS.2.2 dX4_end_16
  · have i_1 : 0 ≤ p0.toInt := kc_nlt c_1
    refine lv_iload_n hx hb dX4_end_4 rfl (lv_at hl 1 rfl) ?_
    refine lv_aload_n hx hb dX4_end_5 rfl (lv_at hl 0 rfl) ?_
    refine va_get (D := (dC, dI)) (ci := 4) (v := .ref q_row) (C := RX4) (T := TX4) (N := 9) hx hb hts hi_4 hown hK hP 0 rfl rfl 0 (by decide) hf_12 (fun _ h9 => h9) rfl dX4_end_6 ?_
    refine va_get (D := (dC, dI)) (ci := 0) (v := .int len) (C := RX0) (T := TX0) (N := 2) hx hb hts hi_0 hown hK hP 1 rfl rfl 1 (by decide) hf_57 (fun _ h9 => h9) rfl dX4_end_9 ?_
    refine lv_icmp_le (tgt := 17) hx hb dX4_end_12 (by decide) (fun c_2 => ?_) (fun c_2 => ?_)
    · have i_2 : p0.toInt ≤ len.toInt := kc_le c_2
      refine lv_aload_n hx hb dX4_end_17 rfl (lv_at hl 0 rfl) ?_
      refine va_get (D := (dC, dI)) (ci := 4) (v := .ref q_row) (C := RX4) (T := TX4) (N := 9) hx hb hts hi_4 hown hK hP 0 rfl rfl 0 (by decide) hf_12 (fun _ h9 => h9) rfl dX4_end_18 ?_
      refine lv_iload_n hx hb dX4_end_21 rfl (lv_at hl 1 rfl) ?_
      refine va_put (D := (dC, dI)) (ci := 0) (v := .int p0) (ty := .int) (C := RX0) (T := TX0) (N := 2) hx hb hts hi_0 tyX0 tyX0_ok nmX0 hown hK hP hD hS 1 rfl rfl 1 (by decide) hf_57 (fun _ h9 => h9) rfl (by decide +kernel) rfl rfl (Nat.le_of_ble_eq_true rfl) dX4_end_22 (fun H locs hP hD hS => ?_)
      obtain ⟨hP, hD⟩ := kx_re (w2 := [kx_4 m_ q_row q_t t_ h0 k0 w_ z_ slots old, kx_0 q_row q_cell p0]) hP hD rfl
      refine lv_aload_n hx hb dX4_end_25 rfl (lv_at hl 0 rfl) ?_
      refine lv_iconst (v := 1) hx hb dX4_end_26 (by decide) ?_
      refine va_put (D := (dC, dI)) (ci := 4) (v := .int 1) (ty := .boolean) (C := RX4) (T := TX4) (N := 9) hx hb hts hi_4 tyX4 tyX4_ok nmX4 hown hK hP hD hS 0 rfl rfl 8 (by decide) hf_53 (fun _ h9 => h9) rfl (by decide +kernel) (by decide) (by decide) (Nat.le_of_ble_eq_true rfl) dX4_end_27 (fun H locs hP hD hS => ?_)
      obtain ⟨hP, hD⟩ := kx_re (w2 := [kx_4 m_ q_row q_t t_ h0 k0 w_ z_ slots 1, kx_0 q_row q_cell p0]) hP hD rfl
      refine lv_iload_n hx hb dX4_end_30 rfl (lv_at hl 1 rfl) ?_
      have hP9 := hP
      have hD9 := hD
      have hK9 := hK
      exact W.iret (v := p0) hx hb hr (hlocks := hlocks) (fun t ht hW => ⟨⟨p0, (1, p0), rfl, Or.inl ⟨by omega, by omega, rfl, rfl, rfl⟩, by rw [ht]; exact hP9, va_K.moved hW.alike hK9, hD9⟩, hS.F ht⟩) hS.2.2 dX4_end_31
    · have i_2 : len.toInt < p0.toInt := kc_nle c_2
      refine lv_iconst (v := (-1)) hx hb dX4_end_15 (by decide) ?_
      have hP9 := hP
      have hD9 := hD
      have hK9 := hK
      exact W.iret (v := (-1)) hx hb hr (hlocks := hlocks) (fun t ht hW => ⟨⟨(-1), (old, len), rfl, Or.inr ⟨by omega, rfl, rfl, rfl⟩, by rw [ht]; exact hP9, va_K.moved hW.alike hK9, hD9⟩, hS.F ht⟩) hS.2.2 dX4_end_16

set_option maxHeartbeats 4000000 in
set_option maxRecDepth 100000 in
theorem c_X4_slots (l : Launch) (dC : Nat → ClassId) (dI : Nat → Nat → Nat) (m_ : Nat) (q_row : Nat) (q_t : Nat) (t_ : Nat) (h0 : Nat) (k0 : Nat) (w_ : Nat) (z_ : Nat) (slots : Int32) (old : Int32) (p0 : Int32) (sz : Nat) : kx_MQ l (dC, dI) yX4_slots wsX4_slots ({ frames := 0, cells := 0, slots := 0, locals := 0 }) [.ref m_, .int p0] [kx_4 m_ q_row q_t t_ h0 k0 w_ z_ slots old] [] sz (fun A => va_Qi (fun (r : Int32) (u : Int32 × Int32) => ((1 ≤ p0.toInt ∧ p0.toInt ≤ 6 ∧ r = slots ∧ u.1 = p0 ∧ u.2 = 1) ∨ ((p0.toInt < 1 ∨ 6 < p0.toInt) ∧ r = -1 ∧ u.1 = slots ∧ u.2 = old))) (fun (u : Int32 × Int32) (t : State) => va_P (dC, dI) vwCl [kx_4 m_ q_row q_t t_ h0 k0 w_ z_ u.1 u.2] t.heap ∧ va_K (dC, dI) vwCl [] t ∧ va_D A [kx_4 m_ q_row q_t t_ h0 k0 w_ z_ u.1 u.2]) A) := by
  refine kx_stQ (ws := wsX4_slots) (cc := cX4_slots) (maxL := 3) (ret := (some .int)) (by decide) rfl (Nat.le_of_ble_eq_true rfl) ?_
  intro p e s m below meth c A ls hx hb hr hlocks hts hown hml hA hS hP hK hD hl
  have hown : s.vm.findClass RX4 = some m.cls := hown
  have hl : lv_has ls 3 [(0, .ref m_), (1, .int p0)] := hl
  have hf_49 := hts (.fieldLink RX4 49 "MajorityIndex" "slotsNow" "I") (List.mem_of_getElem? (i := 1) rfl)
  have hi_4 : ∀ w ∈ u_ws RX4 TX4 9, w ∈ wsX4_slots := fun w h => List.mem_cons_of_mem _ (List.mem_append_right _ h)
  have hf_53 := hts (.fieldLink RX4 53 "MajorityIndex" "treeIsOld" "Z") (List.mem_of_getElem? (i := 2) rfl)
  refine lv_iload_n hx hb dX4_slots_0 rfl (lv_at hl 1 rfl) ?_
  refine lv_iconst (v := 1) hx hb dX4_slots_1 (by decide) ?_
  refine lv_icmp_lt (tgt := 11) hx hb dX4_slots_2 (by decide) (fun c_1 => ?_) (fun c_1 => ?_)
  · have i_1 : p0.toInt < 1 := kc_lt c_1
    refine lv_iconst (v := (-1)) hx hb dX4_slots_11 (by decide) ?_
    have hP9 := hP
    have hD9 := hD
    have hK9 := hK
    exact W.iret (v := (-1)) hx hb hr (hlocks := hlocks) (fun t ht hW => ⟨⟨(-1), (slots, old), rfl, Or.inr ⟨by omega, rfl, rfl, rfl⟩, by rw [ht]; exact hP9, va_K.moved hW.alike hK9, hD9⟩, hS.F ht⟩) hS.2.2 dX4_slots_12
  · have i_1 : 1 ≤ p0.toInt := kc_nlt c_1
    refine lv_iload_n hx hb dX4_slots_5 rfl (lv_at hl 1 rfl) ?_
    refine lv_bipush (v := 6) hx hb dX4_slots_6 (by decide) ?_
    refine lv_icmp_le (tgt := 13) hx hb dX4_slots_8 (by decide) (fun c_2 => ?_) (fun c_2 => ?_)
    · have i_2 : p0.toInt ≤ 6 := kc_le c_2
      refine lv_aload_n hx hb dX4_slots_13 rfl (lv_at hl 0 rfl) ?_
      refine va_get (D := (dC, dI)) (ci := 4) (v := .int slots) (C := RX4) (T := TX4) (N := 9) hx hb hts hi_4 hown hK hP 0 rfl rfl 7 (by decide) hf_49 (fun _ h9 => h9) rfl dX4_slots_14 ?_
      refine lv_istore_n (lv' := [(2, .int slots), (0, .ref m_), (1, .int p0)]) hx hb dX4_slots_17 rfl hl (by decide) rfl (fun ls hl => ?_)
      refine lv_aload_n hx hb dX4_slots_18 rfl (lv_at hl 1 rfl) ?_
      refine lv_iload_n hx hb dX4_slots_19 rfl (lv_at hl 2 rfl) ?_
      refine va_put (D := (dC, dI)) (ci := 4) (v := .int p0) (ty := .int) (C := RX4) (T := TX4) (N := 9) hx hb hts hi_4 tyX4 tyX4_ok nmX4 hown hK hP hD hS 0 rfl rfl 7 (by decide) hf_49 (fun _ h9 => h9) rfl (by decide +kernel) rfl rfl (Nat.le_of_ble_eq_true rfl) dX4_slots_20 (fun H locs hP hD hS => ?_)
      obtain ⟨hP, hD⟩ := kx_re (w2 := [kx_4 m_ q_row q_t t_ h0 k0 w_ z_ p0 old]) hP hD rfl
      refine lv_aload_n hx hb dX4_slots_23 rfl (lv_at hl 1 rfl) ?_
      refine lv_iconst (v := 1) hx hb dX4_slots_24 (by decide) ?_
      refine va_put (D := (dC, dI)) (ci := 4) (v := .int 1) (ty := .boolean) (C := RX4) (T := TX4) (N := 9) hx hb hts hi_4 tyX4 tyX4_ok nmX4 hown hK hP hD hS 0 rfl rfl 8 (by decide) hf_53 (fun _ h9 => h9) rfl (by decide +kernel) (by decide) (by decide) (Nat.le_of_ble_eq_true rfl) dX4_slots_25 (fun H locs hP hD hS => ?_)
      obtain ⟨hP, hD⟩ := kx_re (w2 := [kx_4 m_ q_row q_t t_ h0 k0 w_ z_ p0 1]) hP hD rfl
      refine lv_iload_n hx hb dX4_slots_28 rfl (lv_at hl 0 rfl) ?_
      have hP9 := hP
      have hD9 := hD
      have hK9 := hK
      exact W.iret (v := slots) hx hb hr (hlocks := hlocks) (fun t ht hW => ⟨⟨slots, (p0, 1), rfl, Or.inl ⟨by omega, by omega, rfl, rfl, rfl⟩, by rw [ht]; exact hP9, va_K.moved hW.alike hK9, hD9⟩, hS.F ht⟩) hS.2.2 dX4_slots_29
    · have i_2 : 6 < p0.toInt := kc_nle c_2
      refine lv_iconst (v := (-1)) hx hb dX4_slots_11 (by decide) ?_
      have hP9 := hP
      have hD9 := hD
      have hK9 := hK
      exact W.iret (v := (-1)) hx hb hr (hlocks := hlocks) (fun t ht hW => ⟨⟨(-1), (slots, old), rfl, Or.inr ⟨by omega, rfl, rfl, rfl⟩, by rw [ht]; exact hP9, va_K.moved hW.alike hK9, hD9⟩, hS.F ht⟩) hS.2.2 dX4_slots_12

set_option maxHeartbeats 4000000 in
set_option maxRecDepth 100000 in
theorem c_X4_insert (l : Launch) (dC : Nat → ClassId) (dI : Nat → Nat → Nat) (m_ : Nat) (q_row : Nat) (q_t : Nat) (t_ : Nat) (h0 : Nat) (k0 : Nat) (w_ : Nat) (z_ : Nat) (slots : Int32) (old : Int32) (q_cell : Nat) (cyI : ClassId) (len : Int32) (f : Nat → Int32) (p0 : Int32) (p1 : Int32) (sz : Nat) (a0 : 0 ≤ len.toInt) (a1 : len.toInt ≤ 160) (s1 : shorts f) : kx_MQ l (dC, dI) yX4_insert wsX4_insert ({ frames := 1, cells := 0, slots := 0, locals := 45 }) [.ref m_, .int p0, .int p1] [kx_4 m_ q_row q_t t_ h0 k0 w_ z_ slots old, kx_0 q_row q_cell len, kx_a q_cell cyI 160 f] [(cyI, .int)] sz (fun A => va_Qi (fun (r : Int32) (u : Int32 × Int32 × (Nat → Int32)) => ((0 ≤ p0.toInt ∧ p0.toInt ≤ len.toInt ∧ -32768 ≤ p1.toInt ∧ p1.toInt ≤ 32767 ∧ len.toInt < 160 ∧ r = u.2.1 ∧ u.2.1.toInt = len.toInt + 1 ∧ u.1 = 1 ∧ u.2.2 = upd (shR f len.toNatClampNeg p0.toNatClampNeg) p0.toNatClampNeg p1) ∨ ((p0.toInt < 0 ∨ len.toInt < p0.toInt ∨ p1.toInt < -32768 ∨ 32767 < p1.toInt ∨ 160 ≤ len.toInt) ∧ r = -1 ∧ u.2.1 = len ∧ u.1 = old ∧ u.2.2 = f)) ∧ shorts u.2.2) (fun (u : Int32 × Int32 × (Nat → Int32)) (t : State) => va_P (dC, dI) vwCl [kx_4 m_ q_row q_t t_ h0 k0 w_ z_ slots u.1, kx_0 q_row q_cell u.2.1, kx_a q_cell cyI 160 u.2.2] t.heap ∧ va_K (dC, dI) vwCl [(cyI, .int)] t ∧ va_D A [kx_4 m_ q_row q_t t_ h0 k0 w_ z_ slots u.1, kx_0 q_row q_cell u.2.1, kx_a q_cell cyI 160 u.2.2]) A) := by
  refine kx_stQ (ws := wsX4_insert) (cc := cX4_insert) (maxL := 3) (ret := (some .int)) (by decide) rfl (Nat.le_of_ble_eq_true rfl) ?_
  intro p e s m below meth c A ls hx hb hr hlocks hts hown hml hA hS hP hK hD hl
  have hown : s.vm.findClass RX4 = some m.cls := hown
  have hl : lv_has ls 3 [(0, .ref m_), (1, .int p0), (2, .int p1)] := hl
  have hf_12 := hts (.fieldLink RX4 12 "MajorityIndex" "row" "LMajorityIndex$Row;") (List.mem_of_getElem? (i := 1) rfl)
  have hi_4 : ∀ w ∈ u_ws RX4 TX4 9, w ∈ wsX4_insert := fun w h => List.mem_cons_of_mem _ (List.mem_append_left _ (List.mem_append_right _ h))
  have hf_57 := hts (.fieldLink RX4 57 "MajorityIndex$Row" "length" "I") (List.mem_of_getElem? (i := 2) rfl)
  have hi_0 : ∀ w ∈ u_ws RX0 TX0 2, w ∈ wsX4_insert := fun w h => List.mem_cons_of_mem _ (List.mem_append_right _ h)
  have hf_53 := hts (.fieldLink RX4 53 "MajorityIndex" "treeIsOld" "Z") (List.mem_of_getElem? (i := 3) rfl)
  refine lv_iload_n hx hb dX4_insert_0 rfl (lv_at hl 1 rfl) ?_
  refine lv_if_lt (tgt := 35) hx hb dX4_insert_1 (by decide) (fun c_1 => ?_) (fun c_1 => ?_)
  · have i_1 : p0.toInt < 0 := kc_lt c_1
    refine lv_iconst (v := (-1)) hx hb dX4_insert_35 (by decide) ?_
    have hP9 := hP
    have hD9 := hD
    have hK9 := hK
    exact W.iret (v := (-1)) hx hb hr (hlocks := hlocks) (fun t ht hW => ⟨⟨(-1), (old, len, f), rfl, ⟨Or.inr ⟨by omega, rfl, rfl, rfl, rfl⟩, s1⟩, by rw [ht]; exact hP9, va_K.moved hW.alike hK9, hD9⟩, hS.F ht⟩) hS.2.2 dX4_insert_36
  · have i_1 : 0 ≤ p0.toInt := kc_nlt c_1
    refine lv_iload_n hx hb dX4_insert_4 rfl (lv_at hl 1 rfl) ?_
    refine lv_aload_n hx hb dX4_insert_5 rfl (lv_at hl 0 rfl) ?_
    refine va_get (D := (dC, dI)) (ci := 4) (v := .ref q_row) (C := RX4) (T := TX4) (N := 9) hx hb hts hi_4 hown hK hP 0 rfl rfl 0 (by decide) hf_12 (fun _ h9 => h9) rfl dX4_insert_6 ?_
    refine va_get (D := (dC, dI)) (ci := 0) (v := .int len) (C := RX0) (T := TX0) (N := 2) hx hb hts hi_0 hown hK hP 1 rfl rfl 1 (by decide) hf_57 (fun _ h9 => h9) rfl dX4_insert_9 ?_
    refine lv_icmp_gt (tgt := 35) hx hb dX4_insert_12 (by decide) (fun c_2 => ?_) (fun c_2 => ?_)
    · have i_2 : len.toInt < p0.toInt := kc_lt c_2
      refine lv_iconst (v := (-1)) hx hb dX4_insert_35 (by decide) ?_
      have hP9 := hP
      have hD9 := hD
      have hK9 := hK
      exact W.iret (v := (-1)) hx hb hr (hlocks := hlocks) (fun t ht hW => ⟨⟨(-1), (old, len, f), rfl, ⟨Or.inr ⟨by omega, rfl, rfl, rfl, rfl⟩, s1⟩, by rw [ht]; exact hP9, va_K.moved hW.alike hK9, hD9⟩, hS.F ht⟩) hS.2.2 dX4_insert_36
    · have i_2 : p0.toInt ≤ len.toInt := kc_nlt c_2
      refine lv_iload_n hx hb dX4_insert_15 rfl (lv_at hl 2 rfl) ?_
      have hPc := hP.sub (ws' := []) [] rfl
      have hKc := hK.sub (tys' := []) [] rfl
      refine vp_callSi (W.runS (As := [.int p1]) (rest := []) ⟨hx, hb, hml, hown, hts⟩ (c_X4_isValue l dC dI p1) (va_cwS 1 hts gX4_insert_X4_isValue rfl rfl rfl (by decide +kernel) ⟨Nat.le_of_ble_eq_true rfl, Nat.le_of_ble_eq_true rfl⟩) ⟨fun a U g mk q => by obtain ⟨q0, qP, qK⟩ := q; exact ⟨q0, qP, va_K.moved (u := U) (U := U.calling g mk a) (Vm.Alike.refl U.vm) qK⟩, fun U hU hW => ⟨rfl, by rw [hU]; exact hPc, va_K.moved hW.alike hKc⟩⟩ rfl rfl hl.1 rfl (lv_room (Nat.le_of_ble_eq_true rfl)) dX4_insert_16 ⟨Nat.le_of_ble_eq_true rfl, Nat.le_of_ble_eq_true rfl⟩) (fun r_3 w_3 => ?_)
      rcases w_3 with ⟨rfl, w_3⟩ | ⟨rfl, w_3⟩
      · have w_3 : (-32768 ≤ p1.toInt ∧ p1.toInt ≤ 32767) := w_3
        refine lv_if_eq (tgt := 35) hx hb dX4_insert_19 (by decide) (fun c_4 => ?_) (fun c_4 => ?_)
        · exact absurd c_4 (by decide)
        · refine lv_aload_n hx hb dX4_insert_22 rfl (lv_at hl 0 rfl) ?_
          refine va_get (D := (dC, dI)) (ci := 4) (v := .ref q_row) (C := RX4) (T := TX4) (N := 9) hx hb hts hi_4 hown hK hP 0 rfl rfl 0 (by decide) hf_12 (fun _ h9 => h9) rfl dX4_insert_23 ?_
          refine va_get (D := (dC, dI)) (ci := 0) (v := .int len) (C := RX0) (T := TX0) (N := 2) hx hb hts hi_0 hown hK hP 1 rfl rfl 1 (by decide) hf_57 (fun _ h9 => h9) rfl dX4_insert_26 ?_
          refine lv_sipush (v := 160) hx hb dX4_insert_29 (by decide) ?_
          refine lv_icmp_lt (tgt := 37) hx hb dX4_insert_32 (by decide) (fun c_5 => ?_) (fun c_5 => ?_)
          · have i_5 : len.toInt < 160 := kc_lt c_5
            refine lv_aload_n hx hb dX4_insert_37 rfl (lv_at hl 0 rfl) ?_
            refine va_get (D := (dC, dI)) (ci := 4) (v := .ref q_row) (C := RX4) (T := TX4) (N := 9) hx hb hts hi_4 hown hK hP 0 rfl rfl 0 (by decide) hf_12 (fun _ h9 => h9) rfl dX4_insert_38 ?_
            refine lv_iload_n hx hb dX4_insert_41 rfl (lv_at hl 1 rfl) ?_
            refine lv_iload_n hx hb dX4_insert_42 rfl (lv_at hl 2 rfl) ?_
            obtain ⟨hPc, hDc, hFc, hCc⟩ := kx_preM (wc := [kx_0 q_row q_cell len, kx_a q_cell cyI 160 f]) hP hD hS hA [false, true, true] rfl
            have hKc := hK
            refine va_callv (va_runV (As := [.int p0, .int p1]) (rest := []) ⟨hx, hb, hml, hown, hts⟩ (kx_un (c_X0_putIn l dC dI q_row q_cell cyI len f p0 p1 s.heap.size i_1 i_2 i_5)) (cwV 2 hts gX4_insert_X0_putIn rfl rfl rfl (by decide +kernel) ⟨Nat.le_of_ble_eq_true rfl, Nat.le_of_ble_eq_true rfl⟩) ⟨fun a U g mk q => by obtain ⟨q0, q1, qP, qK, qD⟩ := q; exact ⟨q0, q1, qP, va_K.moved (u := U) (U := U.calling g mk a) (Vm.Alike.refl U.vm) qK, qD⟩, kx_rc0 hKc hPc (q0 := 0) rfl, fun U hU hW => ⟨rfl, by rw [hU], by rw [hU]; exact hPc, va_K.moved hW.alike hKc, hDc.weaken (fun _ _ _ _ => trivial)⟩⟩ rfl rfl hl.1 rfl (lv_room (Nat.le_of_ble_eq_true rfl)) dX4_insert_43 ⟨Nat.le_of_ble_eq_true rfl, Nat.le_of_ble_eq_true rfl⟩) hS (fun q _ h => hFc q h) hFc (fun u t H1 locs ht hvm w_6 hB hz1 hk1 hS => ?_)
            obtain ⟨o_7, o_8⟩ := u
            dsimp only at w_6 hB
            obtain ⟨hP1, hK1, hD1⟩ := hB
            rw [ht] at hP1
            have hK1 := va_K.moved hvm.symm hK1
            obtain ⟨hP, hD⟩ := kx_joinM (w2 := [kx_4 m_ q_row q_t t_ h0 k0 w_ z_ slots old, kx_0 q_row q_cell o_7, kx_a q_cell cyI 160 o_8]) hP hD hP1 hD1 hk1 hFc [false, true, true] hCc rfl
            clear hP1 hD1 hK1 hk1 hz1 hFc hDc hPc hKc hCc
            generalize H1 = H at hP hS ⊢
            have w_6 : o_7.toInt = len.toInt + 1 ∧ o_8 = upd (shR f len.toNatClampNeg p0.toNatClampNeg) p0.toNatClampNeg p1 := w_6
            refine lv_aload_n hx hb dX4_insert_46 rfl (lv_at hl 0 rfl) ?_
            refine lv_iconst (v := 1) hx hb dX4_insert_47 (by decide) ?_
            refine va_put (D := (dC, dI)) (ci := 4) (v := .int 1) (ty := .boolean) (C := RX4) (T := TX4) (N := 9) hx hb hts hi_4 tyX4 tyX4_ok nmX4 hown hK hP hD hS 0 rfl rfl 8 (by decide) hf_53 (fun _ h9 => h9) rfl (by decide +kernel) (by decide) (by decide) (Nat.le_of_ble_eq_true rfl) dX4_insert_48 (fun H locs hP hD hS => ?_)
            obtain ⟨hP, hD⟩ := kx_re (w2 := [kx_4 m_ q_row q_t t_ h0 k0 w_ z_ slots 1, kx_0 q_row q_cell o_7, kx_a q_cell cyI 160 o_8]) hP hD rfl
            refine lv_aload_n hx hb dX4_insert_51 rfl (lv_at hl 0 rfl) ?_
            refine va_get (D := (dC, dI)) (ci := 4) (v := .ref q_row) (C := RX4) (T := TX4) (N := 9) hx hb hts hi_4 hown hK hP 0 rfl rfl 0 (by decide) hf_12 (fun _ h9 => h9) rfl dX4_insert_52 ?_
            refine va_get (D := (dC, dI)) (ci := 0) (v := .int o_7) (C := RX0) (T := TX0) (N := 2) hx hb hts hi_0 hown hK hP 1 rfl rfl 1 (by decide) hf_57 (fun _ h9 => h9) rfl dX4_insert_55 ?_
            have hP9 := hP
            have hD9 := hD
            have hK9 := hK
            exact W.iret (v := o_7) hx hb hr (hlocks := hlocks) (fun t ht hW => ⟨⟨o_7, (1, o_7, o_8), rfl, ⟨Or.inl ⟨by omega, by omega, by omega, by omega, by omega, rfl, w_6.1, rfl, w_6.2⟩, (by (try dsimp only); rw [w_6.2]; exact shorts_upd (shorts_shR s1) (by omega) (by omega))⟩, by rw [ht]; exact hP9, va_K.moved hW.alike hK9, hD9⟩, hS.F ht⟩) hS.2.2 dX4_insert_58
          · have i_5 : 160 ≤ len.toInt := kc_nlt c_5
            refine lv_iconst (v := (-1)) hx hb dX4_insert_35 (by decide) ?_
            have hP9 := hP
            have hD9 := hD
            have hK9 := hK
            exact W.iret (v := (-1)) hx hb hr (hlocks := hlocks) (fun t ht hW => ⟨⟨(-1), (old, len, f), rfl, ⟨Or.inr ⟨by omega, rfl, rfl, rfl, rfl⟩, s1⟩, by rw [ht]; exact hP9, va_K.moved hW.alike hK9, hD9⟩, hS.F ht⟩) hS.2.2 dX4_insert_36
      · have w_3 : (p1.toInt < -32768 ∨ 32767 < p1.toInt) := w_3
        refine lv_if_eq (tgt := 35) hx hb dX4_insert_19 (by decide) (fun c_9 => ?_) (fun c_9 => ?_)
        · refine lv_iconst (v := (-1)) hx hb dX4_insert_35 (by decide) ?_
          have hP9 := hP
          have hD9 := hD
          have hK9 := hK
          exact W.iret (v := (-1)) hx hb hr (hlocks := hlocks) (fun t ht hW => ⟨⟨(-1), (old, len, f), rfl, ⟨Or.inr ⟨by omega, rfl, rfl, rfl, rfl⟩, s1⟩, by rw [ht]; exact hP9, va_K.moved hW.alike hK9, hD9⟩, hS.F ht⟩) hS.2.2 dX4_insert_36
        · exact absurd c_9 (by decide)

set_option maxHeartbeats 4000000 in
set_option maxRecDepth 100000 in
theorem c_X4_remove (l : Launch) (dC : Nat → ClassId) (dI : Nat → Nat → Nat) (m_ : Nat) (q_row : Nat) (q_t : Nat) (t_ : Nat) (h0 : Nat) (k0 : Nat) (w_ : Nat) (z_ : Nat) (slots : Int32) (old : Int32) (q_cell : Nat) (cyI : ClassId) (len : Int32) (f : Nat → Int32) (p0 : Int32) (sz : Nat) (a0 : 0 ≤ len.toInt) (a1 : len.toInt ≤ 160) (s1 : shorts f) : kx_MQ l (dC, dI) yX4_remove wsX4_remove ({ frames := 2, cells := 0, slots := 0, locals := 90 }) [.ref m_, .int p0] [kx_4 m_ q_row q_t t_ h0 k0 w_ z_ slots old, kx_0 q_row q_cell len, kx_a q_cell cyI 160 f] [(cyI, .int)] sz (fun A => va_Qi (fun (r : Int32) (u : Int32 × Int32 × (Nat → Int32)) => ((0 ≤ p0.toInt ∧ p0.toInt < len.toInt ∧ r = f p0.toNatClampNeg ∧ u.2.1.toInt = len.toInt - 1 ∧ u.1 = 1 ∧ u.2.2 = shL f p0.toNatClampNeg u.2.1.toNatClampNeg) ∨ ((p0.toInt < 0 ∨ len.toInt ≤ p0.toInt) ∧ r = -40000 ∧ u.2.1 = len ∧ u.1 = old ∧ u.2.2 = f)) ∧ shorts u.2.2) (fun (u : Int32 × Int32 × (Nat → Int32)) (t : State) => va_P (dC, dI) vwCl [kx_4 m_ q_row q_t t_ h0 k0 w_ z_ slots u.1, kx_0 q_row q_cell u.2.1, kx_a q_cell cyI 160 u.2.2] t.heap ∧ va_K (dC, dI) vwCl [(cyI, .int)] t ∧ va_D A [kx_4 m_ q_row q_t t_ h0 k0 w_ z_ slots u.1, kx_0 q_row q_cell u.2.1, kx_a q_cell cyI 160 u.2.2]) A) := by
  refine kx_stQ (ws := wsX4_remove) (cc := cX4_remove) (maxL := 3) (ret := (some .int)) (by decide) rfl (Nat.le_of_ble_eq_true rfl) ?_
  intro p e s m below meth c A ls hx hb hr hlocks hts hown hml hA hS hP hK hD hl
  have hown : s.vm.findClass RX4 = some m.cls := hown
  have hl : lv_has ls 3 [(0, .ref m_), (1, .int p0)] := hl
  have hf_12 := hts (.fieldLink RX4 12 "MajorityIndex" "row" "LMajorityIndex$Row;") (List.mem_of_getElem? (i := 1) rfl)
  have hi_4 : ∀ w ∈ u_ws RX4 TX4 9, w ∈ wsX4_remove := fun w h => List.mem_cons_of_mem _ (List.mem_append_left _ (List.mem_append_right _ h))
  have hf_53 := hts (.fieldLink RX4 53 "MajorityIndex" "treeIsOld" "Z") (List.mem_of_getElem? (i := 3) rfl)
  have hk_102 := hts (.constant RX4 102 (-40000)) (List.mem_of_getElem? (i := 2) rfl)
  refine lv_aload_n hx hb dX4_remove_0 rfl (lv_at hl 0 rfl) ?_
  refine va_get (D := (dC, dI)) (ci := 4) (v := .ref q_row) (C := RX4) (T := TX4) (N := 9) hx hb hts hi_4 hown hK hP 0 rfl rfl 0 (by decide) hf_12 (fun _ h9 => h9) rfl dX4_remove_1 ?_
  refine lv_iload_n hx hb dX4_remove_4 rfl (lv_at hl 1 rfl) ?_
  have hPc := hP.sub (ws' := [kx_0 q_row q_cell len]) [1] rfl
  have hKc := hK.sub (tys' := []) [] rfl
  refine vp_callSi (W.runV (As := [.int p0]) (rest := []) ⟨hx, hb, hml, hown, hts⟩ (c_X0_hasPlace l dC dI q_row q_cell len p0) (cwV 1 hts gX4_remove_X0_hasPlace rfl rfl rfl (by decide +kernel) ⟨Nat.le_of_ble_eq_true rfl, Nat.le_of_ble_eq_true rfl⟩) ⟨fun a U g mk q => by obtain ⟨q0, qP, qK⟩ := q; exact ⟨q0, qP, va_K.moved (u := U) (U := U.calling g mk a) (Vm.Alike.refl U.vm) qK⟩, kx_rc0 hKc hPc (q0 := 0) rfl, fun U hU hW => ⟨rfl, by rw [hU]; exact hPc, va_K.moved hW.alike hKc⟩⟩ rfl rfl hl.1 rfl (lv_room (Nat.le_of_ble_eq_true rfl)) dX4_remove_5 ⟨Nat.le_of_ble_eq_true rfl, Nat.le_of_ble_eq_true rfl⟩) (fun r_1 w_1 => ?_)
  rcases w_1 with ⟨rfl, w_1⟩ | ⟨rfl, w_1⟩
  · have w_1 : (0 ≤ p0.toInt ∧ p0.toInt < len.toInt) := w_1
    refine lv_if_ne (tgt := 14) hx hb dX4_remove_8 (by decide) (fun c_2 => ?_) (fun c_2 => ?_)
    · refine lv_aload_n hx hb dX4_remove_14 rfl (lv_at hl 0 rfl) ?_
      refine va_get (D := (dC, dI)) (ci := 4) (v := .ref q_row) (C := RX4) (T := TX4) (N := 9) hx hb hts hi_4 hown hK hP 0 rfl rfl 0 (by decide) hf_12 (fun _ h9 => h9) rfl dX4_remove_15 ?_
      refine lv_iload_n hx hb dX4_remove_18 rfl (lv_at hl 1 rfl) ?_
      obtain ⟨hPc, hDc, hFc, hCc⟩ := kx_preM (wc := [kx_0 q_row q_cell len, kx_a q_cell cyI 160 f]) hP hD hS hA [false, true, true] rfl
      have hKc := hK
      refine va_calli (va_runV (As := [.int p0]) (rest := []) ⟨hx, hb, hml, hown, hts⟩ (kx_un (c_X0_takeOut l dC dI q_row q_cell cyI len f p0 s.heap.size (om_10 w_1.1) (om_11 w_1.2) a1)) (cwV 1 hts gX4_remove_X0_takeOut rfl rfl rfl (by decide +kernel) ⟨Nat.le_of_ble_eq_true rfl, Nat.le_of_ble_eq_true rfl⟩) ⟨fun a U g mk q => by obtain ⟨q0, q1, qP, qK, qD⟩ := q; exact ⟨q0, q1, qP, va_K.moved (u := U) (U := U.calling g mk a) (Vm.Alike.refl U.vm) qK, qD⟩, kx_rc0 hKc hPc (q0 := 0) rfl, fun U hU hW => ⟨rfl, by rw [hU], by rw [hU]; exact hPc, va_K.moved hW.alike hKc, hDc.weaken (fun _ _ _ _ => trivial)⟩⟩ rfl rfl hl.1 rfl (lv_room (Nat.le_of_ble_eq_true rfl)) dX4_remove_19 ⟨Nat.le_of_ble_eq_true rfl, Nat.le_of_ble_eq_true rfl⟩) hS (fun q _ h => hFc q h) hFc (fun r_3 u t H1 locs ht hvm w_3 hB hz1 hk1 hS => ?_)
      obtain ⟨o_4, o_5⟩ := u
      dsimp only at w_3 hB
      obtain ⟨hP1, hK1, hD1⟩ := hB
      rw [ht] at hP1
      have hK1 := va_K.moved hvm.symm hK1
      obtain ⟨hP, hD⟩ := kx_joinM (w2 := [kx_4 m_ q_row q_t t_ h0 k0 w_ z_ slots old, kx_0 q_row q_cell o_4, kx_a q_cell cyI 160 o_5]) hP hD hP1 hD1 hk1 hFc [false, true, true] hCc rfl
      clear hP1 hD1 hK1 hk1 hz1 hFc hDc hPc hKc hCc
      generalize H1 = H at hP hS ⊢
      have w_3 : o_4.toInt = len.toInt - 1 ∧ o_5 = shL f p0.toNatClampNeg o_4.toNatClampNeg ∧ r_3 = f p0.toNatClampNeg := w_3
      refine lv_istore_n (lv' := [(2, .int r_3), (0, .ref m_), (1, .int p0)]) hx hb dX4_remove_22 rfl hl (by decide) rfl (fun ls hl => ?_)
      refine lv_aload_n hx hb dX4_remove_23 rfl (lv_at hl 1 rfl) ?_
      refine lv_iconst (v := 1) hx hb dX4_remove_24 (by decide) ?_
      refine va_put (D := (dC, dI)) (ci := 4) (v := .int 1) (ty := .boolean) (C := RX4) (T := TX4) (N := 9) hx hb hts hi_4 tyX4 tyX4_ok nmX4 hown hK hP hD hS 0 rfl rfl 8 (by decide) hf_53 (fun _ h9 => h9) rfl (by decide +kernel) (by decide) (by decide) (Nat.le_of_ble_eq_true rfl) dX4_remove_25 (fun H locs hP hD hS => ?_)
      obtain ⟨hP, hD⟩ := kx_re (w2 := [kx_4 m_ q_row q_t t_ h0 k0 w_ z_ slots 1, kx_0 q_row q_cell o_4, kx_a q_cell cyI 160 o_5]) hP hD rfl
      refine lv_iload_n hx hb dX4_remove_28 rfl (lv_at hl 0 rfl) ?_
      have hP9 := hP
      have hD9 := hD
      have hK9 := hK
      have n_l := ki_nat o_4 rfl (by omega)
      exact W.iret (v := r_3) hx hb hr (hlocks := hlocks) (fun t ht hW => ⟨⟨r_3, (1, o_4, o_5), rfl, ⟨Or.inl ⟨by omega, by omega, w_3.2.2, w_3.1, rfl, w_3.2.1⟩, (by (try dsimp only); rw [w_3.2.1]; exact shorts_shL s1 (by omega))⟩, by rw [ht]; exact hP9, va_K.moved hW.alike hK9, hD9⟩, hS.F ht⟩) hS.2.2 dX4_remove_29
    · exact absurd c_2 (by decide)
  · have w_1 : (p0.toInt < 0 ∨ len.toInt ≤ p0.toInt) := w_1
    refine lv_if_ne (tgt := 14) hx hb dX4_remove_8 (by decide) (fun c_6 => ?_) (fun c_6 => ?_)
    · exact absurd c_6 (by decide)
    · refine lv_ldc (v := (-40000)) hx hb hown hk_102 dX4_remove_11 ?_
      have hP9 := hP
      have hD9 := hD
      have hK9 := hK
      exact W.iret (v := (-40000)) hx hb hr (hlocks := hlocks) (fun t ht hW => ⟨⟨(-40000), (old, len, f), rfl, ⟨Or.inr ⟨by omega, rfl, rfl, rfl, rfl⟩, s1⟩, by rw [ht]; exact hP9, va_K.moved hW.alike hK9, hD9⟩, hS.F ht⟩) hS.2.2 dX4_remove_13

set_option maxHeartbeats 4000000 in
set_option maxRecDepth 100000 in
theorem c_X4_laidTree (l : Launch) (dC : Nat → ClassId) (dI : Nat → Nat → Nat) (m_ : Nat) (q_row : Nat) (q_t : Nat) (t_ : Nat) (h0 : Nat) (k0 : Nat) (w_ : Nat) (z_ : Nat) (slots : Int32) (old : Int32) (q_joined : Nat) (q_from : Nat) (q_to : Nat) (q_size : Nat) (q_lossOf : Nat) (q_lessBy : Nat) (q_value : Nat) (q_number : Nat) (nodes : Int32) (here : Int32) (q_cell : Nat) (cyI : ClassId) (len : Int32) (f : Nat → Int32) (ff : Nat → Int32) (ft : Nat → Int32) (fs : Nat → Int32) (fo : Nat → Int32) (uv : Nat → Int32) (un : Nat → Int32) (fe : Nat → Int32) (j_v : Nat) (j_n : Nat) (js : Int32) (jl : Int32) (je : Int32) (jv : Nat → Int32) (jn : Nat → Int32) (sz : Nat) (a0 : 0 ≤ len.toInt) (a1 : len.toInt ≤ 160) (s0 : sixes fs) (l0 : laidP old ff ft nodes len) : kx_MQ l (dC, dI) yX4_laidTree wsX4_laidTree ({ frames := 5, cells := 0, slots := 0, locals := 225 }) [.ref m_] [kx_4 m_ q_row q_t t_ h0 k0 w_ z_ slots old, kx_2 q_t q_row q_joined q_from q_to q_size q_lossOf q_lessBy q_value q_number nodes here, kx_0 q_row q_cell len, kx_a q_cell cyI 160 f, kx_a q_from cyI 319 ff, kx_a q_to cyI 319 ft, kx_a q_size cyI 319 fs, kx_a q_lossOf cyI 319 fo, kx_a q_lessBy cyI 319 fe, kx_a q_value cyI 1914 uv, kx_a q_number cyI 1914 un, kx_3 q_joined j_v j_n js jl je, kx_a j_v cyI 12 jv, kx_a j_n cyI 12 jn] [(cyI, .int)] sz (fun A => va_Qr (fun u : Int32 × Int32 × Int32 × (Nat → Int32) × (Nat → Int32) × (Nat → Int32) × (Nat → Int32) × (Nat → Int32) × (Nat → Int32) × (Nat → Int32) × Int32 × Int32 × Int32 × (Nat → Int32) × (Nat → Int32) => u.1.toInt = 0 ∧ 0 ≤ u.2.1.toInt ∧ u.2.1.toInt ≤ 319 ∧ sixes u.2.2.2.2.2.1 ∧ treeOk u.2.2.2.1 u.2.2.2.2.1 u.2.1.toInt len.toInt) (fun (u : Int32 × Int32 × Int32 × (Nat → Int32) × (Nat → Int32) × (Nat → Int32) × (Nat → Int32) × (Nat → Int32) × (Nat → Int32) × (Nat → Int32) × Int32 × Int32 × Int32 × (Nat → Int32) × (Nat → Int32)) (ra : Nat) (t : State) => ra = q_t ∧ va_P (dC, dI) vwCl [kx_4 m_ q_row q_t t_ h0 k0 w_ z_ slots u.1, kx_2 q_t q_row q_joined q_from q_to q_size q_lossOf q_lessBy q_value q_number u.2.1 u.2.2.1, kx_0 q_row q_cell len, kx_a q_cell cyI 160 f, kx_a q_from cyI 319 u.2.2.2.1, kx_a q_to cyI 319 u.2.2.2.2.1, kx_a q_size cyI 319 u.2.2.2.2.2.1, kx_a q_lossOf cyI 319 u.2.2.2.2.2.2.1, kx_a q_lessBy cyI 319 u.2.2.2.2.2.2.2.1, kx_a q_value cyI 1914 u.2.2.2.2.2.2.2.2.1, kx_a q_number cyI 1914 u.2.2.2.2.2.2.2.2.2.1, kx_3 q_joined j_v j_n u.2.2.2.2.2.2.2.2.2.2.1 u.2.2.2.2.2.2.2.2.2.2.2.1 u.2.2.2.2.2.2.2.2.2.2.2.2.1, kx_a j_v cyI 12 u.2.2.2.2.2.2.2.2.2.2.2.2.2.1, kx_a j_n cyI 12 u.2.2.2.2.2.2.2.2.2.2.2.2.2.2] t.heap ∧ va_K (dC, dI) vwCl [(cyI, .int)] t ∧ va_D A [kx_4 m_ q_row q_t t_ h0 k0 w_ z_ slots u.1, kx_2 q_t q_row q_joined q_from q_to q_size q_lossOf q_lessBy q_value q_number u.2.1 u.2.2.1, kx_0 q_row q_cell len, kx_a q_cell cyI 160 f, kx_a q_from cyI 319 u.2.2.2.1, kx_a q_to cyI 319 u.2.2.2.2.1, kx_a q_size cyI 319 u.2.2.2.2.2.1, kx_a q_lossOf cyI 319 u.2.2.2.2.2.2.1, kx_a q_lessBy cyI 319 u.2.2.2.2.2.2.2.1, kx_a q_value cyI 1914 u.2.2.2.2.2.2.2.2.1, kx_a q_number cyI 1914 u.2.2.2.2.2.2.2.2.2.1, kx_3 q_joined j_v j_n u.2.2.2.2.2.2.2.2.2.2.1 u.2.2.2.2.2.2.2.2.2.2.2.1 u.2.2.2.2.2.2.2.2.2.2.2.2.1, kx_a j_v cyI 12 u.2.2.2.2.2.2.2.2.2.2.2.2.2.1, kx_a j_n cyI 12 u.2.2.2.2.2.2.2.2.2.2.2.2.2.2]) A) := by
  refine kx_stQ (ws := wsX4_laidTree) (cc := cX4_laidTree) (maxL := 1) (ret := (some (.object "MajorityIndex$Tree"))) (by decide) rfl (Nat.le_of_ble_eq_true rfl) ?_
  intro p e s m below meth c A ls hx hb hr hlocks hts hown hml hA hS hP hK hD hl
  have hown : s.vm.findClass RX4 = some m.cls := hown
  have hl : lv_has ls 1 [(0, .ref m_)] := hl
  have hf_53 := hts (.fieldLink RX4 53 "MajorityIndex" "treeIsOld" "Z") (List.mem_of_getElem? (i := 1) rfl)
  have hi_4 : ∀ w ∈ u_ws RX4 TX4 9, w ∈ wsX4_laidTree := fun w h => List.mem_cons_of_mem _ (List.mem_append_left _ (List.mem_append_left _ (List.mem_append_left _ (List.mem_append_right _ h))))
  have hf_21 := hts (.fieldLink RX4 21 "MajorityIndex" "tree" "LMajorityIndex$Tree;") (List.mem_of_getElem? (i := 2) rfl)
  have hf_49 := hts (.fieldLink RX4 49 "MajorityIndex" "slotsNow" "I") (List.mem_of_getElem? (i := 3) rfl)
  have hf_204 := hts (.fieldLink RX4 204 "MajorityIndex$Tree" "slotsHere" "I") (List.mem_of_getElem? (i := 4) rfl)
  have hi_2 : ∀ w ∈ u_ws RX2 TX2 11, w ∈ wsX4_laidTree := fun w h => List.mem_cons_of_mem _ (List.mem_append_left _ (List.mem_append_left _ (List.mem_append_right _ h)))
  have hf_12 := hts (.fieldLink RX4 12 "MajorityIndex" "row" "LMajorityIndex$Row;") (List.mem_of_getElem? (i := 5) rfl)
  have hf_57 := hts (.fieldLink RX4 57 "MajorityIndex$Row" "length" "I") (List.mem_of_getElem? (i := 6) rfl)
  have hi_0 : ∀ w ∈ u_ws RX0 TX0 2, w ∈ wsX4_laidTree := fun w h => List.mem_cons_of_mem _ (List.mem_append_left _ (List.mem_append_right _ h))
  refine lv_aload_n hx hb dX4_laidTree_0 rfl (lv_at hl 0 rfl) ?_
  refine va_get (D := (dC, dI)) (ci := 4) (v := .int old) (C := RX4) (T := TX4) (N := 9) hx hb hts hi_4 hown hK hP 0 rfl rfl 8 (by decide) hf_53 (fun _ h9 => h9) rfl dX4_laidTree_1 ?_
  refine lv_if_eq (tgt := 46) hx hb dX4_laidTree_4 (by decide) (fun c_1 => ?_) (fun c_1 => ?_)
  · have i_1 : old.toInt = 0 := kc_eq c_1
    refine lv_aload_n hx hb dX4_laidTree_46 rfl (lv_at hl 0 rfl) ?_
    refine va_get (D := (dC, dI)) (ci := 4) (v := .ref q_t) (C := RX4) (T := TX4) (N := 9) hx hb hts hi_4 hown hK hP 0 rfl rfl 1 (by decide) hf_21 (fun _ h9 => h9) rfl dX4_laidTree_47 ?_
    have hP9 := hP
    have hD9 := hD
    have hK9 := hK
    exact W.aret hx hb hr (Or.inl ⟨_, rfl⟩) (Or.inr ⟨_, rfl⟩) (hlocks := hlocks) (fun t ht hW => ⟨⟨(old, nodes, here, ff, ft, fs, fo, fe, uv, un, js, jl, je, jv, jn), q_t, rfl, ⟨by omega, (l0 (by (try dsimp only); omega)).1, (l0 (by (try dsimp only); omega)).2.1, s0, (l0 (by (try dsimp only); omega)).2.2⟩, rfl, by rw [ht]; exact hP9, va_K.moved hW.alike hK9, hD9⟩, hS.F ht⟩) hS.2.2 dX4_laidTree_50
  · have i_1 : ¬ old.toInt = 0 := kc_ne c_1
    refine lv_aload_n hx hb dX4_laidTree_7 rfl (lv_at hl 0 rfl) ?_
    refine va_get (D := (dC, dI)) (ci := 4) (v := .ref q_t) (C := RX4) (T := TX4) (N := 9) hx hb hts hi_4 hown hK hP 0 rfl rfl 1 (by decide) hf_21 (fun _ h9 => h9) rfl dX4_laidTree_8 ?_
    obtain ⟨hPc, hDc, hFc, hCc⟩ := kx_preM (wc := [kx_2 q_t q_row q_joined q_from q_to q_size q_lossOf q_lessBy q_value q_number nodes here, kx_0 q_row q_cell len, kx_a q_from cyI 319 ff, kx_a q_to cyI 319 ft]) hP hD hS hA [false, true, true, false, true, true, false, false, false, false, false, false, false, false] rfl
    have hKc := hK
    refine va_callv (va_runV (As := []) (rest := []) ⟨hx, hb, hml, hown, hts⟩ (kx_un (c_X2_layRanges l dC dI q_t q_row q_joined q_from q_to q_size q_lossOf q_lessBy q_value q_number nodes here q_cell cyI len ff ft s.heap.size a0 a1)) (cwV 0 hts gX4_laidTree_X2_layRanges rfl rfl rfl (by decide +kernel) ⟨Nat.le_of_ble_eq_true rfl, Nat.le_of_ble_eq_true rfl⟩) ⟨fun a U g mk q => by obtain ⟨q0, q1, qP, qK, qD⟩ := q; exact ⟨q0, q1, qP, va_K.moved (u := U) (U := U.calling g mk a) (Vm.Alike.refl U.vm) qK, qD⟩, kx_rc2 hKc hPc (q0 := 0) rfl, fun U hU hW => ⟨rfl, by rw [hU], by rw [hU]; exact hPc, va_K.moved hW.alike hKc, hDc.weaken (fun _ _ _ _ => trivial)⟩⟩ rfl rfl hl.1 rfl (lv_room (Nat.le_of_ble_eq_true rfl)) dX4_laidTree_11 ⟨Nat.le_of_ble_eq_true rfl, Nat.le_of_ble_eq_true rfl⟩) hS (fun q _ h => hFc q h) hFc (fun u t H1 locs ht hvm w_2 hB hz1 hk1 hS => ?_)
    obtain ⟨o_3, o_4, o_5⟩ := u
    dsimp only at w_2 hB
    obtain ⟨hP1, hK1, hD1⟩ := hB
    rw [ht] at hP1
    have hK1 := va_K.moved hvm.symm hK1
    obtain ⟨hP, hD⟩ := kx_joinM (w2 := [kx_4 m_ q_row q_t t_ h0 k0 w_ z_ slots old, kx_2 q_t q_row q_joined q_from q_to q_size q_lossOf q_lessBy q_value q_number o_3 here, kx_0 q_row q_cell len, kx_a q_cell cyI 160 f, kx_a q_from cyI 319 o_4, kx_a q_to cyI 319 o_5, kx_a q_size cyI 319 fs, kx_a q_lossOf cyI 319 fo, kx_a q_lessBy cyI 319 fe, kx_a q_value cyI 1914 uv, kx_a q_number cyI 1914 un, kx_3 q_joined j_v j_n js jl je, kx_a j_v cyI 12 jv, kx_a j_n cyI 12 jn]) hP hD hP1 hD1 hk1 hFc [false, true, true, false, true, true, false, false, false, false, false, false, false, false] hCc rfl
    clear hP1 hD1 hK1 hk1 hz1 hFc hDc hPc hKc hCc
    generalize H1 = H at hP hS ⊢
    have w_2 : ((len.toInt = 0 ∧ o_3.toInt = 0) ∨ (0 < len.toInt ∧ o_3.toInt = 2 * len.toInt - 1)) ∧ treeOk o_4 o_5 o_3.toInt len.toInt := w_2
    refine lv_aload_n hx hb dX4_laidTree_14 rfl (lv_at hl 0 rfl) ?_
    refine va_get (D := (dC, dI)) (ci := 4) (v := .ref q_t) (C := RX4) (T := TX4) (N := 9) hx hb hts hi_4 hown hK hP 0 rfl rfl 1 (by decide) hf_21 (fun _ h9 => h9) rfl dX4_laidTree_15 ?_
    refine lv_aload_n hx hb dX4_laidTree_18 rfl (lv_at hl 0 rfl) ?_
    refine va_get (D := (dC, dI)) (ci := 4) (v := .int slots) (C := RX4) (T := TX4) (N := 9) hx hb hts hi_4 hown hK hP 0 rfl rfl 7 (by decide) hf_49 (fun _ h9 => h9) rfl dX4_laidTree_19 ?_
    refine va_put (D := (dC, dI)) (ci := 2) (v := .int slots) (ty := .int) (C := RX2) (T := TX2) (N := 11) hx hb hts hi_2 tyX2 tyX2_ok nmX2 hown hK hP hD hS 1 rfl rfl 10 (by decide) hf_204 (fun _ h9 => h9) rfl (by decide +kernel) rfl rfl (Nat.le_of_ble_eq_true rfl) dX4_laidTree_22 (fun H locs hP hD hS => ?_)
    obtain ⟨hP, hD⟩ := kx_re (w2 := [kx_4 m_ q_row q_t t_ h0 k0 w_ z_ slots old, kx_2 q_t q_row q_joined q_from q_to q_size q_lossOf q_lessBy q_value q_number o_3 slots, kx_0 q_row q_cell len, kx_a q_cell cyI 160 f, kx_a q_from cyI 319 o_4, kx_a q_to cyI 319 o_5, kx_a q_size cyI 319 fs, kx_a q_lossOf cyI 319 fo, kx_a q_lessBy cyI 319 fe, kx_a q_value cyI 1914 uv, kx_a q_number cyI 1914 un, kx_3 q_joined j_v j_n js jl je, kx_a j_v cyI 12 jv, kx_a j_n cyI 12 jn]) hP hD rfl
    refine lv_aload_n hx hb dX4_laidTree_25 rfl (lv_at hl 0 rfl) ?_
    refine va_get (D := (dC, dI)) (ci := 4) (v := .ref q_t) (C := RX4) (T := TX4) (N := 9) hx hb hts hi_4 hown hK hP 0 rfl rfl 1 (by decide) hf_21 (fun _ h9 => h9) rfl dX4_laidTree_26 ?_
    refine lv_iconst (v := 0) hx hb dX4_laidTree_29 (by decide) ?_
    refine lv_aload_n hx hb dX4_laidTree_30 rfl (lv_at hl 0 rfl) ?_
    refine va_get (D := (dC, dI)) (ci := 4) (v := .ref q_row) (C := RX4) (T := TX4) (N := 9) hx hb hts hi_4 hown hK hP 0 rfl rfl 0 (by decide) hf_12 (fun _ h9 => h9) rfl dX4_laidTree_31 ?_
    refine va_get (D := (dC, dI)) (ci := 0) (v := .int len) (C := RX0) (T := TX0) (N := 2) hx hb hts hi_0 hown hK hP 2 rfl rfl 1 (by decide) hf_57 (fun _ h9 => h9) rfl dX4_laidTree_34 ?_
    obtain ⟨hPc, hDc, hFc, hCc⟩ := kx_preM (wc := [kx_2 q_t q_row q_joined q_from q_to q_size q_lossOf q_lessBy q_value q_number o_3 slots, kx_0 q_row q_cell len, kx_a q_cell cyI 160 f, kx_a q_from cyI 319 o_4, kx_a q_to cyI 319 o_5, kx_a q_size cyI 319 fs, kx_a q_lossOf cyI 319 fo, kx_a q_lessBy cyI 319 fe, kx_a q_value cyI 1914 uv, kx_a q_number cyI 1914 un, kx_3 q_joined j_v j_n js jl je, kx_a j_v cyI 12 jv, kx_a j_n cyI 12 jn]) hP hD hS hA [false, true, true, true, true, true, true, true, true, true, true, true, true, true] rfl
    have hKc := hK
    have k_6 : (0 : Int32).toInt = 0 := rfl
    refine va_calli (va_runV (As := [.int 0, .int len]) (rest := []) ⟨hx, hb, hml, hown, hts⟩ (kx_un (c_X2_renew l dC dI q_t q_row q_joined q_from q_to q_size q_lossOf q_lessBy q_value q_number o_3 slots q_cell cyI len f o_4 o_5 fs fo uv un fe j_v j_n js jl je jv jn 0 len H.size (by omega) (by omega) a1 s0 w_2.2)) (cwV 2 hts gX4_laidTree_X2_renew rfl rfl rfl (by decide +kernel) ⟨Nat.le_of_ble_eq_true rfl, Nat.le_of_ble_eq_true rfl⟩) ⟨fun a U g mk q => by obtain ⟨q0, q1, qP, qK, qD⟩ := q; exact ⟨q0, q1, qP, va_K.moved (u := U) (U := U.calling g mk a) (Vm.Alike.refl U.vm) qK, qD⟩, kx_rc2 hKc hPc (q0 := 0) rfl, fun U hU hW => ⟨rfl, by rw [hU], by rw [hU]; exact hPc, va_K.moved hW.alike hKc, hDc.weaken (fun _ _ _ _ => trivial)⟩⟩ rfl rfl hl.1 rfl (lv_room (Nat.le_of_ble_eq_true rfl)) dX4_laidTree_37 ⟨Nat.le_of_ble_eq_true rfl, Nat.le_of_ble_eq_true rfl⟩) hS (fun q _ h => hFc q h) hFc (fun r_7 u t H1 locs ht hvm w_7 hB hz1 hk1 hS => ?_)
    obtain ⟨o_8, o_9, o_10, o_11, o_12, o_13, o_14, o_15, o_16, o_17⟩ := u
    dsimp only at w_7 hB
    obtain ⟨hP1, hK1, hD1⟩ := hB
    rw [ht] at hP1
    have hK1 := va_K.moved hvm.symm hK1
    obtain ⟨hP, hD⟩ := kx_joinM (w2 := [kx_4 m_ q_row q_t t_ h0 k0 w_ z_ slots old, kx_2 q_t q_row q_joined q_from q_to q_size q_lossOf q_lessBy q_value q_number o_3 slots, kx_0 q_row q_cell len, kx_a q_cell cyI 160 f, kx_a q_from cyI 319 o_4, kx_a q_to cyI 319 o_5, kx_a q_size cyI 319 o_8, kx_a q_lossOf cyI 319 o_9, kx_a q_lessBy cyI 319 o_10, kx_a q_value cyI 1914 o_11, kx_a q_number cyI 1914 o_12, kx_3 q_joined j_v j_n o_13 o_14 o_15, kx_a j_v cyI 12 o_16, kx_a j_n cyI 12 o_17]) hP hD hP1 hD1 hk1 hFc [false, true, true, true, true, true, true, true, true, true, true, true, true, true] hCc rfl
    clear hP1 hD1 hK1 hk1 hz1 hFc hDc hPc hKc hCc
    generalize H1 = H at hP hS ⊢
    have w_7 : sixes o_8 := w_7
    refine lv_pop hx hb dX4_laidTree_40 rfl ?_
    refine lv_aload_n hx hb dX4_laidTree_41 rfl (lv_at hl 0 rfl) ?_
    refine lv_iconst (v := 0) hx hb dX4_laidTree_42 (by decide) ?_
    refine va_put (D := (dC, dI)) (ci := 4) (v := .int 0) (ty := .boolean) (C := RX4) (T := TX4) (N := 9) hx hb hts hi_4 tyX4 tyX4_ok nmX4 hown hK hP hD hS 0 rfl rfl 8 (by decide) hf_53 (fun _ h9 => h9) rfl (by decide +kernel) (by decide) (by decide) (Nat.le_of_ble_eq_true rfl) dX4_laidTree_43 (fun H locs hP hD hS => ?_)
    obtain ⟨hP, hD⟩ := kx_re (w2 := [kx_4 m_ q_row q_t t_ h0 k0 w_ z_ slots 0, kx_2 q_t q_row q_joined q_from q_to q_size q_lossOf q_lessBy q_value q_number o_3 slots, kx_0 q_row q_cell len, kx_a q_cell cyI 160 f, kx_a q_from cyI 319 o_4, kx_a q_to cyI 319 o_5, kx_a q_size cyI 319 o_8, kx_a q_lossOf cyI 319 o_9, kx_a q_lessBy cyI 319 o_10, kx_a q_value cyI 1914 o_11, kx_a q_number cyI 1914 o_12, kx_3 q_joined j_v j_n o_13 o_14 o_15, kx_a j_v cyI 12 o_16, kx_a j_n cyI 12 o_17]) hP hD rfl
    refine lv_aload_n hx hb dX4_laidTree_46 rfl (lv_at hl 0 rfl) ?_
    refine va_get (D := (dC, dI)) (ci := 4) (v := .ref q_t) (C := RX4) (T := TX4) (N := 9) hx hb hts hi_4 hown hK hP 0 rfl rfl 1 (by decide) hf_21 (fun _ h9 => h9) rfl dX4_laidTree_47 ?_
    have hP9 := hP
    have hD9 := hD
    have hK9 := hK
    exact W.aret hx hb hr (Or.inl ⟨_, rfl⟩) (Or.inr ⟨_, rfl⟩) (hlocks := hlocks) (fun t ht hW => ⟨⟨(0, o_3, slots, o_4, o_5, o_8, o_9, o_10, o_11, o_12, o_13, o_14, o_15, o_16, o_17), q_t, rfl, ⟨rfl, (by (try dsimp only); omega), (by (try dsimp only); omega), w_7, w_2.2⟩, rfl, by rw [ht]; exact hP9, va_K.moved hW.alike hK9, hD9⟩, hS.F ht⟩) hS.2.2 dX4_laidTree_50



abbrev cX4_node : ByteArray := prog_1_method_15_code
def yX4_node : MethodName := ⟨RX4, "node", "(II)I"⟩
abbrev cX4_loss : ByteArray := prog_1_method_17_code
def yX4_loss : MethodName := ⟨RX4, "loss", "(II)I"⟩
abbrev cX4_cancelled : ByteArray := prog_1_method_18_code
def yX4_cancelled : MethodName := ⟨RX4, "cancelled", "(II)I"⟩
abbrev cX4_above : ByteArray := prog_1_method_19_code
def yX4_above : MethodName := ⟨RX4, "above", "(III)I"⟩
abbrev cX4_holds : ByteArray := prog_1_method_20_code
def yX4_holds : MethodName := ⟨RX4, "holds", "(I)I"⟩
abbrev cX4_parts : ByteArray := prog_1_method_21_code
def yX4_parts : MethodName := ⟨RX4, "parts", "(II)I"⟩
abbrev cX4_part : ByteArray := prog_1_method_22_code
def yX4_part : MethodName := ⟨RX4, "part", "(IIII)I"⟩
abbrev cX4_summary : ByteArray := prog_1_method_23_code
def yX4_summary : MethodName := ⟨RX4, "summary", "(III)I"⟩
abbrev cX4_lost : ByteArray := prog_1_method_25_code
def yX4_lost : MethodName := ⟨RX4, "lost", "(III)I"⟩
abbrev cX4_surely : ByteArray := prog_1_method_26_code
def yX4_surely : MethodName := ⟨RX4, "surely", "(II)I"⟩
abbrev cX4_heavy : ByteArray := prog_1_method_27_code
def yX4_heavy : MethodName := ⟨RX4, "heavy", "(IIII)I"⟩
abbrev cX4_failed : ByteArray := prog_1_method_29_code
def yX4_failed : MethodName := ⟨RX4, "failed", "(IIII)I"⟩
abbrev cX4_isEnough : ByteArray := prog_1_method_49_code
def yX4_isEnough : MethodName := ⟨RX4, "isEnough", "(II)Z"⟩
abbrev cX4_gatherHeavy : ByteArray := prog_1_method_53_code
def yX4_gatherHeavy : MethodName := ⟨RX4, "gatherHeavy", "(LMajorityIndex$Tree;IIII)V"⟩
def wsX4_node_r1 : List Cond := [Cond.fieldLink RX4 12 "MajorityIndex" "row" "LMajorityIndex$Row;", Cond.fieldLink RX4 126 "MajorityIndex$Tree" "size" "[I", Cond.methodLink RX4 79 yX0_hasRange, Cond.instanceMethod yX0_hasRange, Cond.selects RX0 yX0_hasRange yX0_hasRange, Cond.initialized RX0, Cond.code yX0_hasRange cX0_hasRange 3 (some .boolean), Cond.fieldLink RX0 15 "MajorityIndex$Row" "length" "I", Cond.methodLink RX4 71 yX4_laidTree, Cond.instanceMethod yX4_laidTree, Cond.selects RX4 yX4_laidTree yX4_laidTree, Cond.initialized RX4, Cond.code yX4_laidTree cX4_laidTree 1 (some (.object "MajorityIndex$Tree")), Cond.fieldLink RX4 53 "MajorityIndex" "treeIsOld" "Z", Cond.fieldLink RX4 21 "MajorityIndex" "tree" "LMajorityIndex$Tree;", Cond.fieldLink RX4 49 "MajorityIndex" "slotsNow" "I", Cond.fieldLink RX4 204 "MajorityIndex$Tree" "slotsHere" "I", Cond.fieldLink RX4 57 "MajorityIndex$Row" "length" "I", Cond.methodLink RX4 259 yX2_layRanges, Cond.instanceMethod yX2_layRanges, Cond.selects RX2 yX2_layRanges yX2_layRanges, Cond.initialized RX2, Cond.code yX2_layRanges cX2_layRanges 2 none, Cond.fieldLink RX2 40 "MajorityIndex$Tree" "row" "LMajorityIndex$Row;"]
def wsX4_node_r2 : List Cond := [Cond.fieldLink RX2 44 "MajorityIndex$Row" "length" "I", Cond.fieldLink RX2 50 "MajorityIndex$Tree" "nodes" "I", Cond.fieldLink RX2 18 "MajorityIndex$Tree" "from" "[I", Cond.fieldLink RX2 22 "MajorityIndex$Tree" "to" "[I", Cond.methodLink RX2 53 yX2_layBelow, Cond.instanceMethod yX2_layBelow, Cond.selects RX2 yX2_layBelow yX2_layBelow, Cond.code yX2_layBelow cX2_layBelow 4 none, Cond.methodLink RX2 57 yX2_rightBelow, Cond.instanceMethod yX2_rightBelow, Cond.selects RX2 yX2_rightBelow yX2_rightBelow, Cond.code yX2_rightBelow cX2_rightBelow 3 (some .int), Cond.methodLink RX4 87 yX2_renew, Cond.instanceMethod yX2_renew, Cond.selects RX2 yX2_renew yX2_renew, Cond.code yX2_renew cX2_renew 5 (some .int), Cond.methodLink RX2 61 yX2_putTogether, Cond.instanceMethod yX2_putTogether, Cond.selects RX2 yX2_putTogether yX2_putTogether, Cond.code yX2_putTogether cX2_putTogether 2 none, Cond.fieldLink RX2 12 "MajorityIndex$Tree" "joined" "LMajorityIndex$Votes;", Cond.fieldLink RX2 74 "MajorityIndex$Row" "cell" "[I", Cond.fieldLink RX2 85 "MajorityIndex$Tree" "slotsHere" "I", Cond.methodLink RX2 71 yX3_clear]
def wsX4_node_r3 : List Cond := [Cond.instanceMethod yX3_clear, Cond.selects RX3 yX3_clear yX3_clear, Cond.initialized RX3, Cond.code yX3_clear cX3_clear 1 none, Cond.fieldLink RX3 18 "MajorityIndex$Votes" "size" "I", Cond.fieldLink RX3 22 "MajorityIndex$Votes" "lost" "I", Cond.fieldLink RX3 25 "MajorityIndex$Votes" "lessBy" "I", Cond.methodLink RX2 77 yX3_add, Cond.instanceMethod yX3_add, Cond.selects RX3 yX3_add yX3_add, Cond.code yX3_add cX3_add 4 none, Cond.fieldLink RX3 9 "MajorityIndex$Votes" "value" "[I", Cond.fieldLink RX3 15 "MajorityIndex$Votes" "number" "[I", Cond.methodLink RX2 81 yX2_joinNode, Cond.instanceMethod yX2_joinNode, Cond.selects RX2 yX2_joinNode yX2_joinNode, Cond.code yX2_joinNode cX2_joinNode 5 none, Cond.fieldLink RX2 25 "MajorityIndex$Tree" "size" "[I", Cond.fieldLink RX2 34 "MajorityIndex$Tree" "value" "[I", Cond.fieldLink RX2 37 "MajorityIndex$Tree" "number" "[I", Cond.fieldLink RX2 91 "MajorityIndex$Votes" "lost" "I", Cond.fieldLink RX2 28 "MajorityIndex$Tree" "lossOf" "[I", Cond.methodLink RX2 88 yX3_cancel, Cond.instanceMethod yX3_cancel]
def wsX4_node_r4 : List Cond := [Cond.selects RX3 yX3_cancel yX3_cancel, Cond.code yX3_cancel cX3_cancel 4 none, Cond.methodLink RX3 32 yX3_order, Cond.instanceMethod yX3_order, Cond.selects RX3 yX3_order yX3_order, Cond.code yX3_order cX3_order 3 none, Cond.methodLink RX3 35 yX3_isAhead, Cond.instanceMethod yX3_isAhead, Cond.selects RX3 yX3_isAhead yX3_isAhead, Cond.code yX3_isAhead cX3_isAhead 3 (some .boolean), Cond.methodLink RX3 39 yX3_exchange, Cond.instanceMethod yX3_exchange, Cond.selects RX3 yX3_exchange yX3_exchange, Cond.code yX3_exchange cX3_exchange 5 none, Cond.methodLink RX2 64 yX2_isJoined, Cond.instanceMethod yX2_isJoined, Cond.selects RX2 yX2_isJoined yX2_isJoined, Cond.code yX2_isJoined cX2_isJoined 4 (some .boolean), Cond.fieldLink RX2 94 "MajorityIndex$Votes" "size" "I", Cond.fieldLink RX2 96 "MajorityIndex$Votes" "value" "[I", Cond.fieldLink RX2 97 "MajorityIndex$Votes" "number" "[I", Cond.methodLink RX2 68 yX2_keepJoined, Cond.instanceMethod yX2_keepJoined, Cond.selects RX2 yX2_keepJoined yX2_keepJoined]
def wsX4_node_r5 : List Cond := [Cond.code yX2_keepJoined cX2_keepJoined 4 none, Cond.methodLink RX2 98 Lib.Math.min.name, Cond.static Lib.Math.min.name, Cond.initialized "java/lang/Math", Cond.code Lib.Math.min.name Lib.Math.min.code 2 (some .int), Cond.fieldLink RX2 31 "MajorityIndex$Tree" "lessBy" "[I", Cond.fieldLink RX2 104 "MajorityIndex$Votes" "lessBy" "I", Cond.methodLink RX4 123 yX2_find, Cond.instanceMethod yX2_find, Cond.selects RX2 yX2_find yX2_find, Cond.code yX2_find cX2_find 4 (some .int)]
def wsX4_node : List Cond := .code yX4_node cX4_node 5 (some .int) :: ((wsX4_node_r1 ++ (wsX4_node_r2 ++ (wsX4_node_r3 ++ (wsX4_node_r4 ++ wsX4_node_r5)))) ++ wsX40 ++ wsX20 ++ wsX00 ++ wsX30)
def wsX4_loss_r1 : List Cond := [Cond.fieldLink RX4 12 "MajorityIndex" "row" "LMajorityIndex$Row;", Cond.fieldLink RX4 139 "MajorityIndex$Tree" "lossOf" "[I", Cond.methodLink RX4 79 yX0_hasRange, Cond.instanceMethod yX0_hasRange, Cond.selects RX0 yX0_hasRange yX0_hasRange, Cond.initialized RX0, Cond.code yX0_hasRange cX0_hasRange 3 (some .boolean), Cond.fieldLink RX0 15 "MajorityIndex$Row" "length" "I", Cond.methodLink RX4 71 yX4_laidTree, Cond.instanceMethod yX4_laidTree, Cond.selects RX4 yX4_laidTree yX4_laidTree, Cond.initialized RX4, Cond.code yX4_laidTree cX4_laidTree 1 (some (.object "MajorityIndex$Tree")), Cond.fieldLink RX4 53 "MajorityIndex" "treeIsOld" "Z", Cond.fieldLink RX4 21 "MajorityIndex" "tree" "LMajorityIndex$Tree;", Cond.fieldLink RX4 49 "MajorityIndex" "slotsNow" "I", Cond.fieldLink RX4 204 "MajorityIndex$Tree" "slotsHere" "I", Cond.fieldLink RX4 57 "MajorityIndex$Row" "length" "I", Cond.methodLink RX4 259 yX2_layRanges, Cond.instanceMethod yX2_layRanges, Cond.selects RX2 yX2_layRanges yX2_layRanges, Cond.initialized RX2, Cond.code yX2_layRanges cX2_layRanges 2 none, Cond.fieldLink RX2 40 "MajorityIndex$Tree" "row" "LMajorityIndex$Row;"]
def wsX4_loss_r2 : List Cond := [Cond.fieldLink RX2 44 "MajorityIndex$Row" "length" "I", Cond.fieldLink RX2 50 "MajorityIndex$Tree" "nodes" "I", Cond.fieldLink RX2 18 "MajorityIndex$Tree" "from" "[I", Cond.fieldLink RX2 22 "MajorityIndex$Tree" "to" "[I", Cond.methodLink RX2 53 yX2_layBelow, Cond.instanceMethod yX2_layBelow, Cond.selects RX2 yX2_layBelow yX2_layBelow, Cond.code yX2_layBelow cX2_layBelow 4 none, Cond.methodLink RX2 57 yX2_rightBelow, Cond.instanceMethod yX2_rightBelow, Cond.selects RX2 yX2_rightBelow yX2_rightBelow, Cond.code yX2_rightBelow cX2_rightBelow 3 (some .int), Cond.methodLink RX4 87 yX2_renew, Cond.instanceMethod yX2_renew, Cond.selects RX2 yX2_renew yX2_renew, Cond.code yX2_renew cX2_renew 5 (some .int), Cond.methodLink RX2 61 yX2_putTogether, Cond.instanceMethod yX2_putTogether, Cond.selects RX2 yX2_putTogether yX2_putTogether, Cond.code yX2_putTogether cX2_putTogether 2 none, Cond.fieldLink RX2 12 "MajorityIndex$Tree" "joined" "LMajorityIndex$Votes;", Cond.fieldLink RX2 74 "MajorityIndex$Row" "cell" "[I", Cond.fieldLink RX2 85 "MajorityIndex$Tree" "slotsHere" "I", Cond.methodLink RX2 71 yX3_clear]
def wsX4_loss_r3 : List Cond := [Cond.instanceMethod yX3_clear, Cond.selects RX3 yX3_clear yX3_clear, Cond.initialized RX3, Cond.code yX3_clear cX3_clear 1 none, Cond.fieldLink RX3 18 "MajorityIndex$Votes" "size" "I", Cond.fieldLink RX3 22 "MajorityIndex$Votes" "lost" "I", Cond.fieldLink RX3 25 "MajorityIndex$Votes" "lessBy" "I", Cond.methodLink RX2 77 yX3_add, Cond.instanceMethod yX3_add, Cond.selects RX3 yX3_add yX3_add, Cond.code yX3_add cX3_add 4 none, Cond.fieldLink RX3 9 "MajorityIndex$Votes" "value" "[I", Cond.fieldLink RX3 15 "MajorityIndex$Votes" "number" "[I", Cond.methodLink RX2 81 yX2_joinNode, Cond.instanceMethod yX2_joinNode, Cond.selects RX2 yX2_joinNode yX2_joinNode, Cond.code yX2_joinNode cX2_joinNode 5 none, Cond.fieldLink RX2 25 "MajorityIndex$Tree" "size" "[I", Cond.fieldLink RX2 34 "MajorityIndex$Tree" "value" "[I", Cond.fieldLink RX2 37 "MajorityIndex$Tree" "number" "[I", Cond.fieldLink RX2 91 "MajorityIndex$Votes" "lost" "I", Cond.fieldLink RX2 28 "MajorityIndex$Tree" "lossOf" "[I", Cond.methodLink RX2 88 yX3_cancel, Cond.instanceMethod yX3_cancel]
def wsX4_loss_r4 : List Cond := [Cond.selects RX3 yX3_cancel yX3_cancel, Cond.code yX3_cancel cX3_cancel 4 none, Cond.methodLink RX3 32 yX3_order, Cond.instanceMethod yX3_order, Cond.selects RX3 yX3_order yX3_order, Cond.code yX3_order cX3_order 3 none, Cond.methodLink RX3 35 yX3_isAhead, Cond.instanceMethod yX3_isAhead, Cond.selects RX3 yX3_isAhead yX3_isAhead, Cond.code yX3_isAhead cX3_isAhead 3 (some .boolean), Cond.methodLink RX3 39 yX3_exchange, Cond.instanceMethod yX3_exchange, Cond.selects RX3 yX3_exchange yX3_exchange, Cond.code yX3_exchange cX3_exchange 5 none, Cond.methodLink RX2 64 yX2_isJoined, Cond.instanceMethod yX2_isJoined, Cond.selects RX2 yX2_isJoined yX2_isJoined, Cond.code yX2_isJoined cX2_isJoined 4 (some .boolean), Cond.fieldLink RX2 94 "MajorityIndex$Votes" "size" "I", Cond.fieldLink RX2 96 "MajorityIndex$Votes" "value" "[I", Cond.fieldLink RX2 97 "MajorityIndex$Votes" "number" "[I", Cond.methodLink RX2 68 yX2_keepJoined, Cond.instanceMethod yX2_keepJoined, Cond.selects RX2 yX2_keepJoined yX2_keepJoined]
def wsX4_loss_r5 : List Cond := [Cond.code yX2_keepJoined cX2_keepJoined 4 none, Cond.methodLink RX2 98 Lib.Math.min.name, Cond.static Lib.Math.min.name, Cond.initialized "java/lang/Math", Cond.code Lib.Math.min.name Lib.Math.min.code 2 (some .int), Cond.fieldLink RX2 31 "MajorityIndex$Tree" "lessBy" "[I", Cond.fieldLink RX2 104 "MajorityIndex$Votes" "lessBy" "I", Cond.methodLink RX4 123 yX2_find, Cond.instanceMethod yX2_find, Cond.selects RX2 yX2_find yX2_find, Cond.code yX2_find cX2_find 4 (some .int)]
def wsX4_loss : List Cond := .code yX4_loss cX4_loss 5 (some .int) :: ((wsX4_loss_r1 ++ (wsX4_loss_r2 ++ (wsX4_loss_r3 ++ (wsX4_loss_r4 ++ wsX4_loss_r5)))) ++ wsX40 ++ wsX20 ++ wsX00 ++ wsX30)
def wsX4_cancelled_r1 : List Cond := [Cond.fieldLink RX4 12 "MajorityIndex" "row" "LMajorityIndex$Row;", Cond.fieldLink RX4 142 "MajorityIndex$Tree" "lessBy" "[I", Cond.methodLink RX4 79 yX0_hasRange, Cond.instanceMethod yX0_hasRange, Cond.selects RX0 yX0_hasRange yX0_hasRange, Cond.initialized RX0, Cond.code yX0_hasRange cX0_hasRange 3 (some .boolean), Cond.fieldLink RX0 15 "MajorityIndex$Row" "length" "I", Cond.methodLink RX4 71 yX4_laidTree, Cond.instanceMethod yX4_laidTree, Cond.selects RX4 yX4_laidTree yX4_laidTree, Cond.initialized RX4, Cond.code yX4_laidTree cX4_laidTree 1 (some (.object "MajorityIndex$Tree")), Cond.fieldLink RX4 53 "MajorityIndex" "treeIsOld" "Z", Cond.fieldLink RX4 21 "MajorityIndex" "tree" "LMajorityIndex$Tree;", Cond.fieldLink RX4 49 "MajorityIndex" "slotsNow" "I", Cond.fieldLink RX4 204 "MajorityIndex$Tree" "slotsHere" "I", Cond.fieldLink RX4 57 "MajorityIndex$Row" "length" "I", Cond.methodLink RX4 259 yX2_layRanges, Cond.instanceMethod yX2_layRanges, Cond.selects RX2 yX2_layRanges yX2_layRanges, Cond.initialized RX2, Cond.code yX2_layRanges cX2_layRanges 2 none, Cond.fieldLink RX2 40 "MajorityIndex$Tree" "row" "LMajorityIndex$Row;"]
def wsX4_cancelled_r2 : List Cond := [Cond.fieldLink RX2 44 "MajorityIndex$Row" "length" "I", Cond.fieldLink RX2 50 "MajorityIndex$Tree" "nodes" "I", Cond.fieldLink RX2 18 "MajorityIndex$Tree" "from" "[I", Cond.fieldLink RX2 22 "MajorityIndex$Tree" "to" "[I", Cond.methodLink RX2 53 yX2_layBelow, Cond.instanceMethod yX2_layBelow, Cond.selects RX2 yX2_layBelow yX2_layBelow, Cond.code yX2_layBelow cX2_layBelow 4 none, Cond.methodLink RX2 57 yX2_rightBelow, Cond.instanceMethod yX2_rightBelow, Cond.selects RX2 yX2_rightBelow yX2_rightBelow, Cond.code yX2_rightBelow cX2_rightBelow 3 (some .int), Cond.methodLink RX4 87 yX2_renew, Cond.instanceMethod yX2_renew, Cond.selects RX2 yX2_renew yX2_renew, Cond.code yX2_renew cX2_renew 5 (some .int), Cond.methodLink RX2 61 yX2_putTogether, Cond.instanceMethod yX2_putTogether, Cond.selects RX2 yX2_putTogether yX2_putTogether, Cond.code yX2_putTogether cX2_putTogether 2 none, Cond.fieldLink RX2 12 "MajorityIndex$Tree" "joined" "LMajorityIndex$Votes;", Cond.fieldLink RX2 74 "MajorityIndex$Row" "cell" "[I", Cond.fieldLink RX2 85 "MajorityIndex$Tree" "slotsHere" "I", Cond.methodLink RX2 71 yX3_clear]
def wsX4_cancelled_r3 : List Cond := [Cond.instanceMethod yX3_clear, Cond.selects RX3 yX3_clear yX3_clear, Cond.initialized RX3, Cond.code yX3_clear cX3_clear 1 none, Cond.fieldLink RX3 18 "MajorityIndex$Votes" "size" "I", Cond.fieldLink RX3 22 "MajorityIndex$Votes" "lost" "I", Cond.fieldLink RX3 25 "MajorityIndex$Votes" "lessBy" "I", Cond.methodLink RX2 77 yX3_add, Cond.instanceMethod yX3_add, Cond.selects RX3 yX3_add yX3_add, Cond.code yX3_add cX3_add 4 none, Cond.fieldLink RX3 9 "MajorityIndex$Votes" "value" "[I", Cond.fieldLink RX3 15 "MajorityIndex$Votes" "number" "[I", Cond.methodLink RX2 81 yX2_joinNode, Cond.instanceMethod yX2_joinNode, Cond.selects RX2 yX2_joinNode yX2_joinNode, Cond.code yX2_joinNode cX2_joinNode 5 none, Cond.fieldLink RX2 25 "MajorityIndex$Tree" "size" "[I", Cond.fieldLink RX2 34 "MajorityIndex$Tree" "value" "[I", Cond.fieldLink RX2 37 "MajorityIndex$Tree" "number" "[I", Cond.fieldLink RX2 91 "MajorityIndex$Votes" "lost" "I", Cond.fieldLink RX2 28 "MajorityIndex$Tree" "lossOf" "[I", Cond.methodLink RX2 88 yX3_cancel, Cond.instanceMethod yX3_cancel]
def wsX4_cancelled_r4 : List Cond := [Cond.selects RX3 yX3_cancel yX3_cancel, Cond.code yX3_cancel cX3_cancel 4 none, Cond.methodLink RX3 32 yX3_order, Cond.instanceMethod yX3_order, Cond.selects RX3 yX3_order yX3_order, Cond.code yX3_order cX3_order 3 none, Cond.methodLink RX3 35 yX3_isAhead, Cond.instanceMethod yX3_isAhead, Cond.selects RX3 yX3_isAhead yX3_isAhead, Cond.code yX3_isAhead cX3_isAhead 3 (some .boolean), Cond.methodLink RX3 39 yX3_exchange, Cond.instanceMethod yX3_exchange, Cond.selects RX3 yX3_exchange yX3_exchange, Cond.code yX3_exchange cX3_exchange 5 none, Cond.methodLink RX2 64 yX2_isJoined, Cond.instanceMethod yX2_isJoined, Cond.selects RX2 yX2_isJoined yX2_isJoined, Cond.code yX2_isJoined cX2_isJoined 4 (some .boolean), Cond.fieldLink RX2 94 "MajorityIndex$Votes" "size" "I", Cond.fieldLink RX2 96 "MajorityIndex$Votes" "value" "[I", Cond.fieldLink RX2 97 "MajorityIndex$Votes" "number" "[I", Cond.methodLink RX2 68 yX2_keepJoined, Cond.instanceMethod yX2_keepJoined, Cond.selects RX2 yX2_keepJoined yX2_keepJoined]
def wsX4_cancelled_r5 : List Cond := [Cond.code yX2_keepJoined cX2_keepJoined 4 none, Cond.methodLink RX2 98 Lib.Math.min.name, Cond.static Lib.Math.min.name, Cond.initialized "java/lang/Math", Cond.code Lib.Math.min.name Lib.Math.min.code 2 (some .int), Cond.fieldLink RX2 31 "MajorityIndex$Tree" "lessBy" "[I", Cond.fieldLink RX2 104 "MajorityIndex$Votes" "lessBy" "I", Cond.methodLink RX4 123 yX2_find, Cond.instanceMethod yX2_find, Cond.selects RX2 yX2_find yX2_find, Cond.code yX2_find cX2_find 4 (some .int)]
def wsX4_cancelled : List Cond := .code yX4_cancelled cX4_cancelled 5 (some .int) :: ((wsX4_cancelled_r1 ++ (wsX4_cancelled_r2 ++ (wsX4_cancelled_r3 ++ (wsX4_cancelled_r4 ++ wsX4_cancelled_r5)))) ++ wsX40 ++ wsX20 ++ wsX00 ++ wsX30)
def wsX4_above_r1 : List Cond := [Cond.fieldLink RX4 12 "MajorityIndex" "row" "LMajorityIndex$Row;", Cond.fieldLink RX4 151 "MajorityIndex$Tree" "from" "[I", Cond.fieldLink RX4 154 "MajorityIndex$Tree" "to" "[I", Cond.fieldLink RX4 110 "MajorityIndex$Row" "cell" "[I", Cond.methodLink RX4 64 yX0_hasPlace, Cond.instanceMethod yX0_hasPlace, Cond.selects RX0 yX0_hasPlace yX0_hasPlace, Cond.initialized RX0, Cond.code yX0_hasPlace cX0_hasPlace 2 (some .boolean), Cond.fieldLink RX0 15 "MajorityIndex$Row" "length" "I", Cond.methodLink RX4 71 yX4_laidTree, Cond.instanceMethod yX4_laidTree, Cond.selects RX4 yX4_laidTree yX4_laidTree, Cond.initialized RX4, Cond.code yX4_laidTree cX4_laidTree 1 (some (.object "MajorityIndex$Tree")), Cond.fieldLink RX4 53 "MajorityIndex" "treeIsOld" "Z", Cond.fieldLink RX4 21 "MajorityIndex" "tree" "LMajorityIndex$Tree;", Cond.fieldLink RX4 49 "MajorityIndex" "slotsNow" "I", Cond.fieldLink RX4 204 "MajorityIndex$Tree" "slotsHere" "I", Cond.fieldLink RX4 57 "MajorityIndex$Row" "length" "I", Cond.methodLink RX4 259 yX2_layRanges, Cond.instanceMethod yX2_layRanges, Cond.selects RX2 yX2_layRanges yX2_layRanges, Cond.initialized RX2]
def wsX4_above_r2 : List Cond := [Cond.code yX2_layRanges cX2_layRanges 2 none, Cond.fieldLink RX2 40 "MajorityIndex$Tree" "row" "LMajorityIndex$Row;", Cond.fieldLink RX2 44 "MajorityIndex$Row" "length" "I", Cond.fieldLink RX2 50 "MajorityIndex$Tree" "nodes" "I", Cond.fieldLink RX2 18 "MajorityIndex$Tree" "from" "[I", Cond.fieldLink RX2 22 "MajorityIndex$Tree" "to" "[I", Cond.methodLink RX2 53 yX2_layBelow, Cond.instanceMethod yX2_layBelow, Cond.selects RX2 yX2_layBelow yX2_layBelow, Cond.code yX2_layBelow cX2_layBelow 4 none, Cond.methodLink RX2 57 yX2_rightBelow, Cond.instanceMethod yX2_rightBelow, Cond.selects RX2 yX2_rightBelow yX2_rightBelow, Cond.code yX2_rightBelow cX2_rightBelow 3 (some .int), Cond.methodLink RX4 87 yX2_renew, Cond.instanceMethod yX2_renew, Cond.selects RX2 yX2_renew yX2_renew, Cond.code yX2_renew cX2_renew 5 (some .int), Cond.methodLink RX2 61 yX2_putTogether, Cond.instanceMethod yX2_putTogether, Cond.selects RX2 yX2_putTogether yX2_putTogether, Cond.code yX2_putTogether cX2_putTogether 2 none, Cond.fieldLink RX2 12 "MajorityIndex$Tree" "joined" "LMajorityIndex$Votes;", Cond.fieldLink RX2 74 "MajorityIndex$Row" "cell" "[I"]
def wsX4_above_r3 : List Cond := [Cond.fieldLink RX2 85 "MajorityIndex$Tree" "slotsHere" "I", Cond.methodLink RX2 71 yX3_clear, Cond.instanceMethod yX3_clear, Cond.selects RX3 yX3_clear yX3_clear, Cond.initialized RX3, Cond.code yX3_clear cX3_clear 1 none, Cond.fieldLink RX3 18 "MajorityIndex$Votes" "size" "I", Cond.fieldLink RX3 22 "MajorityIndex$Votes" "lost" "I", Cond.fieldLink RX3 25 "MajorityIndex$Votes" "lessBy" "I", Cond.methodLink RX2 77 yX3_add, Cond.instanceMethod yX3_add, Cond.selects RX3 yX3_add yX3_add, Cond.code yX3_add cX3_add 4 none, Cond.fieldLink RX3 9 "MajorityIndex$Votes" "value" "[I", Cond.fieldLink RX3 15 "MajorityIndex$Votes" "number" "[I", Cond.methodLink RX2 81 yX2_joinNode, Cond.instanceMethod yX2_joinNode, Cond.selects RX2 yX2_joinNode yX2_joinNode, Cond.code yX2_joinNode cX2_joinNode 5 none, Cond.fieldLink RX2 25 "MajorityIndex$Tree" "size" "[I", Cond.fieldLink RX2 34 "MajorityIndex$Tree" "value" "[I", Cond.fieldLink RX2 37 "MajorityIndex$Tree" "number" "[I", Cond.fieldLink RX2 91 "MajorityIndex$Votes" "lost" "I", Cond.fieldLink RX2 28 "MajorityIndex$Tree" "lossOf" "[I"]
def wsX4_above_r4 : List Cond := [Cond.methodLink RX2 88 yX3_cancel, Cond.instanceMethod yX3_cancel, Cond.selects RX3 yX3_cancel yX3_cancel, Cond.code yX3_cancel cX3_cancel 4 none, Cond.methodLink RX3 32 yX3_order, Cond.instanceMethod yX3_order, Cond.selects RX3 yX3_order yX3_order, Cond.code yX3_order cX3_order 3 none, Cond.methodLink RX3 35 yX3_isAhead, Cond.instanceMethod yX3_isAhead, Cond.selects RX3 yX3_isAhead yX3_isAhead, Cond.code yX3_isAhead cX3_isAhead 3 (some .boolean), Cond.methodLink RX3 39 yX3_exchange, Cond.instanceMethod yX3_exchange, Cond.selects RX3 yX3_exchange yX3_exchange, Cond.code yX3_exchange cX3_exchange 5 none, Cond.methodLink RX2 64 yX2_isJoined, Cond.instanceMethod yX2_isJoined, Cond.selects RX2 yX2_isJoined yX2_isJoined, Cond.code yX2_isJoined cX2_isJoined 4 (some .boolean), Cond.fieldLink RX2 94 "MajorityIndex$Votes" "size" "I", Cond.fieldLink RX2 96 "MajorityIndex$Votes" "value" "[I", Cond.fieldLink RX2 97 "MajorityIndex$Votes" "number" "[I", Cond.methodLink RX2 68 yX2_keepJoined]
def wsX4_above_r5 : List Cond := [Cond.instanceMethod yX2_keepJoined, Cond.selects RX2 yX2_keepJoined yX2_keepJoined, Cond.code yX2_keepJoined cX2_keepJoined 4 none, Cond.methodLink RX2 98 Lib.Math.min.name, Cond.static Lib.Math.min.name, Cond.initialized "java/lang/Math", Cond.code Lib.Math.min.name Lib.Math.min.code 2 (some .int), Cond.fieldLink RX2 31 "MajorityIndex$Tree" "lessBy" "[I", Cond.fieldLink RX2 104 "MajorityIndex$Votes" "lessBy" "I", Cond.methodLink RX4 145 yX2_depthAt, Cond.instanceMethod yX2_depthAt, Cond.selects RX2 yX2_depthAt yX2_depthAt, Cond.code yX2_depthAt cX2_depthAt 4 (some .int), Cond.methodLink RX2 110 yX2_hasPlace, Cond.instanceMethod yX2_hasPlace, Cond.selects RX2 yX2_hasPlace yX2_hasPlace, Cond.code yX2_hasPlace cX2_hasPlace 3 (some .boolean), Cond.methodLink RX4 148 yX2_onPath, Cond.instanceMethod yX2_onPath, Cond.selects RX2 yX2_onPath yX2_onPath, Cond.code yX2_onPath cX2_onPath 5 (some .int), Cond.methodLink RX4 157 yX2_numberIn, Cond.instanceMethod yX2_numberIn, Cond.selects RX2 yX2_numberIn yX2_numberIn]
def wsX4_above_r6 : List Cond := [Cond.code yX2_numberIn cX2_numberIn 5 (some .int)]
def wsX4_above : List Cond := .code yX4_above cX4_above 6 (some .int) :: ((wsX4_above_r1 ++ (wsX4_above_r2 ++ (wsX4_above_r3 ++ (wsX4_above_r4 ++ (wsX4_above_r5 ++ wsX4_above_r6))))) ++ wsX40 ++ wsX20 ++ wsX00 ++ wsX30)
def wsX4_holds_r1 : List Cond := [Cond.fieldLink RX4 12 "MajorityIndex" "row" "LMajorityIndex$Row;", Cond.methodLink RX4 64 yX0_hasPlace, Cond.instanceMethod yX0_hasPlace, Cond.selects RX0 yX0_hasPlace yX0_hasPlace, Cond.initialized RX0, Cond.code yX0_hasPlace cX0_hasPlace 2 (some .boolean), Cond.fieldLink RX0 15 "MajorityIndex$Row" "length" "I", Cond.methodLink RX4 71 yX4_laidTree, Cond.instanceMethod yX4_laidTree, Cond.selects RX4 yX4_laidTree yX4_laidTree, Cond.initialized RX4, Cond.code yX4_laidTree cX4_laidTree 1 (some (.object "MajorityIndex$Tree")), Cond.fieldLink RX4 53 "MajorityIndex" "treeIsOld" "Z", Cond.fieldLink RX4 21 "MajorityIndex" "tree" "LMajorityIndex$Tree;", Cond.fieldLink RX4 49 "MajorityIndex" "slotsNow" "I", Cond.fieldLink RX4 204 "MajorityIndex$Tree" "slotsHere" "I", Cond.fieldLink RX4 57 "MajorityIndex$Row" "length" "I", Cond.methodLink RX4 259 yX2_layRanges, Cond.instanceMethod yX2_layRanges, Cond.selects RX2 yX2_layRanges yX2_layRanges, Cond.initialized RX2, Cond.code yX2_layRanges cX2_layRanges 2 none, Cond.fieldLink RX2 40 "MajorityIndex$Tree" "row" "LMajorityIndex$Row;", Cond.fieldLink RX2 44 "MajorityIndex$Row" "length" "I"]
def wsX4_holds_r2 : List Cond := [Cond.fieldLink RX2 50 "MajorityIndex$Tree" "nodes" "I", Cond.fieldLink RX2 18 "MajorityIndex$Tree" "from" "[I", Cond.fieldLink RX2 22 "MajorityIndex$Tree" "to" "[I", Cond.methodLink RX2 53 yX2_layBelow, Cond.instanceMethod yX2_layBelow, Cond.selects RX2 yX2_layBelow yX2_layBelow, Cond.code yX2_layBelow cX2_layBelow 4 none, Cond.methodLink RX2 57 yX2_rightBelow, Cond.instanceMethod yX2_rightBelow, Cond.selects RX2 yX2_rightBelow yX2_rightBelow, Cond.code yX2_rightBelow cX2_rightBelow 3 (some .int), Cond.methodLink RX4 87 yX2_renew, Cond.instanceMethod yX2_renew, Cond.selects RX2 yX2_renew yX2_renew, Cond.code yX2_renew cX2_renew 5 (some .int), Cond.methodLink RX2 61 yX2_putTogether, Cond.instanceMethod yX2_putTogether, Cond.selects RX2 yX2_putTogether yX2_putTogether, Cond.code yX2_putTogether cX2_putTogether 2 none, Cond.fieldLink RX2 12 "MajorityIndex$Tree" "joined" "LMajorityIndex$Votes;", Cond.fieldLink RX2 74 "MajorityIndex$Row" "cell" "[I", Cond.fieldLink RX2 85 "MajorityIndex$Tree" "slotsHere" "I", Cond.methodLink RX2 71 yX3_clear, Cond.instanceMethod yX3_clear]
def wsX4_holds_r3 : List Cond := [Cond.selects RX3 yX3_clear yX3_clear, Cond.initialized RX3, Cond.code yX3_clear cX3_clear 1 none, Cond.fieldLink RX3 18 "MajorityIndex$Votes" "size" "I", Cond.fieldLink RX3 22 "MajorityIndex$Votes" "lost" "I", Cond.fieldLink RX3 25 "MajorityIndex$Votes" "lessBy" "I", Cond.methodLink RX2 77 yX3_add, Cond.instanceMethod yX3_add, Cond.selects RX3 yX3_add yX3_add, Cond.code yX3_add cX3_add 4 none, Cond.fieldLink RX3 9 "MajorityIndex$Votes" "value" "[I", Cond.fieldLink RX3 15 "MajorityIndex$Votes" "number" "[I", Cond.methodLink RX2 81 yX2_joinNode, Cond.instanceMethod yX2_joinNode, Cond.selects RX2 yX2_joinNode yX2_joinNode, Cond.code yX2_joinNode cX2_joinNode 5 none, Cond.fieldLink RX2 25 "MajorityIndex$Tree" "size" "[I", Cond.fieldLink RX2 34 "MajorityIndex$Tree" "value" "[I", Cond.fieldLink RX2 37 "MajorityIndex$Tree" "number" "[I", Cond.fieldLink RX2 91 "MajorityIndex$Votes" "lost" "I", Cond.fieldLink RX2 28 "MajorityIndex$Tree" "lossOf" "[I", Cond.methodLink RX2 88 yX3_cancel, Cond.instanceMethod yX3_cancel, Cond.selects RX3 yX3_cancel yX3_cancel]
def wsX4_holds_r4 : List Cond := [Cond.code yX3_cancel cX3_cancel 4 none, Cond.methodLink RX3 32 yX3_order, Cond.instanceMethod yX3_order, Cond.selects RX3 yX3_order yX3_order, Cond.code yX3_order cX3_order 3 none, Cond.methodLink RX3 35 yX3_isAhead, Cond.instanceMethod yX3_isAhead, Cond.selects RX3 yX3_isAhead yX3_isAhead, Cond.code yX3_isAhead cX3_isAhead 3 (some .boolean), Cond.methodLink RX3 39 yX3_exchange, Cond.instanceMethod yX3_exchange, Cond.selects RX3 yX3_exchange yX3_exchange, Cond.code yX3_exchange cX3_exchange 5 none, Cond.methodLink RX2 64 yX2_isJoined, Cond.instanceMethod yX2_isJoined, Cond.selects RX2 yX2_isJoined yX2_isJoined, Cond.code yX2_isJoined cX2_isJoined 4 (some .boolean), Cond.fieldLink RX2 94 "MajorityIndex$Votes" "size" "I", Cond.fieldLink RX2 96 "MajorityIndex$Votes" "value" "[I", Cond.fieldLink RX2 97 "MajorityIndex$Votes" "number" "[I", Cond.methodLink RX2 68 yX2_keepJoined, Cond.instanceMethod yX2_keepJoined, Cond.selects RX2 yX2_keepJoined yX2_keepJoined, Cond.code yX2_keepJoined cX2_keepJoined 4 none]
def wsX4_holds_r5 : List Cond := [Cond.methodLink RX2 98 Lib.Math.min.name, Cond.static Lib.Math.min.name, Cond.initialized "java/lang/Math", Cond.code Lib.Math.min.name Lib.Math.min.code 2 (some .int), Cond.fieldLink RX2 31 "MajorityIndex$Tree" "lessBy" "[I", Cond.fieldLink RX2 104 "MajorityIndex$Votes" "lessBy" "I", Cond.methodLink RX4 160 yX2_holding, Cond.instanceMethod yX2_holding, Cond.selects RX2 yX2_holding yX2_holding, Cond.code yX2_holding cX2_holding 4 (some .int), Cond.methodLink RX2 110 yX2_hasPlace, Cond.instanceMethod yX2_hasPlace, Cond.selects RX2 yX2_hasPlace yX2_hasPlace, Cond.code yX2_hasPlace cX2_hasPlace 3 (some .boolean), Cond.methodLink RX2 114 yX2_numberIn, Cond.instanceMethod yX2_numberIn, Cond.selects RX2 yX2_numberIn yX2_numberIn, Cond.code yX2_numberIn cX2_numberIn 5 (some .int)]
def wsX4_holds : List Cond := .code yX4_holds cX4_holds 2 (some .int) :: ((wsX4_holds_r1 ++ (wsX4_holds_r2 ++ (wsX4_holds_r3 ++ (wsX4_holds_r4 ++ wsX4_holds_r5)))) ++ wsX40 ++ wsX00 ++ wsX20 ++ wsX30)
def wsX4_parts_r1 : List Cond := [Cond.fieldLink RX4 12 "MajorityIndex" "row" "LMajorityIndex$Row;", Cond.fieldLink RX4 163 "MajorityIndex$Tree" "nodes" "I", Cond.fieldLink RX4 154 "MajorityIndex$Tree" "to" "[I", Cond.methodLink RX4 79 yX0_hasRange, Cond.instanceMethod yX0_hasRange, Cond.selects RX0 yX0_hasRange yX0_hasRange, Cond.initialized RX0, Cond.code yX0_hasRange cX0_hasRange 3 (some .boolean), Cond.fieldLink RX0 15 "MajorityIndex$Row" "length" "I", Cond.methodLink RX4 71 yX4_laidTree, Cond.instanceMethod yX4_laidTree, Cond.selects RX4 yX4_laidTree yX4_laidTree, Cond.initialized RX4, Cond.code yX4_laidTree cX4_laidTree 1 (some (.object "MajorityIndex$Tree")), Cond.fieldLink RX4 53 "MajorityIndex" "treeIsOld" "Z", Cond.fieldLink RX4 21 "MajorityIndex" "tree" "LMajorityIndex$Tree;", Cond.fieldLink RX4 49 "MajorityIndex" "slotsNow" "I", Cond.fieldLink RX4 204 "MajorityIndex$Tree" "slotsHere" "I", Cond.fieldLink RX4 57 "MajorityIndex$Row" "length" "I", Cond.methodLink RX4 259 yX2_layRanges, Cond.instanceMethod yX2_layRanges, Cond.selects RX2 yX2_layRanges yX2_layRanges, Cond.initialized RX2, Cond.code yX2_layRanges cX2_layRanges 2 none]
def wsX4_parts_r2 : List Cond := [Cond.fieldLink RX2 40 "MajorityIndex$Tree" "row" "LMajorityIndex$Row;", Cond.fieldLink RX2 44 "MajorityIndex$Row" "length" "I", Cond.fieldLink RX2 50 "MajorityIndex$Tree" "nodes" "I", Cond.fieldLink RX2 18 "MajorityIndex$Tree" "from" "[I", Cond.fieldLink RX2 22 "MajorityIndex$Tree" "to" "[I", Cond.methodLink RX2 53 yX2_layBelow, Cond.instanceMethod yX2_layBelow, Cond.selects RX2 yX2_layBelow yX2_layBelow, Cond.code yX2_layBelow cX2_layBelow 4 none, Cond.methodLink RX2 57 yX2_rightBelow, Cond.instanceMethod yX2_rightBelow, Cond.selects RX2 yX2_rightBelow yX2_rightBelow, Cond.code yX2_rightBelow cX2_rightBelow 3 (some .int), Cond.methodLink RX4 87 yX2_renew, Cond.instanceMethod yX2_renew, Cond.selects RX2 yX2_renew yX2_renew, Cond.code yX2_renew cX2_renew 5 (some .int), Cond.methodLink RX2 61 yX2_putTogether, Cond.instanceMethod yX2_putTogether, Cond.selects RX2 yX2_putTogether yX2_putTogether, Cond.code yX2_putTogether cX2_putTogether 2 none, Cond.fieldLink RX2 12 "MajorityIndex$Tree" "joined" "LMajorityIndex$Votes;", Cond.fieldLink RX2 74 "MajorityIndex$Row" "cell" "[I", Cond.fieldLink RX2 85 "MajorityIndex$Tree" "slotsHere" "I"]
def wsX4_parts_r3 : List Cond := [Cond.methodLink RX2 71 yX3_clear, Cond.instanceMethod yX3_clear, Cond.selects RX3 yX3_clear yX3_clear, Cond.initialized RX3, Cond.code yX3_clear cX3_clear 1 none, Cond.fieldLink RX3 18 "MajorityIndex$Votes" "size" "I", Cond.fieldLink RX3 22 "MajorityIndex$Votes" "lost" "I", Cond.fieldLink RX3 25 "MajorityIndex$Votes" "lessBy" "I", Cond.methodLink RX2 77 yX3_add, Cond.instanceMethod yX3_add, Cond.selects RX3 yX3_add yX3_add, Cond.code yX3_add cX3_add 4 none, Cond.fieldLink RX3 9 "MajorityIndex$Votes" "value" "[I", Cond.fieldLink RX3 15 "MajorityIndex$Votes" "number" "[I", Cond.methodLink RX2 81 yX2_joinNode, Cond.instanceMethod yX2_joinNode, Cond.selects RX2 yX2_joinNode yX2_joinNode, Cond.code yX2_joinNode cX2_joinNode 5 none, Cond.fieldLink RX2 25 "MajorityIndex$Tree" "size" "[I", Cond.fieldLink RX2 34 "MajorityIndex$Tree" "value" "[I", Cond.fieldLink RX2 37 "MajorityIndex$Tree" "number" "[I", Cond.fieldLink RX2 91 "MajorityIndex$Votes" "lost" "I", Cond.fieldLink RX2 28 "MajorityIndex$Tree" "lossOf" "[I", Cond.methodLink RX2 88 yX3_cancel]
def wsX4_parts_r4 : List Cond := [Cond.instanceMethod yX3_cancel, Cond.selects RX3 yX3_cancel yX3_cancel, Cond.code yX3_cancel cX3_cancel 4 none, Cond.methodLink RX3 32 yX3_order, Cond.instanceMethod yX3_order, Cond.selects RX3 yX3_order yX3_order, Cond.code yX3_order cX3_order 3 none, Cond.methodLink RX3 35 yX3_isAhead, Cond.instanceMethod yX3_isAhead, Cond.selects RX3 yX3_isAhead yX3_isAhead, Cond.code yX3_isAhead cX3_isAhead 3 (some .boolean), Cond.methodLink RX3 39 yX3_exchange, Cond.instanceMethod yX3_exchange, Cond.selects RX3 yX3_exchange yX3_exchange, Cond.code yX3_exchange cX3_exchange 5 none, Cond.methodLink RX2 64 yX2_isJoined, Cond.instanceMethod yX2_isJoined, Cond.selects RX2 yX2_isJoined yX2_isJoined, Cond.code yX2_isJoined cX2_isJoined 4 (some .boolean), Cond.fieldLink RX2 94 "MajorityIndex$Votes" "size" "I", Cond.fieldLink RX2 96 "MajorityIndex$Votes" "value" "[I", Cond.fieldLink RX2 97 "MajorityIndex$Votes" "number" "[I", Cond.methodLink RX2 68 yX2_keepJoined, Cond.instanceMethod yX2_keepJoined]
def wsX4_parts_r5 : List Cond := [Cond.selects RX2 yX2_keepJoined yX2_keepJoined, Cond.code yX2_keepJoined cX2_keepJoined 4 none, Cond.methodLink RX2 98 Lib.Math.min.name, Cond.static Lib.Math.min.name, Cond.initialized "java/lang/Math", Cond.code Lib.Math.min.name Lib.Math.min.code 2 (some .int), Cond.fieldLink RX2 31 "MajorityIndex$Tree" "lessBy" "[I", Cond.fieldLink RX2 104 "MajorityIndex$Votes" "lessBy" "I", Cond.methodLink RX4 166 yX2_isPart, Cond.instanceMethod yX2_isPart, Cond.selects RX2 yX2_isPart yX2_isPart, Cond.code yX2_isPart cX2_isPart 4 (some .boolean)]
def wsX4_parts : List Cond := .code yX4_parts cX4_parts 7 (some .int) :: ((wsX4_parts_r1 ++ (wsX4_parts_r2 ++ (wsX4_parts_r3 ++ (wsX4_parts_r4 ++ wsX4_parts_r5)))) ++ wsX40 ++ wsX20 ++ wsX00 ++ wsX30)
def wsX4_part_r1 : List Cond := [Cond.fieldLink RX4 12 "MajorityIndex" "row" "LMajorityIndex$Row;", Cond.fieldLink RX4 163 "MajorityIndex$Tree" "nodes" "I", Cond.fieldLink RX4 151 "MajorityIndex$Tree" "from" "[I", Cond.fieldLink RX4 154 "MajorityIndex$Tree" "to" "[I", Cond.methodLink RX4 79 yX0_hasRange, Cond.instanceMethod yX0_hasRange, Cond.selects RX0 yX0_hasRange yX0_hasRange, Cond.initialized RX0, Cond.code yX0_hasRange cX0_hasRange 3 (some .boolean), Cond.fieldLink RX0 15 "MajorityIndex$Row" "length" "I", Cond.methodLink RX4 71 yX4_laidTree, Cond.instanceMethod yX4_laidTree, Cond.selects RX4 yX4_laidTree yX4_laidTree, Cond.initialized RX4, Cond.code yX4_laidTree cX4_laidTree 1 (some (.object "MajorityIndex$Tree")), Cond.fieldLink RX4 53 "MajorityIndex" "treeIsOld" "Z", Cond.fieldLink RX4 21 "MajorityIndex" "tree" "LMajorityIndex$Tree;", Cond.fieldLink RX4 49 "MajorityIndex" "slotsNow" "I", Cond.fieldLink RX4 204 "MajorityIndex$Tree" "slotsHere" "I", Cond.fieldLink RX4 57 "MajorityIndex$Row" "length" "I", Cond.methodLink RX4 259 yX2_layRanges, Cond.instanceMethod yX2_layRanges, Cond.selects RX2 yX2_layRanges yX2_layRanges, Cond.initialized RX2]
def wsX4_part_r2 : List Cond := [Cond.code yX2_layRanges cX2_layRanges 2 none, Cond.fieldLink RX2 40 "MajorityIndex$Tree" "row" "LMajorityIndex$Row;", Cond.fieldLink RX2 44 "MajorityIndex$Row" "length" "I", Cond.fieldLink RX2 50 "MajorityIndex$Tree" "nodes" "I", Cond.fieldLink RX2 18 "MajorityIndex$Tree" "from" "[I", Cond.fieldLink RX2 22 "MajorityIndex$Tree" "to" "[I", Cond.methodLink RX2 53 yX2_layBelow, Cond.instanceMethod yX2_layBelow, Cond.selects RX2 yX2_layBelow yX2_layBelow, Cond.code yX2_layBelow cX2_layBelow 4 none, Cond.methodLink RX2 57 yX2_rightBelow, Cond.instanceMethod yX2_rightBelow, Cond.selects RX2 yX2_rightBelow yX2_rightBelow, Cond.code yX2_rightBelow cX2_rightBelow 3 (some .int), Cond.methodLink RX4 87 yX2_renew, Cond.instanceMethod yX2_renew, Cond.selects RX2 yX2_renew yX2_renew, Cond.code yX2_renew cX2_renew 5 (some .int), Cond.methodLink RX2 61 yX2_putTogether, Cond.instanceMethod yX2_putTogether, Cond.selects RX2 yX2_putTogether yX2_putTogether, Cond.code yX2_putTogether cX2_putTogether 2 none, Cond.fieldLink RX2 12 "MajorityIndex$Tree" "joined" "LMajorityIndex$Votes;", Cond.fieldLink RX2 74 "MajorityIndex$Row" "cell" "[I"]
def wsX4_part_r3 : List Cond := [Cond.fieldLink RX2 85 "MajorityIndex$Tree" "slotsHere" "I", Cond.methodLink RX2 71 yX3_clear, Cond.instanceMethod yX3_clear, Cond.selects RX3 yX3_clear yX3_clear, Cond.initialized RX3, Cond.code yX3_clear cX3_clear 1 none, Cond.fieldLink RX3 18 "MajorityIndex$Votes" "size" "I", Cond.fieldLink RX3 22 "MajorityIndex$Votes" "lost" "I", Cond.fieldLink RX3 25 "MajorityIndex$Votes" "lessBy" "I", Cond.methodLink RX2 77 yX3_add, Cond.instanceMethod yX3_add, Cond.selects RX3 yX3_add yX3_add, Cond.code yX3_add cX3_add 4 none, Cond.fieldLink RX3 9 "MajorityIndex$Votes" "value" "[I", Cond.fieldLink RX3 15 "MajorityIndex$Votes" "number" "[I", Cond.methodLink RX2 81 yX2_joinNode, Cond.instanceMethod yX2_joinNode, Cond.selects RX2 yX2_joinNode yX2_joinNode, Cond.code yX2_joinNode cX2_joinNode 5 none, Cond.fieldLink RX2 25 "MajorityIndex$Tree" "size" "[I", Cond.fieldLink RX2 34 "MajorityIndex$Tree" "value" "[I", Cond.fieldLink RX2 37 "MajorityIndex$Tree" "number" "[I", Cond.fieldLink RX2 91 "MajorityIndex$Votes" "lost" "I", Cond.fieldLink RX2 28 "MajorityIndex$Tree" "lossOf" "[I"]
def wsX4_part_r4 : List Cond := [Cond.methodLink RX2 88 yX3_cancel, Cond.instanceMethod yX3_cancel, Cond.selects RX3 yX3_cancel yX3_cancel, Cond.code yX3_cancel cX3_cancel 4 none, Cond.methodLink RX3 32 yX3_order, Cond.instanceMethod yX3_order, Cond.selects RX3 yX3_order yX3_order, Cond.code yX3_order cX3_order 3 none, Cond.methodLink RX3 35 yX3_isAhead, Cond.instanceMethod yX3_isAhead, Cond.selects RX3 yX3_isAhead yX3_isAhead, Cond.code yX3_isAhead cX3_isAhead 3 (some .boolean), Cond.methodLink RX3 39 yX3_exchange, Cond.instanceMethod yX3_exchange, Cond.selects RX3 yX3_exchange yX3_exchange, Cond.code yX3_exchange cX3_exchange 5 none, Cond.methodLink RX2 64 yX2_isJoined, Cond.instanceMethod yX2_isJoined, Cond.selects RX2 yX2_isJoined yX2_isJoined, Cond.code yX2_isJoined cX2_isJoined 4 (some .boolean), Cond.fieldLink RX2 94 "MajorityIndex$Votes" "size" "I", Cond.fieldLink RX2 96 "MajorityIndex$Votes" "value" "[I", Cond.fieldLink RX2 97 "MajorityIndex$Votes" "number" "[I", Cond.methodLink RX2 68 yX2_keepJoined]
def wsX4_part_r5 : List Cond := [Cond.instanceMethod yX2_keepJoined, Cond.selects RX2 yX2_keepJoined yX2_keepJoined, Cond.code yX2_keepJoined cX2_keepJoined 4 none, Cond.methodLink RX2 98 Lib.Math.min.name, Cond.static Lib.Math.min.name, Cond.initialized "java/lang/Math", Cond.code Lib.Math.min.name Lib.Math.min.code 2 (some .int), Cond.fieldLink RX2 31 "MajorityIndex$Tree" "lessBy" "[I", Cond.fieldLink RX2 104 "MajorityIndex$Votes" "lessBy" "I", Cond.methodLink RX4 166 yX2_isPart, Cond.instanceMethod yX2_isPart, Cond.selects RX2 yX2_isPart yX2_isPart, Cond.code yX2_isPart cX2_isPart 4 (some .boolean)]
def wsX4_part : List Cond := .code yX4_part cX4_part 9 (some .int) :: ((wsX4_part_r1 ++ (wsX4_part_r2 ++ (wsX4_part_r3 ++ (wsX4_part_r4 ++ wsX4_part_r5)))) ++ wsX40 ++ wsX20 ++ wsX00 ++ wsX30)
def wsX4_summary_r1 : List Cond := [Cond.fieldLink RX4 12 "MajorityIndex" "row" "LMajorityIndex$Row;", Cond.fieldLink RX4 35 "MajorityIndex" "votes" "LMajorityIndex$Votes;", Cond.fieldLink RX4 174 "MajorityIndex$Votes" "size" "I", Cond.fieldLink RX4 180 "MajorityIndex$Votes" "lost" "I", Cond.methodLink RX4 79 yX0_hasRange, Cond.instanceMethod yX0_hasRange, Cond.selects RX0 yX0_hasRange yX0_hasRange, Cond.initialized RX0, Cond.code yX0_hasRange cX0_hasRange 3 (some .boolean), Cond.fieldLink RX0 15 "MajorityIndex$Row" "length" "I", Cond.methodLink RX4 71 yX4_laidTree, Cond.instanceMethod yX4_laidTree, Cond.selects RX4 yX4_laidTree yX4_laidTree, Cond.initialized RX4, Cond.code yX4_laidTree cX4_laidTree 1 (some (.object "MajorityIndex$Tree")), Cond.fieldLink RX4 53 "MajorityIndex" "treeIsOld" "Z", Cond.fieldLink RX4 21 "MajorityIndex" "tree" "LMajorityIndex$Tree;", Cond.fieldLink RX4 49 "MajorityIndex" "slotsNow" "I", Cond.fieldLink RX4 204 "MajorityIndex$Tree" "slotsHere" "I", Cond.fieldLink RX4 57 "MajorityIndex$Row" "length" "I", Cond.methodLink RX4 259 yX2_layRanges, Cond.instanceMethod yX2_layRanges, Cond.selects RX2 yX2_layRanges yX2_layRanges, Cond.initialized RX2]
def wsX4_summary_r2 : List Cond := [Cond.code yX2_layRanges cX2_layRanges 2 none, Cond.fieldLink RX2 40 "MajorityIndex$Tree" "row" "LMajorityIndex$Row;", Cond.fieldLink RX2 44 "MajorityIndex$Row" "length" "I", Cond.fieldLink RX2 50 "MajorityIndex$Tree" "nodes" "I", Cond.fieldLink RX2 18 "MajorityIndex$Tree" "from" "[I", Cond.fieldLink RX2 22 "MajorityIndex$Tree" "to" "[I", Cond.methodLink RX2 53 yX2_layBelow, Cond.instanceMethod yX2_layBelow, Cond.selects RX2 yX2_layBelow yX2_layBelow, Cond.code yX2_layBelow cX2_layBelow 4 none, Cond.methodLink RX2 57 yX2_rightBelow, Cond.instanceMethod yX2_rightBelow, Cond.selects RX2 yX2_rightBelow yX2_rightBelow, Cond.code yX2_rightBelow cX2_rightBelow 3 (some .int), Cond.methodLink RX4 87 yX2_renew, Cond.instanceMethod yX2_renew, Cond.selects RX2 yX2_renew yX2_renew, Cond.code yX2_renew cX2_renew 5 (some .int), Cond.methodLink RX2 61 yX2_putTogether, Cond.instanceMethod yX2_putTogether, Cond.selects RX2 yX2_putTogether yX2_putTogether, Cond.code yX2_putTogether cX2_putTogether 2 none, Cond.fieldLink RX2 12 "MajorityIndex$Tree" "joined" "LMajorityIndex$Votes;", Cond.fieldLink RX2 74 "MajorityIndex$Row" "cell" "[I"]
def wsX4_summary_r3 : List Cond := [Cond.fieldLink RX2 85 "MajorityIndex$Tree" "slotsHere" "I", Cond.methodLink RX2 71 yX3_clear, Cond.instanceMethod yX3_clear, Cond.selects RX3 yX3_clear yX3_clear, Cond.initialized RX3, Cond.code yX3_clear cX3_clear 1 none, Cond.fieldLink RX3 18 "MajorityIndex$Votes" "size" "I", Cond.fieldLink RX3 22 "MajorityIndex$Votes" "lost" "I", Cond.fieldLink RX3 25 "MajorityIndex$Votes" "lessBy" "I", Cond.methodLink RX2 77 yX3_add, Cond.instanceMethod yX3_add, Cond.selects RX3 yX3_add yX3_add, Cond.code yX3_add cX3_add 4 none, Cond.fieldLink RX3 9 "MajorityIndex$Votes" "value" "[I", Cond.fieldLink RX3 15 "MajorityIndex$Votes" "number" "[I", Cond.methodLink RX2 81 yX2_joinNode, Cond.instanceMethod yX2_joinNode, Cond.selects RX2 yX2_joinNode yX2_joinNode, Cond.code yX2_joinNode cX2_joinNode 5 none, Cond.fieldLink RX2 25 "MajorityIndex$Tree" "size" "[I", Cond.fieldLink RX2 34 "MajorityIndex$Tree" "value" "[I", Cond.fieldLink RX2 37 "MajorityIndex$Tree" "number" "[I", Cond.fieldLink RX2 91 "MajorityIndex$Votes" "lost" "I", Cond.fieldLink RX2 28 "MajorityIndex$Tree" "lossOf" "[I"]
def wsX4_summary_r4 : List Cond := [Cond.methodLink RX2 88 yX3_cancel, Cond.instanceMethod yX3_cancel, Cond.selects RX3 yX3_cancel yX3_cancel, Cond.code yX3_cancel cX3_cancel 4 none, Cond.methodLink RX3 32 yX3_order, Cond.instanceMethod yX3_order, Cond.selects RX3 yX3_order yX3_order, Cond.code yX3_order cX3_order 3 none, Cond.methodLink RX3 35 yX3_isAhead, Cond.instanceMethod yX3_isAhead, Cond.selects RX3 yX3_isAhead yX3_isAhead, Cond.code yX3_isAhead cX3_isAhead 3 (some .boolean), Cond.methodLink RX3 39 yX3_exchange, Cond.instanceMethod yX3_exchange, Cond.selects RX3 yX3_exchange yX3_exchange, Cond.code yX3_exchange cX3_exchange 5 none, Cond.methodLink RX2 64 yX2_isJoined, Cond.instanceMethod yX2_isJoined, Cond.selects RX2 yX2_isJoined yX2_isJoined, Cond.code yX2_isJoined cX2_isJoined 4 (some .boolean), Cond.fieldLink RX2 94 "MajorityIndex$Votes" "size" "I", Cond.fieldLink RX2 96 "MajorityIndex$Votes" "value" "[I", Cond.fieldLink RX2 97 "MajorityIndex$Votes" "number" "[I", Cond.methodLink RX2 68 yX2_keepJoined]
def wsX4_summary_r5 : List Cond := [Cond.instanceMethod yX2_keepJoined, Cond.selects RX2 yX2_keepJoined yX2_keepJoined, Cond.code yX2_keepJoined cX2_keepJoined 4 none, Cond.methodLink RX2 98 Lib.Math.min.name, Cond.static Lib.Math.min.name, Cond.initialized "java/lang/Math", Cond.code Lib.Math.min.name Lib.Math.min.code 2 (some .int), Cond.fieldLink RX2 31 "MajorityIndex$Tree" "lessBy" "[I", Cond.fieldLink RX2 104 "MajorityIndex$Votes" "lessBy" "I", Cond.methodLink RX4 170 yX2_gather, Cond.instanceMethod yX2_gather, Cond.selects RX2 yX2_gather yX2_gather, Cond.code yX2_gather cX2_gather 6 none, Cond.methodLink RX2 106 yX2_isPart, Cond.instanceMethod yX2_isPart, Cond.selects RX2 yX2_isPart yX2_isPart, Cond.code yX2_isPart cX2_isPart 4 (some .boolean), Cond.methodLink RX4 176 yX3_total, Cond.instanceMethod yX3_total, Cond.selects RX3 yX3_total yX3_total, Cond.code yX3_total cX3_total 3 (some .int)]
def wsX4_summary : List Cond := .code yX4_summary cX4_summary 4 (some .int) :: ((wsX4_summary_r1 ++ (wsX4_summary_r2 ++ (wsX4_summary_r3 ++ (wsX4_summary_r4 ++ wsX4_summary_r5)))) ++ wsX40 ++ wsX30 ++ wsX00 ++ wsX20)
def wsX4_lost_r1 : List Cond := [Cond.fieldLink RX4 12 "MajorityIndex" "row" "LMajorityIndex$Row;", Cond.fieldLink RX4 35 "MajorityIndex" "votes" "LMajorityIndex$Votes;", Cond.methodLink RX4 68 yX4_isValue, Cond.static yX4_isValue, Cond.initialized RX4, Cond.code yX4_isValue cX4_isValue 1 (some .boolean), Cond.methodLink RX4 79 yX0_hasRange, Cond.instanceMethod yX0_hasRange, Cond.selects RX0 yX0_hasRange yX0_hasRange, Cond.initialized RX0, Cond.code yX0_hasRange cX0_hasRange 3 (some .boolean), Cond.fieldLink RX0 15 "MajorityIndex$Row" "length" "I", Cond.methodLink RX4 71 yX4_laidTree, Cond.instanceMethod yX4_laidTree, Cond.selects RX4 yX4_laidTree yX4_laidTree, Cond.code yX4_laidTree cX4_laidTree 1 (some (.object "MajorityIndex$Tree")), Cond.fieldLink RX4 53 "MajorityIndex" "treeIsOld" "Z", Cond.fieldLink RX4 21 "MajorityIndex" "tree" "LMajorityIndex$Tree;", Cond.fieldLink RX4 49 "MajorityIndex" "slotsNow" "I", Cond.fieldLink RX4 204 "MajorityIndex$Tree" "slotsHere" "I", Cond.fieldLink RX4 57 "MajorityIndex$Row" "length" "I", Cond.methodLink RX4 259 yX2_layRanges, Cond.instanceMethod yX2_layRanges, Cond.selects RX2 yX2_layRanges yX2_layRanges]
def wsX4_lost_r2 : List Cond := [Cond.initialized RX2, Cond.code yX2_layRanges cX2_layRanges 2 none, Cond.fieldLink RX2 40 "MajorityIndex$Tree" "row" "LMajorityIndex$Row;", Cond.fieldLink RX2 44 "MajorityIndex$Row" "length" "I", Cond.fieldLink RX2 50 "MajorityIndex$Tree" "nodes" "I", Cond.fieldLink RX2 18 "MajorityIndex$Tree" "from" "[I", Cond.fieldLink RX2 22 "MajorityIndex$Tree" "to" "[I", Cond.methodLink RX2 53 yX2_layBelow, Cond.instanceMethod yX2_layBelow, Cond.selects RX2 yX2_layBelow yX2_layBelow, Cond.code yX2_layBelow cX2_layBelow 4 none, Cond.methodLink RX2 57 yX2_rightBelow, Cond.instanceMethod yX2_rightBelow, Cond.selects RX2 yX2_rightBelow yX2_rightBelow, Cond.code yX2_rightBelow cX2_rightBelow 3 (some .int), Cond.methodLink RX4 87 yX2_renew, Cond.instanceMethod yX2_renew, Cond.selects RX2 yX2_renew yX2_renew, Cond.code yX2_renew cX2_renew 5 (some .int), Cond.methodLink RX2 61 yX2_putTogether, Cond.instanceMethod yX2_putTogether, Cond.selects RX2 yX2_putTogether yX2_putTogether, Cond.code yX2_putTogether cX2_putTogether 2 none, Cond.fieldLink RX2 12 "MajorityIndex$Tree" "joined" "LMajorityIndex$Votes;"]
def wsX4_lost_r3 : List Cond := [Cond.fieldLink RX2 74 "MajorityIndex$Row" "cell" "[I", Cond.fieldLink RX2 85 "MajorityIndex$Tree" "slotsHere" "I", Cond.methodLink RX2 71 yX3_clear, Cond.instanceMethod yX3_clear, Cond.selects RX3 yX3_clear yX3_clear, Cond.initialized RX3, Cond.code yX3_clear cX3_clear 1 none, Cond.fieldLink RX3 18 "MajorityIndex$Votes" "size" "I", Cond.fieldLink RX3 22 "MajorityIndex$Votes" "lost" "I", Cond.fieldLink RX3 25 "MajorityIndex$Votes" "lessBy" "I", Cond.methodLink RX2 77 yX3_add, Cond.instanceMethod yX3_add, Cond.selects RX3 yX3_add yX3_add, Cond.code yX3_add cX3_add 4 none, Cond.fieldLink RX3 9 "MajorityIndex$Votes" "value" "[I", Cond.fieldLink RX3 15 "MajorityIndex$Votes" "number" "[I", Cond.methodLink RX2 81 yX2_joinNode, Cond.instanceMethod yX2_joinNode, Cond.selects RX2 yX2_joinNode yX2_joinNode, Cond.code yX2_joinNode cX2_joinNode 5 none, Cond.fieldLink RX2 25 "MajorityIndex$Tree" "size" "[I", Cond.fieldLink RX2 34 "MajorityIndex$Tree" "value" "[I", Cond.fieldLink RX2 37 "MajorityIndex$Tree" "number" "[I", Cond.fieldLink RX2 91 "MajorityIndex$Votes" "lost" "I"]
def wsX4_lost_r4 : List Cond := [Cond.fieldLink RX2 28 "MajorityIndex$Tree" "lossOf" "[I", Cond.methodLink RX2 88 yX3_cancel, Cond.instanceMethod yX3_cancel, Cond.selects RX3 yX3_cancel yX3_cancel, Cond.code yX3_cancel cX3_cancel 4 none, Cond.methodLink RX3 32 yX3_order, Cond.instanceMethod yX3_order, Cond.selects RX3 yX3_order yX3_order, Cond.code yX3_order cX3_order 3 none, Cond.methodLink RX3 35 yX3_isAhead, Cond.instanceMethod yX3_isAhead, Cond.selects RX3 yX3_isAhead yX3_isAhead, Cond.code yX3_isAhead cX3_isAhead 3 (some .boolean), Cond.methodLink RX3 39 yX3_exchange, Cond.instanceMethod yX3_exchange, Cond.selects RX3 yX3_exchange yX3_exchange, Cond.code yX3_exchange cX3_exchange 5 none, Cond.methodLink RX2 64 yX2_isJoined, Cond.instanceMethod yX2_isJoined, Cond.selects RX2 yX2_isJoined yX2_isJoined, Cond.code yX2_isJoined cX2_isJoined 4 (some .boolean), Cond.fieldLink RX2 94 "MajorityIndex$Votes" "size" "I", Cond.fieldLink RX2 96 "MajorityIndex$Votes" "value" "[I", Cond.fieldLink RX2 97 "MajorityIndex$Votes" "number" "[I"]
def wsX4_lost_r5 : List Cond := [Cond.methodLink RX2 68 yX2_keepJoined, Cond.instanceMethod yX2_keepJoined, Cond.selects RX2 yX2_keepJoined yX2_keepJoined, Cond.code yX2_keepJoined cX2_keepJoined 4 none, Cond.methodLink RX2 98 Lib.Math.min.name, Cond.static Lib.Math.min.name, Cond.initialized "java/lang/Math", Cond.code Lib.Math.min.name Lib.Math.min.code 2 (some .int), Cond.fieldLink RX2 31 "MajorityIndex$Tree" "lessBy" "[I", Cond.fieldLink RX2 104 "MajorityIndex$Votes" "lessBy" "I", Cond.methodLink RX4 170 yX2_gather, Cond.instanceMethod yX2_gather, Cond.selects RX2 yX2_gather yX2_gather, Cond.code yX2_gather cX2_gather 6 none, Cond.methodLink RX2 106 yX2_isPart, Cond.instanceMethod yX2_isPart, Cond.selects RX2 yX2_isPart yX2_isPart, Cond.code yX2_isPart cX2_isPart 4 (some .boolean), Cond.methodLink RX4 113 yX0_oftenIn, Cond.instanceMethod yX0_oftenIn, Cond.selects RX0 yX0_oftenIn yX0_oftenIn, Cond.code yX0_oftenIn cX0_oftenIn 6 (some .int), Cond.fieldLink RX0 9 "MajorityIndex$Row" "cell" "[I", Cond.methodLink RX4 183 yX3_numberOf]
def wsX4_lost_r6 : List Cond := [Cond.instanceMethod yX3_numberOf, Cond.selects RX3 yX3_numberOf yX3_numberOf, Cond.code yX3_numberOf cX3_numberOf 3 (some .int)]
def wsX4_lost : List Cond := .code yX4_lost cX4_lost 4 (some .int) :: ((wsX4_lost_r1 ++ (wsX4_lost_r2 ++ (wsX4_lost_r3 ++ (wsX4_lost_r4 ++ (wsX4_lost_r5 ++ wsX4_lost_r6))))) ++ wsX40 ++ wsX00 ++ wsX20 ++ wsX30)
def wsX4_surely_r1 : List Cond := [Cond.fieldLink RX4 12 "MajorityIndex" "row" "LMajorityIndex$Row;", Cond.constant RX4 102 (-40000), Cond.fieldLink RX4 35 "MajorityIndex" "votes" "LMajorityIndex$Votes;", Cond.fieldLink RX4 174 "MajorityIndex$Votes" "size" "I", Cond.fieldLink RX4 136 "MajorityIndex$Votes" "number" "[I", Cond.fieldLink RX4 180 "MajorityIndex$Votes" "lost" "I", Cond.fieldLink RX4 133 "MajorityIndex$Votes" "value" "[I", Cond.methodLink RX4 79 yX0_hasRange, Cond.instanceMethod yX0_hasRange, Cond.selects RX0 yX0_hasRange yX0_hasRange, Cond.initialized RX0, Cond.code yX0_hasRange cX0_hasRange 3 (some .boolean), Cond.fieldLink RX0 15 "MajorityIndex$Row" "length" "I", Cond.methodLink RX4 71 yX4_laidTree, Cond.instanceMethod yX4_laidTree, Cond.selects RX4 yX4_laidTree yX4_laidTree, Cond.initialized RX4, Cond.code yX4_laidTree cX4_laidTree 1 (some (.object "MajorityIndex$Tree")), Cond.fieldLink RX4 53 "MajorityIndex" "treeIsOld" "Z", Cond.fieldLink RX4 21 "MajorityIndex" "tree" "LMajorityIndex$Tree;", Cond.fieldLink RX4 49 "MajorityIndex" "slotsNow" "I", Cond.fieldLink RX4 204 "MajorityIndex$Tree" "slotsHere" "I", Cond.fieldLink RX4 57 "MajorityIndex$Row" "length" "I", Cond.methodLink RX4 259 yX2_layRanges]
def wsX4_surely_r2 : List Cond := [Cond.instanceMethod yX2_layRanges, Cond.selects RX2 yX2_layRanges yX2_layRanges, Cond.initialized RX2, Cond.code yX2_layRanges cX2_layRanges 2 none, Cond.fieldLink RX2 40 "MajorityIndex$Tree" "row" "LMajorityIndex$Row;", Cond.fieldLink RX2 44 "MajorityIndex$Row" "length" "I", Cond.fieldLink RX2 50 "MajorityIndex$Tree" "nodes" "I", Cond.fieldLink RX2 18 "MajorityIndex$Tree" "from" "[I", Cond.fieldLink RX2 22 "MajorityIndex$Tree" "to" "[I", Cond.methodLink RX2 53 yX2_layBelow, Cond.instanceMethod yX2_layBelow, Cond.selects RX2 yX2_layBelow yX2_layBelow, Cond.code yX2_layBelow cX2_layBelow 4 none, Cond.methodLink RX2 57 yX2_rightBelow, Cond.instanceMethod yX2_rightBelow, Cond.selects RX2 yX2_rightBelow yX2_rightBelow, Cond.code yX2_rightBelow cX2_rightBelow 3 (some .int), Cond.methodLink RX4 87 yX2_renew, Cond.instanceMethod yX2_renew, Cond.selects RX2 yX2_renew yX2_renew, Cond.code yX2_renew cX2_renew 5 (some .int), Cond.methodLink RX2 61 yX2_putTogether, Cond.instanceMethod yX2_putTogether, Cond.selects RX2 yX2_putTogether yX2_putTogether]
def wsX4_surely_r3 : List Cond := [Cond.code yX2_putTogether cX2_putTogether 2 none, Cond.fieldLink RX2 12 "MajorityIndex$Tree" "joined" "LMajorityIndex$Votes;", Cond.fieldLink RX2 74 "MajorityIndex$Row" "cell" "[I", Cond.fieldLink RX2 85 "MajorityIndex$Tree" "slotsHere" "I", Cond.methodLink RX2 71 yX3_clear, Cond.instanceMethod yX3_clear, Cond.selects RX3 yX3_clear yX3_clear, Cond.initialized RX3, Cond.code yX3_clear cX3_clear 1 none, Cond.fieldLink RX3 18 "MajorityIndex$Votes" "size" "I", Cond.fieldLink RX3 22 "MajorityIndex$Votes" "lost" "I", Cond.fieldLink RX3 25 "MajorityIndex$Votes" "lessBy" "I", Cond.methodLink RX2 77 yX3_add, Cond.instanceMethod yX3_add, Cond.selects RX3 yX3_add yX3_add, Cond.code yX3_add cX3_add 4 none, Cond.fieldLink RX3 9 "MajorityIndex$Votes" "value" "[I", Cond.fieldLink RX3 15 "MajorityIndex$Votes" "number" "[I", Cond.methodLink RX2 81 yX2_joinNode, Cond.instanceMethod yX2_joinNode, Cond.selects RX2 yX2_joinNode yX2_joinNode, Cond.code yX2_joinNode cX2_joinNode 5 none, Cond.fieldLink RX2 25 "MajorityIndex$Tree" "size" "[I", Cond.fieldLink RX2 34 "MajorityIndex$Tree" "value" "[I"]
def wsX4_surely_r4 : List Cond := [Cond.fieldLink RX2 37 "MajorityIndex$Tree" "number" "[I", Cond.fieldLink RX2 91 "MajorityIndex$Votes" "lost" "I", Cond.fieldLink RX2 28 "MajorityIndex$Tree" "lossOf" "[I", Cond.methodLink RX2 88 yX3_cancel, Cond.instanceMethod yX3_cancel, Cond.selects RX3 yX3_cancel yX3_cancel, Cond.code yX3_cancel cX3_cancel 4 none, Cond.methodLink RX3 32 yX3_order, Cond.instanceMethod yX3_order, Cond.selects RX3 yX3_order yX3_order, Cond.code yX3_order cX3_order 3 none, Cond.methodLink RX3 35 yX3_isAhead, Cond.instanceMethod yX3_isAhead, Cond.selects RX3 yX3_isAhead yX3_isAhead, Cond.code yX3_isAhead cX3_isAhead 3 (some .boolean), Cond.methodLink RX3 39 yX3_exchange, Cond.instanceMethod yX3_exchange, Cond.selects RX3 yX3_exchange yX3_exchange, Cond.code yX3_exchange cX3_exchange 5 none, Cond.methodLink RX2 64 yX2_isJoined, Cond.instanceMethod yX2_isJoined, Cond.selects RX2 yX2_isJoined yX2_isJoined, Cond.code yX2_isJoined cX2_isJoined 4 (some .boolean), Cond.fieldLink RX2 94 "MajorityIndex$Votes" "size" "I"]
def wsX4_surely_r5 : List Cond := [Cond.fieldLink RX2 96 "MajorityIndex$Votes" "value" "[I", Cond.fieldLink RX2 97 "MajorityIndex$Votes" "number" "[I", Cond.methodLink RX2 68 yX2_keepJoined, Cond.instanceMethod yX2_keepJoined, Cond.selects RX2 yX2_keepJoined yX2_keepJoined, Cond.code yX2_keepJoined cX2_keepJoined 4 none, Cond.methodLink RX2 98 Lib.Math.min.name, Cond.static Lib.Math.min.name, Cond.initialized "java/lang/Math", Cond.code Lib.Math.min.name Lib.Math.min.code 2 (some .int), Cond.fieldLink RX2 31 "MajorityIndex$Tree" "lessBy" "[I", Cond.fieldLink RX2 104 "MajorityIndex$Votes" "lessBy" "I", Cond.methodLink RX4 170 yX2_gather, Cond.instanceMethod yX2_gather, Cond.selects RX2 yX2_gather yX2_gather, Cond.code yX2_gather cX2_gather 6 none, Cond.methodLink RX2 106 yX2_isPart, Cond.instanceMethod yX2_isPart, Cond.selects RX2 yX2_isPart yX2_isPart, Cond.code yX2_isPart cX2_isPart 4 (some .boolean)]
def wsX4_surely : List Cond := .code yX4_surely cX4_surely 4 (some .int) :: ((wsX4_surely_r1 ++ (wsX4_surely_r2 ++ (wsX4_surely_r3 ++ (wsX4_surely_r4 ++ wsX4_surely_r5)))) ++ wsX40 ++ wsX30 ++ wsX00 ++ wsX20)
def wsX4_isEnough : List Cond := .code yX4_isEnough cX4_isEnough 3 (some .boolean) :: ([.fieldLink RX4 49 "MajorityIndex" "slotsNow" "I"] ++ wsX40)
def wsX4_gatherHeavy_r1 : List Cond := [Cond.fieldLink RX4 35 "MajorityIndex" "votes" "LMajorityIndex$Votes;", Cond.fieldLink RX4 174 "MajorityIndex$Votes" "size" "I", Cond.fieldLink RX4 136 "MajorityIndex$Votes" "number" "[I", Cond.fieldLink RX4 12 "MajorityIndex" "row" "LMajorityIndex$Row;", Cond.fieldLink RX4 133 "MajorityIndex$Votes" "value" "[I", Cond.methodLink RX4 170 yX2_gather, Cond.instanceMethod yX2_gather, Cond.selects RX2 yX2_gather yX2_gather, Cond.initialized RX2, Cond.code yX2_gather cX2_gather 6 none, Cond.fieldLink RX2 50 "MajorityIndex$Tree" "nodes" "I", Cond.fieldLink RX2 22 "MajorityIndex$Tree" "to" "[I", Cond.fieldLink RX2 85 "MajorityIndex$Tree" "slotsHere" "I", Cond.methodLink RX2 71 yX3_clear, Cond.instanceMethod yX3_clear, Cond.selects RX3 yX3_clear yX3_clear, Cond.initialized RX3, Cond.code yX3_clear cX3_clear 1 none, Cond.fieldLink RX3 18 "MajorityIndex$Votes" "size" "I", Cond.fieldLink RX3 22 "MajorityIndex$Votes" "lost" "I", Cond.fieldLink RX3 25 "MajorityIndex$Votes" "lessBy" "I", Cond.methodLink RX2 106 yX2_isPart, Cond.instanceMethod yX2_isPart, Cond.selects RX2 yX2_isPart yX2_isPart]
def wsX4_gatherHeavy_r2 : List Cond := [Cond.code yX2_isPart cX2_isPart 4 (some .boolean), Cond.fieldLink RX2 18 "MajorityIndex$Tree" "from" "[I", Cond.methodLink RX2 81 yX2_joinNode, Cond.instanceMethod yX2_joinNode, Cond.selects RX2 yX2_joinNode yX2_joinNode, Cond.code yX2_joinNode cX2_joinNode 5 none, Cond.fieldLink RX2 25 "MajorityIndex$Tree" "size" "[I", Cond.fieldLink RX2 34 "MajorityIndex$Tree" "value" "[I", Cond.fieldLink RX2 37 "MajorityIndex$Tree" "number" "[I", Cond.fieldLink RX2 91 "MajorityIndex$Votes" "lost" "I", Cond.fieldLink RX2 28 "MajorityIndex$Tree" "lossOf" "[I", Cond.methodLink RX2 77 yX3_add, Cond.instanceMethod yX3_add, Cond.selects RX3 yX3_add yX3_add, Cond.code yX3_add cX3_add 4 none, Cond.fieldLink RX3 9 "MajorityIndex$Votes" "value" "[I", Cond.fieldLink RX3 15 "MajorityIndex$Votes" "number" "[I", Cond.methodLink RX2 88 yX3_cancel, Cond.instanceMethod yX3_cancel, Cond.selects RX3 yX3_cancel yX3_cancel, Cond.code yX3_cancel cX3_cancel 4 none, Cond.methodLink RX3 32 yX3_order, Cond.instanceMethod yX3_order, Cond.selects RX3 yX3_order yX3_order]
def wsX4_gatherHeavy_r3 : List Cond := [Cond.code yX3_order cX3_order 3 none, Cond.methodLink RX3 35 yX3_isAhead, Cond.instanceMethod yX3_isAhead, Cond.selects RX3 yX3_isAhead yX3_isAhead, Cond.code yX3_isAhead cX3_isAhead 3 (some .boolean), Cond.methodLink RX3 39 yX3_exchange, Cond.instanceMethod yX3_exchange, Cond.selects RX3 yX3_exchange yX3_exchange, Cond.code yX3_exchange cX3_exchange 5 none, Cond.methodLink RX4 113 yX0_oftenIn, Cond.instanceMethod yX0_oftenIn, Cond.selects RX0 yX0_oftenIn yX0_oftenIn, Cond.initialized RX0, Cond.code yX0_oftenIn cX0_oftenIn 6 (some .int), Cond.fieldLink RX0 9 "MajorityIndex$Row" "cell" "[I", Cond.methodLink RX4 262 yX3_keepHeavy, Cond.instanceMethod yX3_keepHeavy, Cond.selects RX3 yX3_keepHeavy yX3_keepHeavy, Cond.code yX3_keepHeavy cX3_keepHeavy 6 none, Cond.static yX4_isHeavy, Cond.initialized RX4, Cond.code yX4_isHeavy cX4_isHeavy 4 (some .boolean)]
def wsX4_gatherHeavy : List Cond := .code yX4_gatherHeavy cX4_gatherHeavy 7 none :: ((wsX4_gatherHeavy_r1 ++ (wsX4_gatherHeavy_r2 ++ wsX4_gatherHeavy_r3)) ++ wsX40 ++ wsX30 ++ wsX20 ++ wsX00)
def wsX4_heavy_r1 : List Cond := [Cond.fieldLink RX4 12 "MajorityIndex" "row" "LMajorityIndex$Row;", Cond.fieldLink RX4 35 "MajorityIndex" "votes" "LMajorityIndex$Votes;", Cond.fieldLink RX4 174 "MajorityIndex$Votes" "size" "I", Cond.methodLink RX4 79 yX0_hasRange, Cond.instanceMethod yX0_hasRange, Cond.selects RX0 yX0_hasRange yX0_hasRange, Cond.initialized RX0, Cond.code yX0_hasRange cX0_hasRange 3 (some .boolean), Cond.fieldLink RX0 15 "MajorityIndex$Row" "length" "I", Cond.methodLink RX4 186 yX4_isShare, Cond.static yX4_isShare, Cond.initialized RX4, Cond.code yX4_isShare cX4_isShare 2 (some .boolean), Cond.methodLink RX4 189 yX4_isEnough, Cond.instanceMethod yX4_isEnough, Cond.selects RX4 yX4_isEnough yX4_isEnough, Cond.code yX4_isEnough cX4_isEnough 3 (some .boolean), Cond.fieldLink RX4 49 "MajorityIndex" "slotsNow" "I", Cond.methodLink RX4 71 yX4_laidTree, Cond.instanceMethod yX4_laidTree, Cond.selects RX4 yX4_laidTree yX4_laidTree, Cond.code yX4_laidTree cX4_laidTree 1 (some (.object "MajorityIndex$Tree")), Cond.fieldLink RX4 53 "MajorityIndex" "treeIsOld" "Z", Cond.fieldLink RX4 21 "MajorityIndex" "tree" "LMajorityIndex$Tree;"]
def wsX4_heavy_r2 : List Cond := [Cond.fieldLink RX4 204 "MajorityIndex$Tree" "slotsHere" "I", Cond.fieldLink RX4 57 "MajorityIndex$Row" "length" "I", Cond.methodLink RX4 259 yX2_layRanges, Cond.instanceMethod yX2_layRanges, Cond.selects RX2 yX2_layRanges yX2_layRanges, Cond.initialized RX2, Cond.code yX2_layRanges cX2_layRanges 2 none, Cond.fieldLink RX2 40 "MajorityIndex$Tree" "row" "LMajorityIndex$Row;", Cond.fieldLink RX2 44 "MajorityIndex$Row" "length" "I", Cond.fieldLink RX2 50 "MajorityIndex$Tree" "nodes" "I", Cond.fieldLink RX2 18 "MajorityIndex$Tree" "from" "[I", Cond.fieldLink RX2 22 "MajorityIndex$Tree" "to" "[I", Cond.methodLink RX2 53 yX2_layBelow, Cond.instanceMethod yX2_layBelow, Cond.selects RX2 yX2_layBelow yX2_layBelow, Cond.code yX2_layBelow cX2_layBelow 4 none, Cond.methodLink RX2 57 yX2_rightBelow, Cond.instanceMethod yX2_rightBelow, Cond.selects RX2 yX2_rightBelow yX2_rightBelow, Cond.code yX2_rightBelow cX2_rightBelow 3 (some .int), Cond.methodLink RX4 87 yX2_renew, Cond.instanceMethod yX2_renew, Cond.selects RX2 yX2_renew yX2_renew, Cond.code yX2_renew cX2_renew 5 (some .int)]
def wsX4_heavy_r3 : List Cond := [Cond.methodLink RX2 61 yX2_putTogether, Cond.instanceMethod yX2_putTogether, Cond.selects RX2 yX2_putTogether yX2_putTogether, Cond.code yX2_putTogether cX2_putTogether 2 none, Cond.fieldLink RX2 12 "MajorityIndex$Tree" "joined" "LMajorityIndex$Votes;", Cond.fieldLink RX2 74 "MajorityIndex$Row" "cell" "[I", Cond.fieldLink RX2 85 "MajorityIndex$Tree" "slotsHere" "I", Cond.methodLink RX2 71 yX3_clear, Cond.instanceMethod yX3_clear, Cond.selects RX3 yX3_clear yX3_clear, Cond.initialized RX3, Cond.code yX3_clear cX3_clear 1 none, Cond.fieldLink RX3 18 "MajorityIndex$Votes" "size" "I", Cond.fieldLink RX3 22 "MajorityIndex$Votes" "lost" "I", Cond.fieldLink RX3 25 "MajorityIndex$Votes" "lessBy" "I", Cond.methodLink RX2 77 yX3_add, Cond.instanceMethod yX3_add, Cond.selects RX3 yX3_add yX3_add, Cond.code yX3_add cX3_add 4 none, Cond.fieldLink RX3 9 "MajorityIndex$Votes" "value" "[I", Cond.fieldLink RX3 15 "MajorityIndex$Votes" "number" "[I", Cond.methodLink RX2 81 yX2_joinNode, Cond.instanceMethod yX2_joinNode, Cond.selects RX2 yX2_joinNode yX2_joinNode]
def wsX4_heavy_r4 : List Cond := [Cond.code yX2_joinNode cX2_joinNode 5 none, Cond.fieldLink RX2 25 "MajorityIndex$Tree" "size" "[I", Cond.fieldLink RX2 34 "MajorityIndex$Tree" "value" "[I", Cond.fieldLink RX2 37 "MajorityIndex$Tree" "number" "[I", Cond.fieldLink RX2 91 "MajorityIndex$Votes" "lost" "I", Cond.fieldLink RX2 28 "MajorityIndex$Tree" "lossOf" "[I", Cond.methodLink RX2 88 yX3_cancel, Cond.instanceMethod yX3_cancel, Cond.selects RX3 yX3_cancel yX3_cancel, Cond.code yX3_cancel cX3_cancel 4 none, Cond.methodLink RX3 32 yX3_order, Cond.instanceMethod yX3_order, Cond.selects RX3 yX3_order yX3_order, Cond.code yX3_order cX3_order 3 none, Cond.methodLink RX3 35 yX3_isAhead, Cond.instanceMethod yX3_isAhead, Cond.selects RX3 yX3_isAhead yX3_isAhead, Cond.code yX3_isAhead cX3_isAhead 3 (some .boolean), Cond.methodLink RX3 39 yX3_exchange, Cond.instanceMethod yX3_exchange, Cond.selects RX3 yX3_exchange yX3_exchange, Cond.code yX3_exchange cX3_exchange 5 none, Cond.methodLink RX2 64 yX2_isJoined, Cond.instanceMethod yX2_isJoined]
def wsX4_heavy_r5 : List Cond := [Cond.selects RX2 yX2_isJoined yX2_isJoined, Cond.code yX2_isJoined cX2_isJoined 4 (some .boolean), Cond.fieldLink RX2 94 "MajorityIndex$Votes" "size" "I", Cond.fieldLink RX2 96 "MajorityIndex$Votes" "value" "[I", Cond.fieldLink RX2 97 "MajorityIndex$Votes" "number" "[I", Cond.methodLink RX2 68 yX2_keepJoined, Cond.instanceMethod yX2_keepJoined, Cond.selects RX2 yX2_keepJoined yX2_keepJoined, Cond.code yX2_keepJoined cX2_keepJoined 4 none, Cond.methodLink RX2 98 Lib.Math.min.name, Cond.static Lib.Math.min.name, Cond.initialized "java/lang/Math", Cond.code Lib.Math.min.name Lib.Math.min.code 2 (some .int), Cond.fieldLink RX2 31 "MajorityIndex$Tree" "lessBy" "[I", Cond.fieldLink RX2 104 "MajorityIndex$Votes" "lessBy" "I", Cond.methodLink RX4 192 yX4_gatherHeavy, Cond.instanceMethod yX4_gatherHeavy, Cond.selects RX4 yX4_gatherHeavy yX4_gatherHeavy, Cond.code yX4_gatherHeavy cX4_gatherHeavy 7 none, Cond.fieldLink RX4 136 "MajorityIndex$Votes" "number" "[I", Cond.fieldLink RX4 133 "MajorityIndex$Votes" "value" "[I", Cond.methodLink RX4 170 yX2_gather, Cond.instanceMethod yX2_gather, Cond.selects RX2 yX2_gather yX2_gather]
def wsX4_heavy_r6 : List Cond := [Cond.code yX2_gather cX2_gather 6 none, Cond.methodLink RX2 106 yX2_isPart, Cond.instanceMethod yX2_isPart, Cond.selects RX2 yX2_isPart yX2_isPart, Cond.code yX2_isPart cX2_isPart 4 (some .boolean), Cond.methodLink RX4 113 yX0_oftenIn, Cond.instanceMethod yX0_oftenIn, Cond.selects RX0 yX0_oftenIn yX0_oftenIn, Cond.code yX0_oftenIn cX0_oftenIn 6 (some .int), Cond.fieldLink RX0 9 "MajorityIndex$Row" "cell" "[I", Cond.methodLink RX4 262 yX3_keepHeavy, Cond.instanceMethod yX3_keepHeavy, Cond.selects RX3 yX3_keepHeavy yX3_keepHeavy, Cond.code yX3_keepHeavy cX3_keepHeavy 6 none, Cond.static yX4_isHeavy, Cond.code yX4_isHeavy cX4_isHeavy 4 (some .boolean)]
def wsX4_heavy : List Cond := .code yX4_heavy cX4_heavy 5 (some .int) :: ((wsX4_heavy_r1 ++ (wsX4_heavy_r2 ++ (wsX4_heavy_r3 ++ (wsX4_heavy_r4 ++ (wsX4_heavy_r5 ++ wsX4_heavy_r6))))) ++ wsX40 ++ wsX30 ++ wsX00 ++ wsX20)
def wsX4_failed_r1 : List Cond := [Cond.fieldLink RX4 12 "MajorityIndex" "row" "LMajorityIndex$Row;", Cond.fieldLink RX4 35 "MajorityIndex" "votes" "LMajorityIndex$Votes;", Cond.fieldLink RX4 174 "MajorityIndex$Votes" "size" "I", Cond.methodLink RX4 79 yX0_hasRange, Cond.instanceMethod yX0_hasRange, Cond.selects RX0 yX0_hasRange yX0_hasRange, Cond.initialized RX0, Cond.code yX0_hasRange cX0_hasRange 3 (some .boolean), Cond.fieldLink RX0 15 "MajorityIndex$Row" "length" "I", Cond.methodLink RX4 186 yX4_isShare, Cond.static yX4_isShare, Cond.initialized RX4, Cond.code yX4_isShare cX4_isShare 2 (some .boolean), Cond.methodLink RX4 189 yX4_isEnough, Cond.instanceMethod yX4_isEnough, Cond.selects RX4 yX4_isEnough yX4_isEnough, Cond.code yX4_isEnough cX4_isEnough 3 (some .boolean), Cond.fieldLink RX4 49 "MajorityIndex" "slotsNow" "I", Cond.methodLink RX4 71 yX4_laidTree, Cond.instanceMethod yX4_laidTree, Cond.selects RX4 yX4_laidTree yX4_laidTree, Cond.code yX4_laidTree cX4_laidTree 1 (some (.object "MajorityIndex$Tree")), Cond.fieldLink RX4 53 "MajorityIndex" "treeIsOld" "Z", Cond.fieldLink RX4 21 "MajorityIndex" "tree" "LMajorityIndex$Tree;"]
def wsX4_failed_r2 : List Cond := [Cond.fieldLink RX4 204 "MajorityIndex$Tree" "slotsHere" "I", Cond.fieldLink RX4 57 "MajorityIndex$Row" "length" "I", Cond.methodLink RX4 259 yX2_layRanges, Cond.instanceMethod yX2_layRanges, Cond.selects RX2 yX2_layRanges yX2_layRanges, Cond.initialized RX2, Cond.code yX2_layRanges cX2_layRanges 2 none, Cond.fieldLink RX2 40 "MajorityIndex$Tree" "row" "LMajorityIndex$Row;", Cond.fieldLink RX2 44 "MajorityIndex$Row" "length" "I", Cond.fieldLink RX2 50 "MajorityIndex$Tree" "nodes" "I", Cond.fieldLink RX2 18 "MajorityIndex$Tree" "from" "[I", Cond.fieldLink RX2 22 "MajorityIndex$Tree" "to" "[I", Cond.methodLink RX2 53 yX2_layBelow, Cond.instanceMethod yX2_layBelow, Cond.selects RX2 yX2_layBelow yX2_layBelow, Cond.code yX2_layBelow cX2_layBelow 4 none, Cond.methodLink RX2 57 yX2_rightBelow, Cond.instanceMethod yX2_rightBelow, Cond.selects RX2 yX2_rightBelow yX2_rightBelow, Cond.code yX2_rightBelow cX2_rightBelow 3 (some .int), Cond.methodLink RX4 87 yX2_renew, Cond.instanceMethod yX2_renew, Cond.selects RX2 yX2_renew yX2_renew, Cond.code yX2_renew cX2_renew 5 (some .int)]
def wsX4_failed_r3 : List Cond := [Cond.methodLink RX2 61 yX2_putTogether, Cond.instanceMethod yX2_putTogether, Cond.selects RX2 yX2_putTogether yX2_putTogether, Cond.code yX2_putTogether cX2_putTogether 2 none, Cond.fieldLink RX2 12 "MajorityIndex$Tree" "joined" "LMajorityIndex$Votes;", Cond.fieldLink RX2 74 "MajorityIndex$Row" "cell" "[I", Cond.fieldLink RX2 85 "MajorityIndex$Tree" "slotsHere" "I", Cond.methodLink RX2 71 yX3_clear, Cond.instanceMethod yX3_clear, Cond.selects RX3 yX3_clear yX3_clear, Cond.initialized RX3, Cond.code yX3_clear cX3_clear 1 none, Cond.fieldLink RX3 18 "MajorityIndex$Votes" "size" "I", Cond.fieldLink RX3 22 "MajorityIndex$Votes" "lost" "I", Cond.fieldLink RX3 25 "MajorityIndex$Votes" "lessBy" "I", Cond.methodLink RX2 77 yX3_add, Cond.instanceMethod yX3_add, Cond.selects RX3 yX3_add yX3_add, Cond.code yX3_add cX3_add 4 none, Cond.fieldLink RX3 9 "MajorityIndex$Votes" "value" "[I", Cond.fieldLink RX3 15 "MajorityIndex$Votes" "number" "[I", Cond.methodLink RX2 81 yX2_joinNode, Cond.instanceMethod yX2_joinNode, Cond.selects RX2 yX2_joinNode yX2_joinNode]
def wsX4_failed_r4 : List Cond := [Cond.code yX2_joinNode cX2_joinNode 5 none, Cond.fieldLink RX2 25 "MajorityIndex$Tree" "size" "[I", Cond.fieldLink RX2 34 "MajorityIndex$Tree" "value" "[I", Cond.fieldLink RX2 37 "MajorityIndex$Tree" "number" "[I", Cond.fieldLink RX2 91 "MajorityIndex$Votes" "lost" "I", Cond.fieldLink RX2 28 "MajorityIndex$Tree" "lossOf" "[I", Cond.methodLink RX2 88 yX3_cancel, Cond.instanceMethod yX3_cancel, Cond.selects RX3 yX3_cancel yX3_cancel, Cond.code yX3_cancel cX3_cancel 4 none, Cond.methodLink RX3 32 yX3_order, Cond.instanceMethod yX3_order, Cond.selects RX3 yX3_order yX3_order, Cond.code yX3_order cX3_order 3 none, Cond.methodLink RX3 35 yX3_isAhead, Cond.instanceMethod yX3_isAhead, Cond.selects RX3 yX3_isAhead yX3_isAhead, Cond.code yX3_isAhead cX3_isAhead 3 (some .boolean), Cond.methodLink RX3 39 yX3_exchange, Cond.instanceMethod yX3_exchange, Cond.selects RX3 yX3_exchange yX3_exchange, Cond.code yX3_exchange cX3_exchange 5 none, Cond.methodLink RX2 64 yX2_isJoined, Cond.instanceMethod yX2_isJoined]
def wsX4_failed_r5 : List Cond := [Cond.selects RX2 yX2_isJoined yX2_isJoined, Cond.code yX2_isJoined cX2_isJoined 4 (some .boolean), Cond.fieldLink RX2 94 "MajorityIndex$Votes" "size" "I", Cond.fieldLink RX2 96 "MajorityIndex$Votes" "value" "[I", Cond.fieldLink RX2 97 "MajorityIndex$Votes" "number" "[I", Cond.methodLink RX2 68 yX2_keepJoined, Cond.instanceMethod yX2_keepJoined, Cond.selects RX2 yX2_keepJoined yX2_keepJoined, Cond.code yX2_keepJoined cX2_keepJoined 4 none, Cond.methodLink RX2 98 Lib.Math.min.name, Cond.static Lib.Math.min.name, Cond.initialized "java/lang/Math", Cond.code Lib.Math.min.name Lib.Math.min.code 2 (some .int), Cond.fieldLink RX2 31 "MajorityIndex$Tree" "lessBy" "[I", Cond.fieldLink RX2 104 "MajorityIndex$Votes" "lessBy" "I", Cond.methodLink RX4 170 yX2_gather, Cond.instanceMethod yX2_gather, Cond.selects RX2 yX2_gather yX2_gather, Cond.code yX2_gather cX2_gather 6 none, Cond.methodLink RX2 106 yX2_isPart, Cond.instanceMethod yX2_isPart, Cond.selects RX2 yX2_isPart yX2_isPart, Cond.code yX2_isPart cX2_isPart 4 (some .boolean), Cond.methodLink RX4 192 yX4_gatherHeavy]
def wsX4_failed_r6 : List Cond := [Cond.instanceMethod yX4_gatherHeavy, Cond.selects RX4 yX4_gatherHeavy yX4_gatherHeavy, Cond.code yX4_gatherHeavy cX4_gatherHeavy 7 none, Cond.fieldLink RX4 136 "MajorityIndex$Votes" "number" "[I", Cond.fieldLink RX4 133 "MajorityIndex$Votes" "value" "[I", Cond.methodLink RX4 113 yX0_oftenIn, Cond.instanceMethod yX0_oftenIn, Cond.selects RX0 yX0_oftenIn yX0_oftenIn, Cond.code yX0_oftenIn cX0_oftenIn 6 (some .int), Cond.fieldLink RX0 9 "MajorityIndex$Row" "cell" "[I", Cond.methodLink RX4 262 yX3_keepHeavy, Cond.instanceMethod yX3_keepHeavy, Cond.selects RX3 yX3_keepHeavy yX3_keepHeavy, Cond.code yX3_keepHeavy cX3_keepHeavy 6 none, Cond.static yX4_isHeavy, Cond.code yX4_isHeavy cX4_isHeavy 4 (some .boolean)]
def wsX4_failed : List Cond := .code yX4_failed cX4_failed 7 (some .int) :: ((wsX4_failed_r1 ++ (wsX4_failed_r2 ++ (wsX4_failed_r3 ++ (wsX4_failed_r4 ++ (wsX4_failed_r5 ++ wsX4_failed_r6))))) ++ wsX40 ++ wsX30 ++ wsX00 ++ wsX20)
theorem mi_wsX4_node_wsX4_node_r1 : ∀ w ∈ wsX4_node_r1, w ∈ wsX4_node := fun _ h => (List.mem_cons_of_mem _ (List.mem_append_left _ (List.mem_append_left _ (List.mem_append_left _ (List.mem_append_left _ (List.mem_append_left _ h))))))
theorem mi_wsX4_node_wsX00 : ∀ w ∈ wsX00, w ∈ wsX4_node := fun _ h => (List.mem_cons_of_mem _ (List.mem_append_left _ (List.mem_append_right _ h)))
set_option maxRecDepth 20000 in
theorem ggX4_node_X0_hasRange : GoodIn wsX4_node wsX0_hasRange := goodIn_m _ [(wsX4_node_r1, [false, false, false, false, false, false, true, true]), (wsX00, [true, true])] (gm_c mi_wsX4_node_wsX4_node_r1 (gm_c mi_wsX4_node_wsX00 gm_n)) rfl (by decide +kernel)
set_option maxRecDepth 20000 in
theorem gX4_node_X0_hasRange : GoodIn wsX4_node (wsV RX4 79 RX0 yX0_hasRange wsX0_hasRange) := goodIn_app (goodIn_m _ [(wsX4_node_r1, [false, false, true, true, true, true])] (gm_c mi_wsX4_node_wsX4_node_r1 gm_n) rfl (by decide +kernel)) ggX4_node_X0_hasRange
theorem mi_wsX4_node_wsX4_node_r2 : ∀ w ∈ wsX4_node_r2, w ∈ wsX4_node := fun _ h => (List.mem_cons_of_mem _ (List.mem_append_left _ (List.mem_append_left _ (List.mem_append_left _ (List.mem_append_left _ (List.mem_append_right _ (List.mem_append_left _ h)))))))
theorem mi_wsX4_node_wsX4_node_r3 : ∀ w ∈ wsX4_node_r3, w ∈ wsX4_node := fun _ h => (List.mem_cons_of_mem _ (List.mem_append_left _ (List.mem_append_left _ (List.mem_append_left _ (List.mem_append_left _ (List.mem_append_right _ (List.mem_append_right _ (List.mem_append_left _ h))))))))
theorem mi_wsX4_node_wsX4_node_r4 : ∀ w ∈ wsX4_node_r4, w ∈ wsX4_node := fun _ h => (List.mem_cons_of_mem _ (List.mem_append_left _ (List.mem_append_left _ (List.mem_append_left _ (List.mem_append_left _ (List.mem_append_right _ (List.mem_append_right _ (List.mem_append_right _ (List.mem_append_left _ h)))))))))
theorem mi_wsX4_node_wsX4_node_r5 : ∀ w ∈ wsX4_node_r5, w ∈ wsX4_node := fun _ h => (List.mem_cons_of_mem _ (List.mem_append_left _ (List.mem_append_left _ (List.mem_append_left _ (List.mem_append_left _ (List.mem_append_right _ (List.mem_append_right _ (List.mem_append_right _ (List.mem_append_right _ h)))))))))
theorem mi_wsX4_node_wsX40 : ∀ w ∈ wsX40, w ∈ wsX4_node := fun _ h => (List.mem_cons_of_mem _ (List.mem_append_left _ (List.mem_append_left _ (List.mem_append_left _ (List.mem_append_right _ h)))))
theorem mi_wsX4_node_wsX20 : ∀ w ∈ wsX20, w ∈ wsX4_node := fun _ h => (List.mem_cons_of_mem _ (List.mem_append_left _ (List.mem_append_left _ (List.mem_append_right _ h))))
theorem mi_wsX4_node_wsX30 : ∀ w ∈ wsX30, w ∈ wsX4_node := fun _ h => (List.mem_cons_of_mem _ (List.mem_append_right _ h))
set_option maxRecDepth 20000 in
theorem ggX4_node_X4_laidTree : GoodIn wsX4_node wsX4_laidTree := goodIn_m _ [(wsX4_node_r1, [false, false, false, false, false, false, false, false, false, false, false, false, true, true, true, true, true]), (wsX4_node_r1, [true, false, false, false, false, false, false, false, false, false, false, false, false, false, false, false, false, true, true, true, true, true, true, true]), (wsX4_node_r2, [true, true, true, true, true, true, true, true, true, true, true, true, true, true, true, true, true, true, true, true, true, true, true, true]), (wsX4_node_r3, [true, true, true, true, true, true, true, true, true, true, true, true, true, true, true, true, true, true, true, true, true, true, true, true]), (wsX4_node_r4, [true, true, true, true, true, true, true, true, true, true, true, true, true, true, true, true, true, true, true, true, true, true, true, true]), (wsX4_node_r5, [true, true, true, true, true, true, true]), (wsX40, [true, true, true, true, true, true, true, true, true]), (wsX20, [true, true, true, true, true, true, true, true, true, true, true]), (wsX00, [true, true]), (wsX30, [true, true, true, true, true])] (gm_c mi_wsX4_node_wsX4_node_r1 (gm_c mi_wsX4_node_wsX4_node_r1 (gm_c mi_wsX4_node_wsX4_node_r2 (gm_c mi_wsX4_node_wsX4_node_r3 (gm_c mi_wsX4_node_wsX4_node_r4 (gm_c mi_wsX4_node_wsX4_node_r5 (gm_c mi_wsX4_node_wsX40 (gm_c mi_wsX4_node_wsX20 (gm_c mi_wsX4_node_wsX00 (gm_c mi_wsX4_node_wsX30 gm_n)))))))))) rfl (by decide +kernel)
set_option maxRecDepth 20000 in
theorem gX4_node_X4_laidTree : GoodIn wsX4_node (wsV RX4 71 RX4 yX4_laidTree wsX4_laidTree) := goodIn_app (goodIn_m _ [(wsX4_node_r1, [false, false, false, false, false, false, false, false, true, true, true, true])] (gm_c mi_wsX4_node_wsX4_node_r1 gm_n) rfl (by decide +kernel)) ggX4_node_X4_laidTree
set_option maxRecDepth 20000 in
theorem ggX4_node_X2_find : GoodIn wsX4_node wsX2_find := goodIn_m _ [(wsX4_node_r5, [false, false, false, false, false, false, false, false, false, false, true]), (wsX4_node_r2, [false, true, true, true]), (wsX20, [true, true, true, true, true, true, true, true, true, true, true])] (gm_c mi_wsX4_node_wsX4_node_r5 (gm_c mi_wsX4_node_wsX4_node_r2 (gm_c mi_wsX4_node_wsX20 gm_n))) rfl (by decide +kernel)
set_option maxRecDepth 20000 in
theorem gX4_node_X2_find : GoodIn wsX4_node (wsV RX4 123 RX2 yX2_find wsX2_find) := goodIn_app (goodIn_m _ [(wsX4_node_r5, [false, false, false, false, false, false, false, true, true, true]), (wsX4_node_r1, [false, false, false, false, false, false, false, false, false, false, false, false, false, false, false, false, false, false, false, false, false, true])] (gm_c mi_wsX4_node_wsX4_node_r5 (gm_c mi_wsX4_node_wsX4_node_r1 gm_n)) rfl (by decide +kernel)) ggX4_node_X2_find
def dt_cX4_node_0 : List (Nat × Nat × Nat × Nat) := [(0, 42, 0, 0), (1, 180, 2, 12), (4, 27, 0, 0), (5, 28, 0, 0), (6, 182, 2, 79), (9, 154, 2, 5), (12, 2, 0, 0), (13, 172, 0, 0), (14, 42, 0, 0), (15, 182, 2, 71), (18, 78, 0, 0), (19, 45, 0, 0), (20, 27, 0, 0), (21, 28, 0, 0), (22, 182, 2, 123), (25, 54, 1, 4), (27, 21, 1, 4), (29, 2, 0, 0), (30, 160, 2, 8), (33, 16, 1, 254)]
theorem da_cX4_node_0 : fw dt_cX4_node_0 0 cX4_node.data.toList = true := by decide +kernel
theorem dX4_node_0 : decode cX4_node 0 = .ok (.aload_n 0, 1) := fo_42 (fw_get da_cX4_node_0 0 rfl)
theorem dX4_node_1 : decode cX4_node 1 = .ok (.getfield 12, 3) := fo_180 (fw_get da_cX4_node_0 1 rfl)
theorem dX4_node_4 : decode cX4_node 4 = .ok (.iload_n 1, 1) := fo_27 (fw_get da_cX4_node_0 2 rfl)
theorem dX4_node_5 : decode cX4_node 5 = .ok (.iload_n 2, 1) := fo_28 (fw_get da_cX4_node_0 3 rfl)
theorem dX4_node_6 : decode cX4_node 6 = .ok (.invokevirtual 79, 3) := fo_182 (fw_get da_cX4_node_0 4 rfl)
theorem dX4_node_9 : decode cX4_node 9 = .ok (.ifCond .ne 5, 3) := fo_154 (fw_get da_cX4_node_0 5 rfl) (by decide +kernel)
theorem dX4_node_12 : decode cX4_node 12 = .ok (.iconst (-1), 1) := fo_2 (fw_get da_cX4_node_0 6 rfl)
theorem dX4_node_13 : decode cX4_node 13 = .ok (.ireturn, 1) := fo_172 (fw_get da_cX4_node_0 7 rfl)
theorem dX4_node_14 : decode cX4_node 14 = .ok (.aload_n 0, 1) := fo_42 (fw_get da_cX4_node_0 8 rfl)
theorem dX4_node_15 : decode cX4_node 15 = .ok (.invokevirtual 71, 3) := fo_182 (fw_get da_cX4_node_0 9 rfl)
theorem dX4_node_18 : decode cX4_node 18 = .ok (.astore_n 3, 1) := fo_78 (fw_get da_cX4_node_0 10 rfl)
theorem dX4_node_19 : decode cX4_node 19 = .ok (.aload_n 3, 1) := fo_45 (fw_get da_cX4_node_0 11 rfl)
theorem dX4_node_20 : decode cX4_node 20 = .ok (.iload_n 1, 1) := fo_27 (fw_get da_cX4_node_0 12 rfl)
theorem dX4_node_21 : decode cX4_node 21 = .ok (.iload_n 2, 1) := fo_28 (fw_get da_cX4_node_0 13 rfl)
theorem dX4_node_22 : decode cX4_node 22 = .ok (.invokevirtual 123, 3) := fo_182 (fw_get da_cX4_node_0 14 rfl)
theorem dX4_node_25 : decode cX4_node 25 = .ok (.istore 4, 2) := fo_54 (fw_get da_cX4_node_0 15 rfl)
theorem dX4_node_27 : decode cX4_node 27 = .ok (.iload 4, 2) := fo_21 (fw_get da_cX4_node_0 16 rfl)
theorem dX4_node_29 : decode cX4_node 29 = .ok (.iconst (-1), 1) := fo_2 (fw_get da_cX4_node_0 17 rfl)
theorem dX4_node_30 : decode cX4_node 30 = .ok (.if_icmp .ne 8, 3) := fo_160 (fw_get da_cX4_node_0 18 rfl) (by decide +kernel)
theorem dX4_node_33 : decode cX4_node 33 = .ok (.bipush (-2), 2) := fo_16 (fw_get da_cX4_node_0 19 rfl) (by decide +kernel)
def dt_cX4_node_1 : List (Nat × Nat × Nat × Nat) := [(35, 167, 2, 10), (38, 45, 0, 0), (39, 180, 2, 126), (42, 21, 1, 4), (44, 46, 0, 0), (45, 172, 0, 0)]
theorem da_cX4_node_1 : fw dt_cX4_node_1 0 cX4_node.data.toList = true := by decide +kernel
theorem dX4_node_35 : decode cX4_node 35 = .ok (.goto 10, 3) := fo_167 (fw_get da_cX4_node_1 0 rfl) (by decide +kernel)
theorem dX4_node_38 : decode cX4_node 38 = .ok (.aload_n 3, 1) := fo_45 (fw_get da_cX4_node_1 1 rfl)
theorem dX4_node_39 : decode cX4_node 39 = .ok (.getfield 126, 3) := fo_180 (fw_get da_cX4_node_1 2 rfl)
theorem dX4_node_42 : decode cX4_node 42 = .ok (.iload 4, 2) := fo_21 (fw_get da_cX4_node_1 3 rfl)
theorem dX4_node_44 : decode cX4_node 44 = .ok (.iaload, 1) := fo_46 (fw_get da_cX4_node_1 4 rfl)
theorem dX4_node_45 : decode cX4_node 45 = .ok (.ireturn, 1) := fo_172 (fw_get da_cX4_node_1 5 rfl)
theorem mi_wsX4_loss_wsX4_loss_r1 : ∀ w ∈ wsX4_loss_r1, w ∈ wsX4_loss := fun _ h => (List.mem_cons_of_mem _ (List.mem_append_left _ (List.mem_append_left _ (List.mem_append_left _ (List.mem_append_left _ (List.mem_append_left _ h))))))
theorem mi_wsX4_loss_wsX00 : ∀ w ∈ wsX00, w ∈ wsX4_loss := fun _ h => (List.mem_cons_of_mem _ (List.mem_append_left _ (List.mem_append_right _ h)))
set_option maxRecDepth 20000 in
theorem ggX4_loss_X0_hasRange : GoodIn wsX4_loss wsX0_hasRange := goodIn_m _ [(wsX4_loss_r1, [false, false, false, false, false, false, true, true]), (wsX00, [true, true])] (gm_c mi_wsX4_loss_wsX4_loss_r1 (gm_c mi_wsX4_loss_wsX00 gm_n)) rfl (by decide +kernel)
set_option maxRecDepth 20000 in
theorem gX4_loss_X0_hasRange : GoodIn wsX4_loss (wsV RX4 79 RX0 yX0_hasRange wsX0_hasRange) := goodIn_app (goodIn_m _ [(wsX4_loss_r1, [false, false, true, true, true, true])] (gm_c mi_wsX4_loss_wsX4_loss_r1 gm_n) rfl (by decide +kernel)) ggX4_loss_X0_hasRange
theorem mi_wsX4_loss_wsX4_loss_r2 : ∀ w ∈ wsX4_loss_r2, w ∈ wsX4_loss := fun _ h => (List.mem_cons_of_mem _ (List.mem_append_left _ (List.mem_append_left _ (List.mem_append_left _ (List.mem_append_left _ (List.mem_append_right _ (List.mem_append_left _ h)))))))
theorem mi_wsX4_loss_wsX4_loss_r3 : ∀ w ∈ wsX4_loss_r3, w ∈ wsX4_loss := fun _ h => (List.mem_cons_of_mem _ (List.mem_append_left _ (List.mem_append_left _ (List.mem_append_left _ (List.mem_append_left _ (List.mem_append_right _ (List.mem_append_right _ (List.mem_append_left _ h))))))))
theorem mi_wsX4_loss_wsX4_loss_r4 : ∀ w ∈ wsX4_loss_r4, w ∈ wsX4_loss := fun _ h => (List.mem_cons_of_mem _ (List.mem_append_left _ (List.mem_append_left _ (List.mem_append_left _ (List.mem_append_left _ (List.mem_append_right _ (List.mem_append_right _ (List.mem_append_right _ (List.mem_append_left _ h)))))))))
theorem mi_wsX4_loss_wsX4_loss_r5 : ∀ w ∈ wsX4_loss_r5, w ∈ wsX4_loss := fun _ h => (List.mem_cons_of_mem _ (List.mem_append_left _ (List.mem_append_left _ (List.mem_append_left _ (List.mem_append_left _ (List.mem_append_right _ (List.mem_append_right _ (List.mem_append_right _ (List.mem_append_right _ h)))))))))
theorem mi_wsX4_loss_wsX40 : ∀ w ∈ wsX40, w ∈ wsX4_loss := fun _ h => (List.mem_cons_of_mem _ (List.mem_append_left _ (List.mem_append_left _ (List.mem_append_left _ (List.mem_append_right _ h)))))
theorem mi_wsX4_loss_wsX20 : ∀ w ∈ wsX20, w ∈ wsX4_loss := fun _ h => (List.mem_cons_of_mem _ (List.mem_append_left _ (List.mem_append_left _ (List.mem_append_right _ h))))
theorem mi_wsX4_loss_wsX30 : ∀ w ∈ wsX30, w ∈ wsX4_loss := fun _ h => (List.mem_cons_of_mem _ (List.mem_append_right _ h))
set_option maxRecDepth 20000 in
theorem ggX4_loss_X4_laidTree : GoodIn wsX4_loss wsX4_laidTree := goodIn_m _ [(wsX4_loss_r1, [false, false, false, false, false, false, false, false, false, false, false, false, true, true, true, true, true]), (wsX4_loss_r1, [true, false, false, false, false, false, false, false, false, false, false, false, false, false, false, false, false, true, true, true, true, true, true, true]), (wsX4_loss_r2, [true, true, true, true, true, true, true, true, true, true, true, true, true, true, true, true, true, true, true, true, true, true, true, true]), (wsX4_loss_r3, [true, true, true, true, true, true, true, true, true, true, true, true, true, true, true, true, true, true, true, true, true, true, true, true]), (wsX4_loss_r4, [true, true, true, true, true, true, true, true, true, true, true, true, true, true, true, true, true, true, true, true, true, true, true, true]), (wsX4_loss_r5, [true, true, true, true, true, true, true]), (wsX40, [true, true, true, true, true, true, true, true, true]), (wsX20, [true, true, true, true, true, true, true, true, true, true, true]), (wsX00, [true, true]), (wsX30, [true, true, true, true, true])] (gm_c mi_wsX4_loss_wsX4_loss_r1 (gm_c mi_wsX4_loss_wsX4_loss_r1 (gm_c mi_wsX4_loss_wsX4_loss_r2 (gm_c mi_wsX4_loss_wsX4_loss_r3 (gm_c mi_wsX4_loss_wsX4_loss_r4 (gm_c mi_wsX4_loss_wsX4_loss_r5 (gm_c mi_wsX4_loss_wsX40 (gm_c mi_wsX4_loss_wsX20 (gm_c mi_wsX4_loss_wsX00 (gm_c mi_wsX4_loss_wsX30 gm_n)))))))))) rfl (by decide +kernel)
set_option maxRecDepth 20000 in
theorem gX4_loss_X4_laidTree : GoodIn wsX4_loss (wsV RX4 71 RX4 yX4_laidTree wsX4_laidTree) := goodIn_app (goodIn_m _ [(wsX4_loss_r1, [false, false, false, false, false, false, false, false, true, true, true, true])] (gm_c mi_wsX4_loss_wsX4_loss_r1 gm_n) rfl (by decide +kernel)) ggX4_loss_X4_laidTree
set_option maxRecDepth 20000 in
theorem ggX4_loss_X2_find : GoodIn wsX4_loss wsX2_find := goodIn_m _ [(wsX4_loss_r5, [false, false, false, false, false, false, false, false, false, false, true]), (wsX4_loss_r2, [false, true, true, true]), (wsX20, [true, true, true, true, true, true, true, true, true, true, true])] (gm_c mi_wsX4_loss_wsX4_loss_r5 (gm_c mi_wsX4_loss_wsX4_loss_r2 (gm_c mi_wsX4_loss_wsX20 gm_n))) rfl (by decide +kernel)
set_option maxRecDepth 20000 in
theorem gX4_loss_X2_find : GoodIn wsX4_loss (wsV RX4 123 RX2 yX2_find wsX2_find) := goodIn_app (goodIn_m _ [(wsX4_loss_r5, [false, false, false, false, false, false, false, true, true, true]), (wsX4_loss_r1, [false, false, false, false, false, false, false, false, false, false, false, false, false, false, false, false, false, false, false, false, false, true])] (gm_c mi_wsX4_loss_wsX4_loss_r5 (gm_c mi_wsX4_loss_wsX4_loss_r1 gm_n)) rfl (by decide +kernel)) ggX4_loss_X2_find
def dt_cX4_loss_0 : List (Nat × Nat × Nat × Nat) := [(0, 42, 0, 0), (1, 180, 2, 12), (4, 27, 0, 0), (5, 28, 0, 0), (6, 182, 2, 79), (9, 154, 2, 5), (12, 2, 0, 0), (13, 172, 0, 0), (14, 42, 0, 0), (15, 182, 2, 71), (18, 78, 0, 0), (19, 45, 0, 0), (20, 27, 0, 0), (21, 28, 0, 0), (22, 182, 2, 123), (25, 54, 1, 4), (27, 21, 1, 4), (29, 2, 0, 0), (30, 160, 2, 8), (33, 16, 1, 254)]
theorem da_cX4_loss_0 : fw dt_cX4_loss_0 0 cX4_loss.data.toList = true := by decide +kernel
theorem dX4_loss_0 : decode cX4_loss 0 = .ok (.aload_n 0, 1) := fo_42 (fw_get da_cX4_loss_0 0 rfl)
theorem dX4_loss_1 : decode cX4_loss 1 = .ok (.getfield 12, 3) := fo_180 (fw_get da_cX4_loss_0 1 rfl)
theorem dX4_loss_4 : decode cX4_loss 4 = .ok (.iload_n 1, 1) := fo_27 (fw_get da_cX4_loss_0 2 rfl)
theorem dX4_loss_5 : decode cX4_loss 5 = .ok (.iload_n 2, 1) := fo_28 (fw_get da_cX4_loss_0 3 rfl)
theorem dX4_loss_6 : decode cX4_loss 6 = .ok (.invokevirtual 79, 3) := fo_182 (fw_get da_cX4_loss_0 4 rfl)
theorem dX4_loss_9 : decode cX4_loss 9 = .ok (.ifCond .ne 5, 3) := fo_154 (fw_get da_cX4_loss_0 5 rfl) (by decide +kernel)
theorem dX4_loss_12 : decode cX4_loss 12 = .ok (.iconst (-1), 1) := fo_2 (fw_get da_cX4_loss_0 6 rfl)
theorem dX4_loss_13 : decode cX4_loss 13 = .ok (.ireturn, 1) := fo_172 (fw_get da_cX4_loss_0 7 rfl)
theorem dX4_loss_14 : decode cX4_loss 14 = .ok (.aload_n 0, 1) := fo_42 (fw_get da_cX4_loss_0 8 rfl)
theorem dX4_loss_15 : decode cX4_loss 15 = .ok (.invokevirtual 71, 3) := fo_182 (fw_get da_cX4_loss_0 9 rfl)
theorem dX4_loss_18 : decode cX4_loss 18 = .ok (.astore_n 3, 1) := fo_78 (fw_get da_cX4_loss_0 10 rfl)
theorem dX4_loss_19 : decode cX4_loss 19 = .ok (.aload_n 3, 1) := fo_45 (fw_get da_cX4_loss_0 11 rfl)
theorem dX4_loss_20 : decode cX4_loss 20 = .ok (.iload_n 1, 1) := fo_27 (fw_get da_cX4_loss_0 12 rfl)
theorem dX4_loss_21 : decode cX4_loss 21 = .ok (.iload_n 2, 1) := fo_28 (fw_get da_cX4_loss_0 13 rfl)
theorem dX4_loss_22 : decode cX4_loss 22 = .ok (.invokevirtual 123, 3) := fo_182 (fw_get da_cX4_loss_0 14 rfl)
theorem dX4_loss_25 : decode cX4_loss 25 = .ok (.istore 4, 2) := fo_54 (fw_get da_cX4_loss_0 15 rfl)
theorem dX4_loss_27 : decode cX4_loss 27 = .ok (.iload 4, 2) := fo_21 (fw_get da_cX4_loss_0 16 rfl)
theorem dX4_loss_29 : decode cX4_loss 29 = .ok (.iconst (-1), 1) := fo_2 (fw_get da_cX4_loss_0 17 rfl)
theorem dX4_loss_30 : decode cX4_loss 30 = .ok (.if_icmp .ne 8, 3) := fo_160 (fw_get da_cX4_loss_0 18 rfl) (by decide +kernel)
theorem dX4_loss_33 : decode cX4_loss 33 = .ok (.bipush (-2), 2) := fo_16 (fw_get da_cX4_loss_0 19 rfl) (by decide +kernel)
def dt_cX4_loss_1 : List (Nat × Nat × Nat × Nat) := [(35, 167, 2, 10), (38, 45, 0, 0), (39, 180, 2, 139), (42, 21, 1, 4), (44, 46, 0, 0), (45, 172, 0, 0)]
theorem da_cX4_loss_1 : fw dt_cX4_loss_1 0 cX4_loss.data.toList = true := by decide +kernel
theorem dX4_loss_35 : decode cX4_loss 35 = .ok (.goto 10, 3) := fo_167 (fw_get da_cX4_loss_1 0 rfl) (by decide +kernel)
theorem dX4_loss_38 : decode cX4_loss 38 = .ok (.aload_n 3, 1) := fo_45 (fw_get da_cX4_loss_1 1 rfl)
theorem dX4_loss_39 : decode cX4_loss 39 = .ok (.getfield 139, 3) := fo_180 (fw_get da_cX4_loss_1 2 rfl)
theorem dX4_loss_42 : decode cX4_loss 42 = .ok (.iload 4, 2) := fo_21 (fw_get da_cX4_loss_1 3 rfl)
theorem dX4_loss_44 : decode cX4_loss 44 = .ok (.iaload, 1) := fo_46 (fw_get da_cX4_loss_1 4 rfl)
theorem dX4_loss_45 : decode cX4_loss 45 = .ok (.ireturn, 1) := fo_172 (fw_get da_cX4_loss_1 5 rfl)
theorem mi_wsX4_cancelled_wsX4_cancelled_r1 : ∀ w ∈ wsX4_cancelled_r1, w ∈ wsX4_cancelled := fun _ h => (List.mem_cons_of_mem _ (List.mem_append_left _ (List.mem_append_left _ (List.mem_append_left _ (List.mem_append_left _ (List.mem_append_left _ h))))))
theorem mi_wsX4_cancelled_wsX00 : ∀ w ∈ wsX00, w ∈ wsX4_cancelled := fun _ h => (List.mem_cons_of_mem _ (List.mem_append_left _ (List.mem_append_right _ h)))
set_option maxRecDepth 20000 in
theorem ggX4_cancelled_X0_hasRange : GoodIn wsX4_cancelled wsX0_hasRange := goodIn_m _ [(wsX4_cancelled_r1, [false, false, false, false, false, false, true, true]), (wsX00, [true, true])] (gm_c mi_wsX4_cancelled_wsX4_cancelled_r1 (gm_c mi_wsX4_cancelled_wsX00 gm_n)) rfl (by decide +kernel)
set_option maxRecDepth 20000 in
theorem gX4_cancelled_X0_hasRange : GoodIn wsX4_cancelled (wsV RX4 79 RX0 yX0_hasRange wsX0_hasRange) := goodIn_app (goodIn_m _ [(wsX4_cancelled_r1, [false, false, true, true, true, true])] (gm_c mi_wsX4_cancelled_wsX4_cancelled_r1 gm_n) rfl (by decide +kernel)) ggX4_cancelled_X0_hasRange
theorem mi_wsX4_cancelled_wsX4_cancelled_r2 : ∀ w ∈ wsX4_cancelled_r2, w ∈ wsX4_cancelled := fun _ h => (List.mem_cons_of_mem _ (List.mem_append_left _ (List.mem_append_left _ (List.mem_append_left _ (List.mem_append_left _ (List.mem_append_right _ (List.mem_append_left _ h)))))))
theorem mi_wsX4_cancelled_wsX4_cancelled_r3 : ∀ w ∈ wsX4_cancelled_r3, w ∈ wsX4_cancelled := fun _ h => (List.mem_cons_of_mem _ (List.mem_append_left _ (List.mem_append_left _ (List.mem_append_left _ (List.mem_append_left _ (List.mem_append_right _ (List.mem_append_right _ (List.mem_append_left _ h))))))))
theorem mi_wsX4_cancelled_wsX4_cancelled_r4 : ∀ w ∈ wsX4_cancelled_r4, w ∈ wsX4_cancelled := fun _ h => (List.mem_cons_of_mem _ (List.mem_append_left _ (List.mem_append_left _ (List.mem_append_left _ (List.mem_append_left _ (List.mem_append_right _ (List.mem_append_right _ (List.mem_append_right _ (List.mem_append_left _ h)))))))))
theorem mi_wsX4_cancelled_wsX4_cancelled_r5 : ∀ w ∈ wsX4_cancelled_r5, w ∈ wsX4_cancelled := fun _ h => (List.mem_cons_of_mem _ (List.mem_append_left _ (List.mem_append_left _ (List.mem_append_left _ (List.mem_append_left _ (List.mem_append_right _ (List.mem_append_right _ (List.mem_append_right _ (List.mem_append_right _ h)))))))))
theorem mi_wsX4_cancelled_wsX40 : ∀ w ∈ wsX40, w ∈ wsX4_cancelled := fun _ h => (List.mem_cons_of_mem _ (List.mem_append_left _ (List.mem_append_left _ (List.mem_append_left _ (List.mem_append_right _ h)))))
theorem mi_wsX4_cancelled_wsX20 : ∀ w ∈ wsX20, w ∈ wsX4_cancelled := fun _ h => (List.mem_cons_of_mem _ (List.mem_append_left _ (List.mem_append_left _ (List.mem_append_right _ h))))
theorem mi_wsX4_cancelled_wsX30 : ∀ w ∈ wsX30, w ∈ wsX4_cancelled := fun _ h => (List.mem_cons_of_mem _ (List.mem_append_right _ h))
set_option maxRecDepth 20000 in
theorem ggX4_cancelled_X4_laidTree : GoodIn wsX4_cancelled wsX4_laidTree := goodIn_m _ [(wsX4_cancelled_r1, [false, false, false, false, false, false, false, false, false, false, false, false, true, true, true, true, true]), (wsX4_cancelled_r1, [true, false, false, false, false, false, false, false, false, false, false, false, false, false, false, false, false, true, true, true, true, true, true, true]), (wsX4_cancelled_r2, [true, true, true, true, true, true, true, true, true, true, true, true, true, true, true, true, true, true, true, true, true, true, true, true]), (wsX4_cancelled_r3, [true, true, true, true, true, true, true, true, true, true, true, true, true, true, true, true, true, true, true, true, true, true, true, true]), (wsX4_cancelled_r4, [true, true, true, true, true, true, true, true, true, true, true, true, true, true, true, true, true, true, true, true, true, true, true, true]), (wsX4_cancelled_r5, [true, true, true, true, true, true, true]), (wsX40, [true, true, true, true, true, true, true, true, true]), (wsX20, [true, true, true, true, true, true, true, true, true, true, true]), (wsX00, [true, true]), (wsX30, [true, true, true, true, true])] (gm_c mi_wsX4_cancelled_wsX4_cancelled_r1 (gm_c mi_wsX4_cancelled_wsX4_cancelled_r1 (gm_c mi_wsX4_cancelled_wsX4_cancelled_r2 (gm_c mi_wsX4_cancelled_wsX4_cancelled_r3 (gm_c mi_wsX4_cancelled_wsX4_cancelled_r4 (gm_c mi_wsX4_cancelled_wsX4_cancelled_r5 (gm_c mi_wsX4_cancelled_wsX40 (gm_c mi_wsX4_cancelled_wsX20 (gm_c mi_wsX4_cancelled_wsX00 (gm_c mi_wsX4_cancelled_wsX30 gm_n)))))))))) rfl (by decide +kernel)
set_option maxRecDepth 20000 in
theorem gX4_cancelled_X4_laidTree : GoodIn wsX4_cancelled (wsV RX4 71 RX4 yX4_laidTree wsX4_laidTree) := goodIn_app (goodIn_m _ [(wsX4_cancelled_r1, [false, false, false, false, false, false, false, false, true, true, true, true])] (gm_c mi_wsX4_cancelled_wsX4_cancelled_r1 gm_n) rfl (by decide +kernel)) ggX4_cancelled_X4_laidTree
set_option maxRecDepth 20000 in
theorem ggX4_cancelled_X2_find : GoodIn wsX4_cancelled wsX2_find := goodIn_m _ [(wsX4_cancelled_r5, [false, false, false, false, false, false, false, false, false, false, true]), (wsX4_cancelled_r2, [false, true, true, true]), (wsX20, [true, true, true, true, true, true, true, true, true, true, true])] (gm_c mi_wsX4_cancelled_wsX4_cancelled_r5 (gm_c mi_wsX4_cancelled_wsX4_cancelled_r2 (gm_c mi_wsX4_cancelled_wsX20 gm_n))) rfl (by decide +kernel)
set_option maxRecDepth 20000 in
theorem gX4_cancelled_X2_find : GoodIn wsX4_cancelled (wsV RX4 123 RX2 yX2_find wsX2_find) := goodIn_app (goodIn_m _ [(wsX4_cancelled_r5, [false, false, false, false, false, false, false, true, true, true]), (wsX4_cancelled_r1, [false, false, false, false, false, false, false, false, false, false, false, false, false, false, false, false, false, false, false, false, false, true])] (gm_c mi_wsX4_cancelled_wsX4_cancelled_r5 (gm_c mi_wsX4_cancelled_wsX4_cancelled_r1 gm_n)) rfl (by decide +kernel)) ggX4_cancelled_X2_find
def dt_cX4_cancelled_0 : List (Nat × Nat × Nat × Nat) := [(0, 42, 0, 0), (1, 180, 2, 12), (4, 27, 0, 0), (5, 28, 0, 0), (6, 182, 2, 79), (9, 154, 2, 5), (12, 2, 0, 0), (13, 172, 0, 0), (14, 42, 0, 0), (15, 182, 2, 71), (18, 78, 0, 0), (19, 45, 0, 0), (20, 27, 0, 0), (21, 28, 0, 0), (22, 182, 2, 123), (25, 54, 1, 4), (27, 21, 1, 4), (29, 2, 0, 0), (30, 160, 2, 8), (33, 16, 1, 254)]
theorem da_cX4_cancelled_0 : fw dt_cX4_cancelled_0 0 cX4_cancelled.data.toList = true := by decide +kernel
theorem dX4_cancelled_0 : decode cX4_cancelled 0 = .ok (.aload_n 0, 1) := fo_42 (fw_get da_cX4_cancelled_0 0 rfl)
theorem dX4_cancelled_1 : decode cX4_cancelled 1 = .ok (.getfield 12, 3) := fo_180 (fw_get da_cX4_cancelled_0 1 rfl)
theorem dX4_cancelled_4 : decode cX4_cancelled 4 = .ok (.iload_n 1, 1) := fo_27 (fw_get da_cX4_cancelled_0 2 rfl)
theorem dX4_cancelled_5 : decode cX4_cancelled 5 = .ok (.iload_n 2, 1) := fo_28 (fw_get da_cX4_cancelled_0 3 rfl)
theorem dX4_cancelled_6 : decode cX4_cancelled 6 = .ok (.invokevirtual 79, 3) := fo_182 (fw_get da_cX4_cancelled_0 4 rfl)
theorem dX4_cancelled_9 : decode cX4_cancelled 9 = .ok (.ifCond .ne 5, 3) := fo_154 (fw_get da_cX4_cancelled_0 5 rfl) (by decide +kernel)
theorem dX4_cancelled_12 : decode cX4_cancelled 12 = .ok (.iconst (-1), 1) := fo_2 (fw_get da_cX4_cancelled_0 6 rfl)
theorem dX4_cancelled_13 : decode cX4_cancelled 13 = .ok (.ireturn, 1) := fo_172 (fw_get da_cX4_cancelled_0 7 rfl)
theorem dX4_cancelled_14 : decode cX4_cancelled 14 = .ok (.aload_n 0, 1) := fo_42 (fw_get da_cX4_cancelled_0 8 rfl)
theorem dX4_cancelled_15 : decode cX4_cancelled 15 = .ok (.invokevirtual 71, 3) := fo_182 (fw_get da_cX4_cancelled_0 9 rfl)
theorem dX4_cancelled_18 : decode cX4_cancelled 18 = .ok (.astore_n 3, 1) := fo_78 (fw_get da_cX4_cancelled_0 10 rfl)
theorem dX4_cancelled_19 : decode cX4_cancelled 19 = .ok (.aload_n 3, 1) := fo_45 (fw_get da_cX4_cancelled_0 11 rfl)
theorem dX4_cancelled_20 : decode cX4_cancelled 20 = .ok (.iload_n 1, 1) := fo_27 (fw_get da_cX4_cancelled_0 12 rfl)
theorem dX4_cancelled_21 : decode cX4_cancelled 21 = .ok (.iload_n 2, 1) := fo_28 (fw_get da_cX4_cancelled_0 13 rfl)
theorem dX4_cancelled_22 : decode cX4_cancelled 22 = .ok (.invokevirtual 123, 3) := fo_182 (fw_get da_cX4_cancelled_0 14 rfl)
theorem dX4_cancelled_25 : decode cX4_cancelled 25 = .ok (.istore 4, 2) := fo_54 (fw_get da_cX4_cancelled_0 15 rfl)
theorem dX4_cancelled_27 : decode cX4_cancelled 27 = .ok (.iload 4, 2) := fo_21 (fw_get da_cX4_cancelled_0 16 rfl)
theorem dX4_cancelled_29 : decode cX4_cancelled 29 = .ok (.iconst (-1), 1) := fo_2 (fw_get da_cX4_cancelled_0 17 rfl)
theorem dX4_cancelled_30 : decode cX4_cancelled 30 = .ok (.if_icmp .ne 8, 3) := fo_160 (fw_get da_cX4_cancelled_0 18 rfl) (by decide +kernel)
theorem dX4_cancelled_33 : decode cX4_cancelled 33 = .ok (.bipush (-2), 2) := fo_16 (fw_get da_cX4_cancelled_0 19 rfl) (by decide +kernel)
def dt_cX4_cancelled_1 : List (Nat × Nat × Nat × Nat) := [(35, 167, 2, 10), (38, 45, 0, 0), (39, 180, 2, 142), (42, 21, 1, 4), (44, 46, 0, 0), (45, 172, 0, 0)]
theorem da_cX4_cancelled_1 : fw dt_cX4_cancelled_1 0 cX4_cancelled.data.toList = true := by decide +kernel
theorem dX4_cancelled_35 : decode cX4_cancelled 35 = .ok (.goto 10, 3) := fo_167 (fw_get da_cX4_cancelled_1 0 rfl) (by decide +kernel)
theorem dX4_cancelled_38 : decode cX4_cancelled 38 = .ok (.aload_n 3, 1) := fo_45 (fw_get da_cX4_cancelled_1 1 rfl)
theorem dX4_cancelled_39 : decode cX4_cancelled 39 = .ok (.getfield 142, 3) := fo_180 (fw_get da_cX4_cancelled_1 2 rfl)
theorem dX4_cancelled_42 : decode cX4_cancelled 42 = .ok (.iload 4, 2) := fo_21 (fw_get da_cX4_cancelled_1 3 rfl)
theorem dX4_cancelled_44 : decode cX4_cancelled 44 = .ok (.iaload, 1) := fo_46 (fw_get da_cX4_cancelled_1 4 rfl)
theorem dX4_cancelled_45 : decode cX4_cancelled 45 = .ok (.ireturn, 1) := fo_172 (fw_get da_cX4_cancelled_1 5 rfl)
theorem mi_wsX4_above_wsX4_above_r1 : ∀ w ∈ wsX4_above_r1, w ∈ wsX4_above := fun _ h => (List.mem_cons_of_mem _ (List.mem_append_left _ (List.mem_append_left _ (List.mem_append_left _ (List.mem_append_left _ (List.mem_append_left _ h))))))
theorem mi_wsX4_above_wsX00 : ∀ w ∈ wsX00, w ∈ wsX4_above := fun _ h => (List.mem_cons_of_mem _ (List.mem_append_left _ (List.mem_append_right _ h)))
set_option maxRecDepth 20000 in
theorem ggX4_above_X0_hasPlace : GoodIn wsX4_above wsX0_hasPlace := goodIn_m _ [(wsX4_above_r1, [false, false, false, false, false, false, false, false, true, true]), (wsX00, [true, true])] (gm_c mi_wsX4_above_wsX4_above_r1 (gm_c mi_wsX4_above_wsX00 gm_n)) rfl (by decide +kernel)
set_option maxRecDepth 20000 in
theorem gX4_above_X0_hasPlace : GoodIn wsX4_above (wsV RX4 64 RX0 yX0_hasPlace wsX0_hasPlace) := goodIn_app (goodIn_m _ [(wsX4_above_r1, [false, false, false, false, true, true, true, true])] (gm_c mi_wsX4_above_wsX4_above_r1 gm_n) rfl (by decide +kernel)) ggX4_above_X0_hasPlace
theorem mi_wsX4_above_wsX4_above_r2 : ∀ w ∈ wsX4_above_r2, w ∈ wsX4_above := fun _ h => (List.mem_cons_of_mem _ (List.mem_append_left _ (List.mem_append_left _ (List.mem_append_left _ (List.mem_append_left _ (List.mem_append_right _ (List.mem_append_left _ h)))))))
theorem mi_wsX4_above_wsX4_above_r3 : ∀ w ∈ wsX4_above_r3, w ∈ wsX4_above := fun _ h => (List.mem_cons_of_mem _ (List.mem_append_left _ (List.mem_append_left _ (List.mem_append_left _ (List.mem_append_left _ (List.mem_append_right _ (List.mem_append_right _ (List.mem_append_left _ h))))))))
theorem mi_wsX4_above_wsX4_above_r4 : ∀ w ∈ wsX4_above_r4, w ∈ wsX4_above := fun _ h => (List.mem_cons_of_mem _ (List.mem_append_left _ (List.mem_append_left _ (List.mem_append_left _ (List.mem_append_left _ (List.mem_append_right _ (List.mem_append_right _ (List.mem_append_right _ (List.mem_append_left _ h)))))))))
theorem mi_wsX4_above_wsX4_above_r5 : ∀ w ∈ wsX4_above_r5, w ∈ wsX4_above := fun _ h => (List.mem_cons_of_mem _ (List.mem_append_left _ (List.mem_append_left _ (List.mem_append_left _ (List.mem_append_left _ (List.mem_append_right _ (List.mem_append_right _ (List.mem_append_right _ (List.mem_append_right _ (List.mem_append_left _ h))))))))))
theorem mi_wsX4_above_wsX40 : ∀ w ∈ wsX40, w ∈ wsX4_above := fun _ h => (List.mem_cons_of_mem _ (List.mem_append_left _ (List.mem_append_left _ (List.mem_append_left _ (List.mem_append_right _ h)))))
theorem mi_wsX4_above_wsX20 : ∀ w ∈ wsX20, w ∈ wsX4_above := fun _ h => (List.mem_cons_of_mem _ (List.mem_append_left _ (List.mem_append_left _ (List.mem_append_right _ h))))
theorem mi_wsX4_above_wsX30 : ∀ w ∈ wsX30, w ∈ wsX4_above := fun _ h => (List.mem_cons_of_mem _ (List.mem_append_right _ h))
set_option maxRecDepth 20000 in
theorem ggX4_above_X4_laidTree : GoodIn wsX4_above wsX4_laidTree := goodIn_m _ [(wsX4_above_r1, [false, false, false, false, false, false, false, false, false, false, false, false, false, false, true, true, true, true, true]), (wsX4_above_r1, [true, false, false, false, false, false, false, false, false, false, false, false, false, false, false, false, false, false, false, true, true, true, true, true]), (wsX4_above_r2, [true, true, true, true, true, true, true, true, true, true, true, true, true, true, true, true, true, true, true, true, true, true, true, true]), (wsX4_above_r3, [true, true, true, true, true, true, true, true, true, true, true, true, true, true, true, true, true, true, true, true, true, true, true, true]), (wsX4_above_r4, [true, true, true, true, true, true, true, true, true, true, true, true, true, true, true, true, true, true, true, true, true, true, true, true]), (wsX4_above_r5, [true, true, true, true, true, true, true, true, true]), (wsX40, [true, true, true, true, true, true, true, true, true]), (wsX20, [true, true, true, true, true, true, true, true, true, true, true]), (wsX00, [true, true]), (wsX30, [true, true, true, true, true])] (gm_c mi_wsX4_above_wsX4_above_r1 (gm_c mi_wsX4_above_wsX4_above_r1 (gm_c mi_wsX4_above_wsX4_above_r2 (gm_c mi_wsX4_above_wsX4_above_r3 (gm_c mi_wsX4_above_wsX4_above_r4 (gm_c mi_wsX4_above_wsX4_above_r5 (gm_c mi_wsX4_above_wsX40 (gm_c mi_wsX4_above_wsX20 (gm_c mi_wsX4_above_wsX00 (gm_c mi_wsX4_above_wsX30 gm_n)))))))))) rfl (by decide +kernel)
set_option maxRecDepth 20000 in
theorem gX4_above_X4_laidTree : GoodIn wsX4_above (wsV RX4 71 RX4 yX4_laidTree wsX4_laidTree) := goodIn_app (goodIn_m _ [(wsX4_above_r1, [false, false, false, false, false, false, false, false, false, false, true, true, true, true])] (gm_c mi_wsX4_above_wsX4_above_r1 gm_n) rfl (by decide +kernel)) ggX4_above_X4_laidTree
set_option maxRecDepth 20000 in
theorem ggX4_above_X2_depthAt : GoodIn wsX4_above wsX2_depthAt := goodIn_m _ [(wsX4_above_r5, [false, false, false, false, false, false, false, false, false, false, false, false, true]), (wsX4_above_r2, [false, false, false, true]), (wsX4_above_r5, [false, false, false, false, false, false, false, false, false, false, false, false, false, true, true, true]), (wsX4_above_r1, [false, false, false, false, false, false, false, false, false, false, false, false, false, false, false, false, false, false, false, false, false, false, false, true]), (wsX4_above_r5, [false, false, false, false, false, false, false, false, false, false, false, false, false, false, false, false, true]), (wsX4_above_r2, [false, false, false, false, true, true]), (wsX20, [true, true, true, true, true, true, true, true, true, true, true])] (gm_c mi_wsX4_above_wsX4_above_r5 (gm_c mi_wsX4_above_wsX4_above_r2 (gm_c mi_wsX4_above_wsX4_above_r5 (gm_c mi_wsX4_above_wsX4_above_r1 (gm_c mi_wsX4_above_wsX4_above_r5 (gm_c mi_wsX4_above_wsX4_above_r2 (gm_c mi_wsX4_above_wsX20 gm_n))))))) rfl (by decide +kernel)
set_option maxRecDepth 20000 in
theorem gX4_above_X2_depthAt : GoodIn wsX4_above (wsV RX4 145 RX2 yX2_depthAt wsX2_depthAt) := goodIn_app (goodIn_m _ [(wsX4_above_r5, [false, false, false, false, false, false, false, false, false, true, true, true]), (wsX4_above_r1, [false, false, false, false, false, false, false, false, false, false, false, false, false, false, false, false, false, false, false, false, false, false, false, true])] (gm_c mi_wsX4_above_wsX4_above_r5 (gm_c mi_wsX4_above_wsX4_above_r1 gm_n)) rfl (by decide +kernel)) ggX4_above_X2_depthAt
set_option maxRecDepth 20000 in
theorem ggX4_above_X2_onPath : GoodIn wsX4_above wsX2_onPath := goodIn_m _ [(wsX4_above_r5, [false, false, false, false, false, false, false, false, false, false, false, false, false, false, false, false, false, false, false, false, true]), (wsX4_above_r2, [false, false, false, true]), (wsX4_above_r5, [false, false, false, false, false, false, false, false, false, false, false, false, false, true, true, true]), (wsX4_above_r1, [false, false, false, false, false, false, false, false, false, false, false, false, false, false, false, false, false, false, false, false, false, false, false, true]), (wsX4_above_r5, [false, false, false, false, false, false, false, false, false, false, false, false, false, false, false, false, true]), (wsX4_above_r2, [false, false, false, false, true, true]), (wsX20, [true, true, true, true, true, true, true, true, true, true, true])] (gm_c mi_wsX4_above_wsX4_above_r5 (gm_c mi_wsX4_above_wsX4_above_r2 (gm_c mi_wsX4_above_wsX4_above_r5 (gm_c mi_wsX4_above_wsX4_above_r1 (gm_c mi_wsX4_above_wsX4_above_r5 (gm_c mi_wsX4_above_wsX4_above_r2 (gm_c mi_wsX4_above_wsX20 gm_n))))))) rfl (by decide +kernel)
set_option maxRecDepth 20000 in
theorem gX4_above_X2_onPath : GoodIn wsX4_above (wsV RX4 148 RX2 yX2_onPath wsX2_onPath) := goodIn_app (goodIn_m _ [(wsX4_above_r5, [false, false, false, false, false, false, false, false, false, false, false, false, false, false, false, false, false, true, true, true]), (wsX4_above_r1, [false, false, false, false, false, false, false, false, false, false, false, false, false, false, false, false, false, false, false, false, false, false, false, true])] (gm_c mi_wsX4_above_wsX4_above_r5 (gm_c mi_wsX4_above_wsX4_above_r1 gm_n)) rfl (by decide +kernel)) ggX4_above_X2_onPath
theorem mi_wsX4_above_wsX4_above_r6 : ∀ w ∈ wsX4_above_r6, w ∈ wsX4_above := fun _ h => (List.mem_cons_of_mem _ (List.mem_append_left _ (List.mem_append_left _ (List.mem_append_left _ (List.mem_append_left _ (List.mem_append_right _ (List.mem_append_right _ (List.mem_append_right _ (List.mem_append_right _ (List.mem_append_right _ h))))))))))
set_option maxRecDepth 20000 in
theorem ggX4_above_X2_numberIn : GoodIn wsX4_above wsX2_numberIn := goodIn_m _ [(wsX4_above_r6, [true]), (wsX4_above_r3, [false, false, false, false, false, false, false, false, false, false, false, false, false, false, false, false, false, false, false, true, true, true]), (wsX20, [true, true, true, true, true, true, true, true, true, true, true])] (gm_c mi_wsX4_above_wsX4_above_r6 (gm_c mi_wsX4_above_wsX4_above_r3 (gm_c mi_wsX4_above_wsX20 gm_n))) rfl (by decide +kernel)
set_option maxRecDepth 20000 in
theorem gX4_above_X2_numberIn : GoodIn wsX4_above (wsV RX4 157 RX2 yX2_numberIn wsX2_numberIn) := goodIn_app (goodIn_m _ [(wsX4_above_r5, [false, false, false, false, false, false, false, false, false, false, false, false, false, false, false, false, false, false, false, false, false, true, true, true]), (wsX4_above_r1, [false, false, false, false, false, false, false, false, false, false, false, false, false, false, false, false, false, false, false, false, false, false, false, true])] (gm_c mi_wsX4_above_wsX4_above_r5 (gm_c mi_wsX4_above_wsX4_above_r1 gm_n)) rfl (by decide +kernel)) ggX4_above_X2_numberIn
def dt_cX4_above_0 : List (Nat × Nat × Nat × Nat) := [(0, 42, 0, 0), (1, 180, 2, 12), (4, 27, 0, 0), (5, 182, 2, 64), (8, 154, 2, 5), (11, 2, 0, 0), (12, 172, 0, 0), (13, 42, 0, 0), (14, 182, 2, 71), (17, 58, 1, 4), (19, 28, 0, 0), (20, 2, 0, 0), (21, 160, 2, 10), (24, 25, 1, 4), (26, 27, 0, 0), (27, 182, 2, 145), (30, 172, 0, 0), (31, 25, 1, 4), (33, 27, 0, 0), (34, 28, 0, 0)]
theorem da_cX4_above_0 : fw dt_cX4_above_0 0 cX4_above.data.toList = true := by decide +kernel
theorem dX4_above_0 : decode cX4_above 0 = .ok (.aload_n 0, 1) := fo_42 (fw_get da_cX4_above_0 0 rfl)
theorem dX4_above_1 : decode cX4_above 1 = .ok (.getfield 12, 3) := fo_180 (fw_get da_cX4_above_0 1 rfl)
theorem dX4_above_4 : decode cX4_above 4 = .ok (.iload_n 1, 1) := fo_27 (fw_get da_cX4_above_0 2 rfl)
theorem dX4_above_5 : decode cX4_above 5 = .ok (.invokevirtual 64, 3) := fo_182 (fw_get da_cX4_above_0 3 rfl)
theorem dX4_above_8 : decode cX4_above 8 = .ok (.ifCond .ne 5, 3) := fo_154 (fw_get da_cX4_above_0 4 rfl) (by decide +kernel)
theorem dX4_above_11 : decode cX4_above 11 = .ok (.iconst (-1), 1) := fo_2 (fw_get da_cX4_above_0 5 rfl)
theorem dX4_above_12 : decode cX4_above 12 = .ok (.ireturn, 1) := fo_172 (fw_get da_cX4_above_0 6 rfl)
theorem dX4_above_13 : decode cX4_above 13 = .ok (.aload_n 0, 1) := fo_42 (fw_get da_cX4_above_0 7 rfl)
theorem dX4_above_14 : decode cX4_above 14 = .ok (.invokevirtual 71, 3) := fo_182 (fw_get da_cX4_above_0 8 rfl)
theorem dX4_above_17 : decode cX4_above 17 = .ok (.astore 4, 2) := fo_58 (fw_get da_cX4_above_0 9 rfl)
theorem dX4_above_19 : decode cX4_above 19 = .ok (.iload_n 2, 1) := fo_28 (fw_get da_cX4_above_0 10 rfl)
theorem dX4_above_20 : decode cX4_above 20 = .ok (.iconst (-1), 1) := fo_2 (fw_get da_cX4_above_0 11 rfl)
theorem dX4_above_21 : decode cX4_above 21 = .ok (.if_icmp .ne 10, 3) := fo_160 (fw_get da_cX4_above_0 12 rfl) (by decide +kernel)
theorem dX4_above_24 : decode cX4_above 24 = .ok (.aload 4, 2) := fo_25 (fw_get da_cX4_above_0 13 rfl)
theorem dX4_above_26 : decode cX4_above 26 = .ok (.iload_n 1, 1) := fo_27 (fw_get da_cX4_above_0 14 rfl)
theorem dX4_above_27 : decode cX4_above 27 = .ok (.invokevirtual 145, 3) := fo_182 (fw_get da_cX4_above_0 15 rfl)
theorem dX4_above_30 : decode cX4_above 30 = .ok (.ireturn, 1) := fo_172 (fw_get da_cX4_above_0 16 rfl)
theorem dX4_above_31 : decode cX4_above 31 = .ok (.aload 4, 2) := fo_25 (fw_get da_cX4_above_0 17 rfl)
theorem dX4_above_33 : decode cX4_above 33 = .ok (.iload_n 1, 1) := fo_27 (fw_get da_cX4_above_0 18 rfl)
theorem dX4_above_34 : decode cX4_above 34 = .ok (.iload_n 2, 1) := fo_28 (fw_get da_cX4_above_0 19 rfl)
def dt_cX4_above_1 : List (Nat × Nat × Nat × Nat) := [(35, 182, 2, 148), (38, 54, 1, 5), (40, 21, 1, 5), (42, 2, 0, 0), (43, 160, 2, 5), (46, 2, 0, 0), (47, 172, 0, 0), (48, 29, 0, 0)]
theorem da_cX4_above_1 : fw dt_cX4_above_1 0 cX4_above.data.toList = true := by decide +kernel
theorem dX4_above_35 : decode cX4_above 35 = .ok (.invokevirtual 148, 3) := fo_182 (fw_get da_cX4_above_1 0 rfl)
theorem dX4_above_38 : decode cX4_above 38 = .ok (.istore 5, 2) := fo_54 (fw_get da_cX4_above_1 1 rfl)
theorem dX4_above_40 : decode cX4_above 40 = .ok (.iload 5, 2) := fo_21 (fw_get da_cX4_above_1 2 rfl)
theorem dX4_above_42 : decode cX4_above 42 = .ok (.iconst (-1), 1) := fo_2 (fw_get da_cX4_above_1 3 rfl)
theorem dX4_above_43 : decode cX4_above 43 = .ok (.if_icmp .ne 5, 3) := fo_160 (fw_get da_cX4_above_1 4 rfl) (by decide +kernel)
theorem dX4_above_46 : decode cX4_above 46 = .ok (.iconst (-1), 1) := fo_2 (fw_get da_cX4_above_1 5 rfl)
theorem dX4_above_47 : decode cX4_above 47 = .ok (.ireturn, 1) := fo_172 (fw_get da_cX4_above_1 6 rfl)
theorem dX4_above_48 : decode cX4_above 48 = .ok (.iload_n 3, 1) := fo_29 (fw_get da_cX4_above_1 7 rfl)
theorem dX4_above_49 : decode cX4_above 49 = .ok (.tableswitch 62 0 2 #[27, 36, 45], 27) := by decide +kernel
def dt_cX4_above_2 : List (Nat × Nat × Nat × Nat) := [(76, 25, 1, 4), (78, 180, 2, 151), (81, 21, 1, 5), (83, 46, 0, 0), (84, 172, 0, 0), (85, 25, 1, 4), (87, 180, 2, 154), (90, 21, 1, 5), (92, 46, 0, 0), (93, 172, 0, 0), (94, 25, 1, 4), (96, 21, 1, 5), (98, 42, 0, 0), (99, 180, 2, 12), (102, 180, 2, 110), (105, 27, 0, 0), (106, 46, 0, 0), (107, 182, 2, 157), (110, 172, 0, 0), (111, 2, 0, 0)]
theorem da_cX4_above_2 : fw dt_cX4_above_2 0 cX4_above.data.toList = true := by decide +kernel
theorem dX4_above_76 : decode cX4_above 76 = .ok (.aload 4, 2) := fo_25 (fw_get da_cX4_above_2 0 rfl)
theorem dX4_above_78 : decode cX4_above 78 = .ok (.getfield 151, 3) := fo_180 (fw_get da_cX4_above_2 1 rfl)
theorem dX4_above_81 : decode cX4_above 81 = .ok (.iload 5, 2) := fo_21 (fw_get da_cX4_above_2 2 rfl)
theorem dX4_above_83 : decode cX4_above 83 = .ok (.iaload, 1) := fo_46 (fw_get da_cX4_above_2 3 rfl)
theorem dX4_above_84 : decode cX4_above 84 = .ok (.ireturn, 1) := fo_172 (fw_get da_cX4_above_2 4 rfl)
theorem dX4_above_85 : decode cX4_above 85 = .ok (.aload 4, 2) := fo_25 (fw_get da_cX4_above_2 5 rfl)
theorem dX4_above_87 : decode cX4_above 87 = .ok (.getfield 154, 3) := fo_180 (fw_get da_cX4_above_2 6 rfl)
theorem dX4_above_90 : decode cX4_above 90 = .ok (.iload 5, 2) := fo_21 (fw_get da_cX4_above_2 7 rfl)
theorem dX4_above_92 : decode cX4_above 92 = .ok (.iaload, 1) := fo_46 (fw_get da_cX4_above_2 8 rfl)
theorem dX4_above_93 : decode cX4_above 93 = .ok (.ireturn, 1) := fo_172 (fw_get da_cX4_above_2 9 rfl)
theorem dX4_above_94 : decode cX4_above 94 = .ok (.aload 4, 2) := fo_25 (fw_get da_cX4_above_2 10 rfl)
theorem dX4_above_96 : decode cX4_above 96 = .ok (.iload 5, 2) := fo_21 (fw_get da_cX4_above_2 11 rfl)
theorem dX4_above_98 : decode cX4_above 98 = .ok (.aload_n 0, 1) := fo_42 (fw_get da_cX4_above_2 12 rfl)
theorem dX4_above_99 : decode cX4_above 99 = .ok (.getfield 12, 3) := fo_180 (fw_get da_cX4_above_2 13 rfl)
theorem dX4_above_102 : decode cX4_above 102 = .ok (.getfield 110, 3) := fo_180 (fw_get da_cX4_above_2 14 rfl)
theorem dX4_above_105 : decode cX4_above 105 = .ok (.iload_n 1, 1) := fo_27 (fw_get da_cX4_above_2 15 rfl)
theorem dX4_above_106 : decode cX4_above 106 = .ok (.iaload, 1) := fo_46 (fw_get da_cX4_above_2 16 rfl)
theorem dX4_above_107 : decode cX4_above 107 = .ok (.invokevirtual 157, 3) := fo_182 (fw_get da_cX4_above_2 17 rfl)
theorem dX4_above_110 : decode cX4_above 110 = .ok (.ireturn, 1) := fo_172 (fw_get da_cX4_above_2 18 rfl)
theorem dX4_above_111 : decode cX4_above 111 = .ok (.iconst (-1), 1) := fo_2 (fw_get da_cX4_above_2 19 rfl)
def dt_cX4_above_3 : List (Nat × Nat × Nat × Nat) := [(112, 172, 0, 0)]
theorem da_cX4_above_3 : fw dt_cX4_above_3 0 cX4_above.data.toList = true := by decide +kernel
theorem dX4_above_112 : decode cX4_above 112 = .ok (.ireturn, 1) := fo_172 (fw_get da_cX4_above_3 0 rfl)
theorem mi_wsX4_holds_wsX4_holds_r1 : ∀ w ∈ wsX4_holds_r1, w ∈ wsX4_holds := fun _ h => (List.mem_cons_of_mem _ (List.mem_append_left _ (List.mem_append_left _ (List.mem_append_left _ (List.mem_append_left _ (List.mem_append_left _ h))))))
theorem mi_wsX4_holds_wsX00 : ∀ w ∈ wsX00, w ∈ wsX4_holds := fun _ h => (List.mem_cons_of_mem _ (List.mem_append_left _ (List.mem_append_left _ (List.mem_append_right _ h))))
set_option maxRecDepth 20000 in
theorem ggX4_holds_X0_hasPlace : GoodIn wsX4_holds wsX0_hasPlace := goodIn_m _ [(wsX4_holds_r1, [false, false, false, false, false, true, true]), (wsX00, [true, true])] (gm_c mi_wsX4_holds_wsX4_holds_r1 (gm_c mi_wsX4_holds_wsX00 gm_n)) rfl (by decide +kernel)
set_option maxRecDepth 20000 in
theorem gX4_holds_X0_hasPlace : GoodIn wsX4_holds (wsV RX4 64 RX0 yX0_hasPlace wsX0_hasPlace) := goodIn_app (goodIn_m _ [(wsX4_holds_r1, [false, true, true, true, true])] (gm_c mi_wsX4_holds_wsX4_holds_r1 gm_n) rfl (by decide +kernel)) ggX4_holds_X0_hasPlace
theorem mi_wsX4_holds_wsX4_holds_r2 : ∀ w ∈ wsX4_holds_r2, w ∈ wsX4_holds := fun _ h => (List.mem_cons_of_mem _ (List.mem_append_left _ (List.mem_append_left _ (List.mem_append_left _ (List.mem_append_left _ (List.mem_append_right _ (List.mem_append_left _ h)))))))
theorem mi_wsX4_holds_wsX4_holds_r3 : ∀ w ∈ wsX4_holds_r3, w ∈ wsX4_holds := fun _ h => (List.mem_cons_of_mem _ (List.mem_append_left _ (List.mem_append_left _ (List.mem_append_left _ (List.mem_append_left _ (List.mem_append_right _ (List.mem_append_right _ (List.mem_append_left _ h))))))))
theorem mi_wsX4_holds_wsX4_holds_r4 : ∀ w ∈ wsX4_holds_r4, w ∈ wsX4_holds := fun _ h => (List.mem_cons_of_mem _ (List.mem_append_left _ (List.mem_append_left _ (List.mem_append_left _ (List.mem_append_left _ (List.mem_append_right _ (List.mem_append_right _ (List.mem_append_right _ (List.mem_append_left _ h)))))))))
theorem mi_wsX4_holds_wsX4_holds_r5 : ∀ w ∈ wsX4_holds_r5, w ∈ wsX4_holds := fun _ h => (List.mem_cons_of_mem _ (List.mem_append_left _ (List.mem_append_left _ (List.mem_append_left _ (List.mem_append_left _ (List.mem_append_right _ (List.mem_append_right _ (List.mem_append_right _ (List.mem_append_right _ h)))))))))
theorem mi_wsX4_holds_wsX40 : ∀ w ∈ wsX40, w ∈ wsX4_holds := fun _ h => (List.mem_cons_of_mem _ (List.mem_append_left _ (List.mem_append_left _ (List.mem_append_left _ (List.mem_append_right _ h)))))
theorem mi_wsX4_holds_wsX20 : ∀ w ∈ wsX20, w ∈ wsX4_holds := fun _ h => (List.mem_cons_of_mem _ (List.mem_append_left _ (List.mem_append_right _ h)))
theorem mi_wsX4_holds_wsX30 : ∀ w ∈ wsX30, w ∈ wsX4_holds := fun _ h => (List.mem_cons_of_mem _ (List.mem_append_right _ h))
set_option maxRecDepth 20000 in
theorem ggX4_holds_X4_laidTree : GoodIn wsX4_holds wsX4_laidTree := goodIn_m _ [(wsX4_holds_r1, [false, false, false, false, false, false, false, false, false, false, false, true, true, true, true, true]), (wsX4_holds_r1, [true, false, false, false, false, false, false, false, false, false, false, false, false, false, false, false, true, true, true, true, true, true, true, true]), (wsX4_holds_r2, [true, true, true, true, true, true, true, true, true, true, true, true, true, true, true, true, true, true, true, true, true, true, true, true]), (wsX4_holds_r3, [true, true, true, true, true, true, true, true, true, true, true, true, true, true, true, true, true, true, true, true, true, true, true, true]), (wsX4_holds_r4, [true, true, true, true, true, true, true, true, true, true, true, true, true, true, true, true, true, true, true, true, true, true, true, true]), (wsX4_holds_r5, [true, true, true, true, true, true]), (wsX40, [true, true, true, true, true, true, true, true, true]), (wsX20, [true, true, true, true, true, true, true, true, true, true, true]), (wsX00, [true, true]), (wsX30, [true, true, true, true, true])] (gm_c mi_wsX4_holds_wsX4_holds_r1 (gm_c mi_wsX4_holds_wsX4_holds_r1 (gm_c mi_wsX4_holds_wsX4_holds_r2 (gm_c mi_wsX4_holds_wsX4_holds_r3 (gm_c mi_wsX4_holds_wsX4_holds_r4 (gm_c mi_wsX4_holds_wsX4_holds_r5 (gm_c mi_wsX4_holds_wsX40 (gm_c mi_wsX4_holds_wsX20 (gm_c mi_wsX4_holds_wsX00 (gm_c mi_wsX4_holds_wsX30 gm_n)))))))))) rfl (by decide +kernel)
set_option maxRecDepth 20000 in
theorem gX4_holds_X4_laidTree : GoodIn wsX4_holds (wsV RX4 71 RX4 yX4_laidTree wsX4_laidTree) := goodIn_app (goodIn_m _ [(wsX4_holds_r1, [false, false, false, false, false, false, false, true, true, true, true])] (gm_c mi_wsX4_holds_wsX4_holds_r1 gm_n) rfl (by decide +kernel)) ggX4_holds_X4_laidTree
set_option maxRecDepth 20000 in
theorem ggX4_holds_X2_holding : GoodIn wsX4_holds wsX2_holding := goodIn_m _ [(wsX4_holds_r5, [false, false, false, false, false, false, false, false, false, true]), (wsX4_holds_r2, [true]), (wsX4_holds_r1, [false, false, false, false, false, false, false, false, false, false, false, false, false, false, false, false, false, false, false, false, false, false, true]), (wsX4_holds_r2, [false, false, false, false, false, false, false, false, false, false, false, false, false, false, false, false, false, false, false, false, true]), (wsX4_holds_r5, [false, false, false, false, false, false, false, false, false, false, true, true, true]), (wsX4_holds_r1, [false, false, false, false, false, false, false, false, false, false, false, false, false, false, false, false, false, false, false, false, true]), (wsX4_holds_r5, [false, false, false, false, false, false, false, false, false, false, false, false, false, true]), (wsX4_holds_r2, [false, true, true]), (wsX4_holds_r5, [false, false, false, false, false, false, false, false, false, false, false, false, false, false, true, true, true, true]), (wsX4_holds_r3, [false, false, false, false, false, false, false, false, false, false, false, false, false, false, false, false, true, true, true]), (wsX20, [true, true, true, true, true, true, true, true, true, true, true]), (wsX00, [true, true])] (gm_c mi_wsX4_holds_wsX4_holds_r5 (gm_c mi_wsX4_holds_wsX4_holds_r2 (gm_c mi_wsX4_holds_wsX4_holds_r1 (gm_c mi_wsX4_holds_wsX4_holds_r2 (gm_c mi_wsX4_holds_wsX4_holds_r5 (gm_c mi_wsX4_holds_wsX4_holds_r1 (gm_c mi_wsX4_holds_wsX4_holds_r5 (gm_c mi_wsX4_holds_wsX4_holds_r2 (gm_c mi_wsX4_holds_wsX4_holds_r5 (gm_c mi_wsX4_holds_wsX4_holds_r3 (gm_c mi_wsX4_holds_wsX20 (gm_c mi_wsX4_holds_wsX00 gm_n)))))))))))) rfl (by decide +kernel)
set_option maxRecDepth 20000 in
theorem gX4_holds_X2_holding : GoodIn wsX4_holds (wsV RX4 160 RX2 yX2_holding wsX2_holding) := goodIn_app (goodIn_m _ [(wsX4_holds_r5, [false, false, false, false, false, false, true, true, true]), (wsX4_holds_r1, [false, false, false, false, false, false, false, false, false, false, false, false, false, false, false, false, false, false, false, false, true])] (gm_c mi_wsX4_holds_wsX4_holds_r5 (gm_c mi_wsX4_holds_wsX4_holds_r1 gm_n)) rfl (by decide +kernel)) ggX4_holds_X2_holding
def dt_cX4_holds_0 : List (Nat × Nat × Nat × Nat) := [(0, 42, 0, 0), (1, 180, 2, 12), (4, 27, 0, 0), (5, 182, 2, 64), (8, 154, 2, 5), (11, 2, 0, 0), (12, 172, 0, 0), (13, 42, 0, 0), (14, 182, 2, 71), (17, 27, 0, 0), (18, 182, 2, 160), (21, 172, 0, 0)]
theorem da_cX4_holds_0 : fw dt_cX4_holds_0 0 cX4_holds.data.toList = true := by decide +kernel
theorem dX4_holds_0 : decode cX4_holds 0 = .ok (.aload_n 0, 1) := fo_42 (fw_get da_cX4_holds_0 0 rfl)
theorem dX4_holds_1 : decode cX4_holds 1 = .ok (.getfield 12, 3) := fo_180 (fw_get da_cX4_holds_0 1 rfl)
theorem dX4_holds_4 : decode cX4_holds 4 = .ok (.iload_n 1, 1) := fo_27 (fw_get da_cX4_holds_0 2 rfl)
theorem dX4_holds_5 : decode cX4_holds 5 = .ok (.invokevirtual 64, 3) := fo_182 (fw_get da_cX4_holds_0 3 rfl)
theorem dX4_holds_8 : decode cX4_holds 8 = .ok (.ifCond .ne 5, 3) := fo_154 (fw_get da_cX4_holds_0 4 rfl) (by decide +kernel)
theorem dX4_holds_11 : decode cX4_holds 11 = .ok (.iconst (-1), 1) := fo_2 (fw_get da_cX4_holds_0 5 rfl)
theorem dX4_holds_12 : decode cX4_holds 12 = .ok (.ireturn, 1) := fo_172 (fw_get da_cX4_holds_0 6 rfl)
theorem dX4_holds_13 : decode cX4_holds 13 = .ok (.aload_n 0, 1) := fo_42 (fw_get da_cX4_holds_0 7 rfl)
theorem dX4_holds_14 : decode cX4_holds 14 = .ok (.invokevirtual 71, 3) := fo_182 (fw_get da_cX4_holds_0 8 rfl)
theorem dX4_holds_17 : decode cX4_holds 17 = .ok (.iload_n 1, 1) := fo_27 (fw_get da_cX4_holds_0 9 rfl)
theorem dX4_holds_18 : decode cX4_holds 18 = .ok (.invokevirtual 160, 3) := fo_182 (fw_get da_cX4_holds_0 10 rfl)
theorem dX4_holds_21 : decode cX4_holds 21 = .ok (.ireturn, 1) := fo_172 (fw_get da_cX4_holds_0 11 rfl)
theorem mi_wsX4_parts_wsX4_parts_r1 : ∀ w ∈ wsX4_parts_r1, w ∈ wsX4_parts := fun _ h => (List.mem_cons_of_mem _ (List.mem_append_left _ (List.mem_append_left _ (List.mem_append_left _ (List.mem_append_left _ (List.mem_append_left _ h))))))
theorem mi_wsX4_parts_wsX00 : ∀ w ∈ wsX00, w ∈ wsX4_parts := fun _ h => (List.mem_cons_of_mem _ (List.mem_append_left _ (List.mem_append_right _ h)))
set_option maxRecDepth 20000 in
theorem ggX4_parts_X0_hasRange : GoodIn wsX4_parts wsX0_hasRange := goodIn_m _ [(wsX4_parts_r1, [false, false, false, false, false, false, false, true, true]), (wsX00, [true, true])] (gm_c mi_wsX4_parts_wsX4_parts_r1 (gm_c mi_wsX4_parts_wsX00 gm_n)) rfl (by decide +kernel)
set_option maxRecDepth 20000 in
theorem gX4_parts_X0_hasRange : GoodIn wsX4_parts (wsV RX4 79 RX0 yX0_hasRange wsX0_hasRange) := goodIn_app (goodIn_m _ [(wsX4_parts_r1, [false, false, false, true, true, true, true])] (gm_c mi_wsX4_parts_wsX4_parts_r1 gm_n) rfl (by decide +kernel)) ggX4_parts_X0_hasRange
theorem mi_wsX4_parts_wsX4_parts_r2 : ∀ w ∈ wsX4_parts_r2, w ∈ wsX4_parts := fun _ h => (List.mem_cons_of_mem _ (List.mem_append_left _ (List.mem_append_left _ (List.mem_append_left _ (List.mem_append_left _ (List.mem_append_right _ (List.mem_append_left _ h)))))))
theorem mi_wsX4_parts_wsX4_parts_r3 : ∀ w ∈ wsX4_parts_r3, w ∈ wsX4_parts := fun _ h => (List.mem_cons_of_mem _ (List.mem_append_left _ (List.mem_append_left _ (List.mem_append_left _ (List.mem_append_left _ (List.mem_append_right _ (List.mem_append_right _ (List.mem_append_left _ h))))))))
theorem mi_wsX4_parts_wsX4_parts_r4 : ∀ w ∈ wsX4_parts_r4, w ∈ wsX4_parts := fun _ h => (List.mem_cons_of_mem _ (List.mem_append_left _ (List.mem_append_left _ (List.mem_append_left _ (List.mem_append_left _ (List.mem_append_right _ (List.mem_append_right _ (List.mem_append_right _ (List.mem_append_left _ h)))))))))
theorem mi_wsX4_parts_wsX4_parts_r5 : ∀ w ∈ wsX4_parts_r5, w ∈ wsX4_parts := fun _ h => (List.mem_cons_of_mem _ (List.mem_append_left _ (List.mem_append_left _ (List.mem_append_left _ (List.mem_append_left _ (List.mem_append_right _ (List.mem_append_right _ (List.mem_append_right _ (List.mem_append_right _ h)))))))))
theorem mi_wsX4_parts_wsX40 : ∀ w ∈ wsX40, w ∈ wsX4_parts := fun _ h => (List.mem_cons_of_mem _ (List.mem_append_left _ (List.mem_append_left _ (List.mem_append_left _ (List.mem_append_right _ h)))))
theorem mi_wsX4_parts_wsX20 : ∀ w ∈ wsX20, w ∈ wsX4_parts := fun _ h => (List.mem_cons_of_mem _ (List.mem_append_left _ (List.mem_append_left _ (List.mem_append_right _ h))))
theorem mi_wsX4_parts_wsX30 : ∀ w ∈ wsX30, w ∈ wsX4_parts := fun _ h => (List.mem_cons_of_mem _ (List.mem_append_right _ h))
set_option maxRecDepth 20000 in
theorem ggX4_parts_X4_laidTree : GoodIn wsX4_parts wsX4_laidTree := goodIn_m _ [(wsX4_parts_r1, [false, false, false, false, false, false, false, false, false, false, false, false, false, true, true, true, true, true]), (wsX4_parts_r1, [true, false, false, false, false, false, false, false, false, false, false, false, false, false, false, false, false, false, true, true, true, true, true, true]), (wsX4_parts_r2, [true, true, true, true, true, true, true, true, true, true, true, true, true, true, true, true, true, true, true, true, true, true, true, true]), (wsX4_parts_r3, [true, true, true, true, true, true, true, true, true, true, true, true, true, true, true, true, true, true, true, true, true, true, true, true]), (wsX4_parts_r4, [true, true, true, true, true, true, true, true, true, true, true, true, true, true, true, true, true, true, true, true, true, true, true, true]), (wsX4_parts_r5, [true, true, true, true, true, true, true, true]), (wsX40, [true, true, true, true, true, true, true, true, true]), (wsX20, [true, true, true, true, true, true, true, true, true, true, true]), (wsX00, [true, true]), (wsX30, [true, true, true, true, true])] (gm_c mi_wsX4_parts_wsX4_parts_r1 (gm_c mi_wsX4_parts_wsX4_parts_r1 (gm_c mi_wsX4_parts_wsX4_parts_r2 (gm_c mi_wsX4_parts_wsX4_parts_r3 (gm_c mi_wsX4_parts_wsX4_parts_r4 (gm_c mi_wsX4_parts_wsX4_parts_r5 (gm_c mi_wsX4_parts_wsX40 (gm_c mi_wsX4_parts_wsX20 (gm_c mi_wsX4_parts_wsX00 (gm_c mi_wsX4_parts_wsX30 gm_n)))))))))) rfl (by decide +kernel)
set_option maxRecDepth 20000 in
theorem gX4_parts_X4_laidTree : GoodIn wsX4_parts (wsV RX4 71 RX4 yX4_laidTree wsX4_laidTree) := goodIn_app (goodIn_m _ [(wsX4_parts_r1, [false, false, false, false, false, false, false, false, false, true, true, true, true])] (gm_c mi_wsX4_parts_wsX4_parts_r1 gm_n) rfl (by decide +kernel)) ggX4_parts_X4_laidTree
set_option maxRecDepth 20000 in
theorem ggX4_parts_X2_isPart : GoodIn wsX4_parts wsX2_isPart := goodIn_m _ [(wsX4_parts_r5, [false, false, false, false, false, false, false, false, false, false, false, true]), (wsX4_parts_r2, [false, false, false, true, true]), (wsX20, [true, true, true, true, true, true, true, true, true, true, true])] (gm_c mi_wsX4_parts_wsX4_parts_r5 (gm_c mi_wsX4_parts_wsX4_parts_r2 (gm_c mi_wsX4_parts_wsX20 gm_n))) rfl (by decide +kernel)
set_option maxRecDepth 20000 in
theorem gX4_parts_X2_isPart : GoodIn wsX4_parts (wsV RX4 166 RX2 yX2_isPart wsX2_isPart) := goodIn_app (goodIn_m _ [(wsX4_parts_r5, [false, false, false, false, false, false, false, false, true, true, true]), (wsX4_parts_r1, [false, false, false, false, false, false, false, false, false, false, false, false, false, false, false, false, false, false, false, false, false, false, true])] (gm_c mi_wsX4_parts_wsX4_parts_r5 (gm_c mi_wsX4_parts_wsX4_parts_r1 gm_n)) rfl (by decide +kernel)) ggX4_parts_X2_isPart
def dt_cX4_parts_0 : List (Nat × Nat × Nat × Nat) := [(0, 42, 0, 0), (1, 180, 2, 12), (4, 27, 0, 0), (5, 28, 0, 0), (6, 182, 2, 79), (9, 154, 2, 5), (12, 2, 0, 0), (13, 172, 0, 0), (14, 42, 0, 0), (15, 182, 2, 71), (18, 78, 0, 0), (19, 3, 0, 0), (20, 54, 1, 4), (22, 27, 0, 0), (23, 54, 1, 5), (25, 3, 0, 0), (26, 54, 1, 6), (28, 21, 1, 6), (30, 45, 0, 0), (31, 180, 2, 163)]
theorem da_cX4_parts_0 : fw dt_cX4_parts_0 0 cX4_parts.data.toList = true := by decide +kernel
theorem dX4_parts_0 : decode cX4_parts 0 = .ok (.aload_n 0, 1) := fo_42 (fw_get da_cX4_parts_0 0 rfl)
theorem dX4_parts_1 : decode cX4_parts 1 = .ok (.getfield 12, 3) := fo_180 (fw_get da_cX4_parts_0 1 rfl)
theorem dX4_parts_4 : decode cX4_parts 4 = .ok (.iload_n 1, 1) := fo_27 (fw_get da_cX4_parts_0 2 rfl)
theorem dX4_parts_5 : decode cX4_parts 5 = .ok (.iload_n 2, 1) := fo_28 (fw_get da_cX4_parts_0 3 rfl)
theorem dX4_parts_6 : decode cX4_parts 6 = .ok (.invokevirtual 79, 3) := fo_182 (fw_get da_cX4_parts_0 4 rfl)
theorem dX4_parts_9 : decode cX4_parts 9 = .ok (.ifCond .ne 5, 3) := fo_154 (fw_get da_cX4_parts_0 5 rfl) (by decide +kernel)
theorem dX4_parts_12 : decode cX4_parts 12 = .ok (.iconst (-1), 1) := fo_2 (fw_get da_cX4_parts_0 6 rfl)
theorem dX4_parts_13 : decode cX4_parts 13 = .ok (.ireturn, 1) := fo_172 (fw_get da_cX4_parts_0 7 rfl)
theorem dX4_parts_14 : decode cX4_parts 14 = .ok (.aload_n 0, 1) := fo_42 (fw_get da_cX4_parts_0 8 rfl)
theorem dX4_parts_15 : decode cX4_parts 15 = .ok (.invokevirtual 71, 3) := fo_182 (fw_get da_cX4_parts_0 9 rfl)
theorem dX4_parts_18 : decode cX4_parts 18 = .ok (.astore_n 3, 1) := fo_78 (fw_get da_cX4_parts_0 10 rfl)
theorem dX4_parts_19 : decode cX4_parts 19 = .ok (.iconst 0, 1) := fo_3 (fw_get da_cX4_parts_0 11 rfl)
theorem dX4_parts_20 : decode cX4_parts 20 = .ok (.istore 4, 2) := fo_54 (fw_get da_cX4_parts_0 12 rfl)
theorem dX4_parts_22 : decode cX4_parts 22 = .ok (.iload_n 1, 1) := fo_27 (fw_get da_cX4_parts_0 13 rfl)
theorem dX4_parts_23 : decode cX4_parts 23 = .ok (.istore 5, 2) := fo_54 (fw_get da_cX4_parts_0 14 rfl)
theorem dX4_parts_25 : decode cX4_parts 25 = .ok (.iconst 0, 1) := fo_3 (fw_get da_cX4_parts_0 15 rfl)
theorem dX4_parts_26 : decode cX4_parts 26 = .ok (.istore 6, 2) := fo_54 (fw_get da_cX4_parts_0 16 rfl)
theorem dX4_parts_28 : decode cX4_parts 28 = .ok (.iload 6, 2) := fo_21 (fw_get da_cX4_parts_0 17 rfl)
theorem dX4_parts_30 : decode cX4_parts 30 = .ok (.aload_n 3, 1) := fo_45 (fw_get da_cX4_parts_0 18 rfl)
theorem dX4_parts_31 : decode cX4_parts 31 = .ok (.getfield 163, 3) := fo_180 (fw_get da_cX4_parts_0 19 rfl)
def dt_cX4_parts_1 : List (Nat × Nat × Nat × Nat) := [(34, 162, 2, 33), (37, 45, 0, 0), (38, 21, 1, 6), (40, 21, 1, 5), (42, 28, 0, 0), (43, 182, 2, 166), (46, 153, 2, 15), (49, 45, 0, 0), (50, 180, 2, 154), (53, 21, 1, 6), (55, 46, 0, 0), (56, 54, 1, 5), (58, 132, 2, 1025), (61, 132, 2, 1537), (64, 167, 2, 65500), (67, 21, 1, 4), (69, 172, 0, 0)]
theorem da_cX4_parts_1 : fw dt_cX4_parts_1 0 cX4_parts.data.toList = true := by decide +kernel
theorem dX4_parts_34 : decode cX4_parts 34 = .ok (.if_icmp .ge 33, 3) := fo_162 (fw_get da_cX4_parts_1 0 rfl) (by decide +kernel)
theorem dX4_parts_37 : decode cX4_parts 37 = .ok (.aload_n 3, 1) := fo_45 (fw_get da_cX4_parts_1 1 rfl)
theorem dX4_parts_38 : decode cX4_parts 38 = .ok (.iload 6, 2) := fo_21 (fw_get da_cX4_parts_1 2 rfl)
theorem dX4_parts_40 : decode cX4_parts 40 = .ok (.iload 5, 2) := fo_21 (fw_get da_cX4_parts_1 3 rfl)
theorem dX4_parts_42 : decode cX4_parts 42 = .ok (.iload_n 2, 1) := fo_28 (fw_get da_cX4_parts_1 4 rfl)
theorem dX4_parts_43 : decode cX4_parts 43 = .ok (.invokevirtual 166, 3) := fo_182 (fw_get da_cX4_parts_1 5 rfl)
theorem dX4_parts_46 : decode cX4_parts 46 = .ok (.ifCond .eq 15, 3) := fo_153 (fw_get da_cX4_parts_1 6 rfl) (by decide +kernel)
theorem dX4_parts_49 : decode cX4_parts 49 = .ok (.aload_n 3, 1) := fo_45 (fw_get da_cX4_parts_1 7 rfl)
theorem dX4_parts_50 : decode cX4_parts 50 = .ok (.getfield 154, 3) := fo_180 (fw_get da_cX4_parts_1 8 rfl)
theorem dX4_parts_53 : decode cX4_parts 53 = .ok (.iload 6, 2) := fo_21 (fw_get da_cX4_parts_1 9 rfl)
theorem dX4_parts_55 : decode cX4_parts 55 = .ok (.iaload, 1) := fo_46 (fw_get da_cX4_parts_1 10 rfl)
theorem dX4_parts_56 : decode cX4_parts 56 = .ok (.istore 5, 2) := fo_54 (fw_get da_cX4_parts_1 11 rfl)
theorem dX4_parts_58 : decode cX4_parts 58 = .ok (.iinc 4 1, 3) := fo_132 (fw_get da_cX4_parts_1 12 rfl) rfl (by decide +kernel)
theorem dX4_parts_61 : decode cX4_parts 61 = .ok (.iinc 6 1, 3) := fo_132 (fw_get da_cX4_parts_1 13 rfl) rfl (by decide +kernel)
theorem dX4_parts_64 : decode cX4_parts 64 = .ok (.goto (-36), 3) := fo_167 (fw_get da_cX4_parts_1 14 rfl) (by decide +kernel)
theorem dX4_parts_67 : decode cX4_parts 67 = .ok (.iload 4, 2) := fo_21 (fw_get da_cX4_parts_1 15 rfl)
theorem dX4_parts_69 : decode cX4_parts 69 = .ok (.ireturn, 1) := fo_172 (fw_get da_cX4_parts_1 16 rfl)
theorem mi_wsX4_part_wsX4_part_r1 : ∀ w ∈ wsX4_part_r1, w ∈ wsX4_part := fun _ h => (List.mem_cons_of_mem _ (List.mem_append_left _ (List.mem_append_left _ (List.mem_append_left _ (List.mem_append_left _ (List.mem_append_left _ h))))))
theorem mi_wsX4_part_wsX00 : ∀ w ∈ wsX00, w ∈ wsX4_part := fun _ h => (List.mem_cons_of_mem _ (List.mem_append_left _ (List.mem_append_right _ h)))
set_option maxRecDepth 20000 in
theorem ggX4_part_X0_hasRange : GoodIn wsX4_part wsX0_hasRange := goodIn_m _ [(wsX4_part_r1, [false, false, false, false, false, false, false, false, true, true]), (wsX00, [true, true])] (gm_c mi_wsX4_part_wsX4_part_r1 (gm_c mi_wsX4_part_wsX00 gm_n)) rfl (by decide +kernel)
set_option maxRecDepth 20000 in
theorem gX4_part_X0_hasRange : GoodIn wsX4_part (wsV RX4 79 RX0 yX0_hasRange wsX0_hasRange) := goodIn_app (goodIn_m _ [(wsX4_part_r1, [false, false, false, false, true, true, true, true])] (gm_c mi_wsX4_part_wsX4_part_r1 gm_n) rfl (by decide +kernel)) ggX4_part_X0_hasRange
theorem mi_wsX4_part_wsX4_part_r2 : ∀ w ∈ wsX4_part_r2, w ∈ wsX4_part := fun _ h => (List.mem_cons_of_mem _ (List.mem_append_left _ (List.mem_append_left _ (List.mem_append_left _ (List.mem_append_left _ (List.mem_append_right _ (List.mem_append_left _ h)))))))
theorem mi_wsX4_part_wsX4_part_r3 : ∀ w ∈ wsX4_part_r3, w ∈ wsX4_part := fun _ h => (List.mem_cons_of_mem _ (List.mem_append_left _ (List.mem_append_left _ (List.mem_append_left _ (List.mem_append_left _ (List.mem_append_right _ (List.mem_append_right _ (List.mem_append_left _ h))))))))
theorem mi_wsX4_part_wsX4_part_r4 : ∀ w ∈ wsX4_part_r4, w ∈ wsX4_part := fun _ h => (List.mem_cons_of_mem _ (List.mem_append_left _ (List.mem_append_left _ (List.mem_append_left _ (List.mem_append_left _ (List.mem_append_right _ (List.mem_append_right _ (List.mem_append_right _ (List.mem_append_left _ h)))))))))
theorem mi_wsX4_part_wsX4_part_r5 : ∀ w ∈ wsX4_part_r5, w ∈ wsX4_part := fun _ h => (List.mem_cons_of_mem _ (List.mem_append_left _ (List.mem_append_left _ (List.mem_append_left _ (List.mem_append_left _ (List.mem_append_right _ (List.mem_append_right _ (List.mem_append_right _ (List.mem_append_right _ h)))))))))
theorem mi_wsX4_part_wsX40 : ∀ w ∈ wsX40, w ∈ wsX4_part := fun _ h => (List.mem_cons_of_mem _ (List.mem_append_left _ (List.mem_append_left _ (List.mem_append_left _ (List.mem_append_right _ h)))))
theorem mi_wsX4_part_wsX20 : ∀ w ∈ wsX20, w ∈ wsX4_part := fun _ h => (List.mem_cons_of_mem _ (List.mem_append_left _ (List.mem_append_left _ (List.mem_append_right _ h))))
theorem mi_wsX4_part_wsX30 : ∀ w ∈ wsX30, w ∈ wsX4_part := fun _ h => (List.mem_cons_of_mem _ (List.mem_append_right _ h))
set_option maxRecDepth 20000 in
theorem ggX4_part_X4_laidTree : GoodIn wsX4_part wsX4_laidTree := goodIn_m _ [(wsX4_part_r1, [false, false, false, false, false, false, false, false, false, false, false, false, false, false, true, true, true, true, true]), (wsX4_part_r1, [true, false, false, false, false, false, false, false, false, false, false, false, false, false, false, false, false, false, false, true, true, true, true, true]), (wsX4_part_r2, [true, true, true, true, true, true, true, true, true, true, true, true, true, true, true, true, true, true, true, true, true, true, true, true]), (wsX4_part_r3, [true, true, true, true, true, true, true, true, true, true, true, true, true, true, true, true, true, true, true, true, true, true, true, true]), (wsX4_part_r4, [true, true, true, true, true, true, true, true, true, true, true, true, true, true, true, true, true, true, true, true, true, true, true, true]), (wsX4_part_r5, [true, true, true, true, true, true, true, true, true]), (wsX40, [true, true, true, true, true, true, true, true, true]), (wsX20, [true, true, true, true, true, true, true, true, true, true, true]), (wsX00, [true, true]), (wsX30, [true, true, true, true, true])] (gm_c mi_wsX4_part_wsX4_part_r1 (gm_c mi_wsX4_part_wsX4_part_r1 (gm_c mi_wsX4_part_wsX4_part_r2 (gm_c mi_wsX4_part_wsX4_part_r3 (gm_c mi_wsX4_part_wsX4_part_r4 (gm_c mi_wsX4_part_wsX4_part_r5 (gm_c mi_wsX4_part_wsX40 (gm_c mi_wsX4_part_wsX20 (gm_c mi_wsX4_part_wsX00 (gm_c mi_wsX4_part_wsX30 gm_n)))))))))) rfl (by decide +kernel)
set_option maxRecDepth 20000 in
theorem gX4_part_X4_laidTree : GoodIn wsX4_part (wsV RX4 71 RX4 yX4_laidTree wsX4_laidTree) := goodIn_app (goodIn_m _ [(wsX4_part_r1, [false, false, false, false, false, false, false, false, false, false, true, true, true, true])] (gm_c mi_wsX4_part_wsX4_part_r1 gm_n) rfl (by decide +kernel)) ggX4_part_X4_laidTree
set_option maxRecDepth 20000 in
theorem ggX4_part_X2_isPart : GoodIn wsX4_part wsX2_isPart := goodIn_m _ [(wsX4_part_r5, [false, false, false, false, false, false, false, false, false, false, false, false, true]), (wsX4_part_r2, [false, false, false, false, true, true]), (wsX20, [true, true, true, true, true, true, true, true, true, true, true])] (gm_c mi_wsX4_part_wsX4_part_r5 (gm_c mi_wsX4_part_wsX4_part_r2 (gm_c mi_wsX4_part_wsX20 gm_n))) rfl (by decide +kernel)
set_option maxRecDepth 20000 in
theorem gX4_part_X2_isPart : GoodIn wsX4_part (wsV RX4 166 RX2 yX2_isPart wsX2_isPart) := goodIn_app (goodIn_m _ [(wsX4_part_r5, [false, false, false, false, false, false, false, false, false, true, true, true]), (wsX4_part_r1, [false, false, false, false, false, false, false, false, false, false, false, false, false, false, false, false, false, false, false, false, false, false, false, true])] (gm_c mi_wsX4_part_wsX4_part_r5 (gm_c mi_wsX4_part_wsX4_part_r1 gm_n)) rfl (by decide +kernel)) ggX4_part_X2_isPart
def dt_cX4_part_0 : List (Nat × Nat × Nat × Nat) := [(0, 42, 0, 0), (1, 180, 2, 12), (4, 27, 0, 0), (5, 28, 0, 0), (6, 182, 2, 79), (9, 153, 2, 18), (12, 29, 0, 0), (13, 155, 2, 14), (16, 21, 1, 4), (18, 155, 2, 9), (21, 21, 1, 4), (23, 4, 0, 0), (24, 164, 2, 5), (27, 2, 0, 0), (28, 172, 0, 0), (29, 42, 0, 0), (30, 182, 2, 71), (33, 58, 1, 5), (35, 3, 0, 0), (36, 54, 1, 6)]
theorem da_cX4_part_0 : fw dt_cX4_part_0 0 cX4_part.data.toList = true := by decide +kernel
theorem dX4_part_0 : decode cX4_part 0 = .ok (.aload_n 0, 1) := fo_42 (fw_get da_cX4_part_0 0 rfl)
theorem dX4_part_1 : decode cX4_part 1 = .ok (.getfield 12, 3) := fo_180 (fw_get da_cX4_part_0 1 rfl)
theorem dX4_part_4 : decode cX4_part 4 = .ok (.iload_n 1, 1) := fo_27 (fw_get da_cX4_part_0 2 rfl)
theorem dX4_part_5 : decode cX4_part 5 = .ok (.iload_n 2, 1) := fo_28 (fw_get da_cX4_part_0 3 rfl)
theorem dX4_part_6 : decode cX4_part 6 = .ok (.invokevirtual 79, 3) := fo_182 (fw_get da_cX4_part_0 4 rfl)
theorem dX4_part_9 : decode cX4_part 9 = .ok (.ifCond .eq 18, 3) := fo_153 (fw_get da_cX4_part_0 5 rfl) (by decide +kernel)
theorem dX4_part_12 : decode cX4_part 12 = .ok (.iload_n 3, 1) := fo_29 (fw_get da_cX4_part_0 6 rfl)
theorem dX4_part_13 : decode cX4_part 13 = .ok (.ifCond .lt 14, 3) := fo_155 (fw_get da_cX4_part_0 7 rfl) (by decide +kernel)
theorem dX4_part_16 : decode cX4_part 16 = .ok (.iload 4, 2) := fo_21 (fw_get da_cX4_part_0 8 rfl)
theorem dX4_part_18 : decode cX4_part 18 = .ok (.ifCond .lt 9, 3) := fo_155 (fw_get da_cX4_part_0 9 rfl) (by decide +kernel)
theorem dX4_part_21 : decode cX4_part 21 = .ok (.iload 4, 2) := fo_21 (fw_get da_cX4_part_0 10 rfl)
theorem dX4_part_23 : decode cX4_part 23 = .ok (.iconst 1, 1) := fo_4 (fw_get da_cX4_part_0 11 rfl)
theorem dX4_part_24 : decode cX4_part 24 = .ok (.if_icmp .le 5, 3) := fo_164 (fw_get da_cX4_part_0 12 rfl) (by decide +kernel)
theorem dX4_part_27 : decode cX4_part 27 = .ok (.iconst (-1), 1) := fo_2 (fw_get da_cX4_part_0 13 rfl)
theorem dX4_part_28 : decode cX4_part 28 = .ok (.ireturn, 1) := fo_172 (fw_get da_cX4_part_0 14 rfl)
theorem dX4_part_29 : decode cX4_part 29 = .ok (.aload_n 0, 1) := fo_42 (fw_get da_cX4_part_0 15 rfl)
theorem dX4_part_30 : decode cX4_part 30 = .ok (.invokevirtual 71, 3) := fo_182 (fw_get da_cX4_part_0 16 rfl)
theorem dX4_part_33 : decode cX4_part 33 = .ok (.astore 5, 2) := fo_58 (fw_get da_cX4_part_0 17 rfl)
theorem dX4_part_35 : decode cX4_part 35 = .ok (.iconst 0, 1) := fo_3 (fw_get da_cX4_part_0 18 rfl)
theorem dX4_part_36 : decode cX4_part 36 = .ok (.istore 6, 2) := fo_54 (fw_get da_cX4_part_0 19 rfl)
def dt_cX4_part_1 : List (Nat × Nat × Nat × Nat) := [(38, 27, 0, 0), (39, 54, 1, 7), (41, 3, 0, 0), (42, 54, 1, 8), (44, 21, 1, 8), (46, 25, 1, 5), (48, 180, 2, 163), (51, 162, 2, 66), (54, 25, 1, 5), (56, 21, 1, 8), (58, 21, 1, 7), (60, 28, 0, 0), (61, 182, 2, 166), (64, 153, 2, 47), (67, 21, 1, 6), (69, 29, 0, 0), (70, 160, 2, 28), (73, 21, 1, 4), (75, 154, 2, 14), (78, 25, 1, 5)]
theorem da_cX4_part_1 : fw dt_cX4_part_1 0 cX4_part.data.toList = true := by decide +kernel
theorem dX4_part_38 : decode cX4_part 38 = .ok (.iload_n 1, 1) := fo_27 (fw_get da_cX4_part_1 0 rfl)
theorem dX4_part_39 : decode cX4_part 39 = .ok (.istore 7, 2) := fo_54 (fw_get da_cX4_part_1 1 rfl)
theorem dX4_part_41 : decode cX4_part 41 = .ok (.iconst 0, 1) := fo_3 (fw_get da_cX4_part_1 2 rfl)
theorem dX4_part_42 : decode cX4_part 42 = .ok (.istore 8, 2) := fo_54 (fw_get da_cX4_part_1 3 rfl)
theorem dX4_part_44 : decode cX4_part 44 = .ok (.iload 8, 2) := fo_21 (fw_get da_cX4_part_1 4 rfl)
theorem dX4_part_46 : decode cX4_part 46 = .ok (.aload 5, 2) := fo_25 (fw_get da_cX4_part_1 5 rfl)
theorem dX4_part_48 : decode cX4_part 48 = .ok (.getfield 163, 3) := fo_180 (fw_get da_cX4_part_1 6 rfl)
theorem dX4_part_51 : decode cX4_part 51 = .ok (.if_icmp .ge 66, 3) := fo_162 (fw_get da_cX4_part_1 7 rfl) (by decide +kernel)
theorem dX4_part_54 : decode cX4_part 54 = .ok (.aload 5, 2) := fo_25 (fw_get da_cX4_part_1 8 rfl)
theorem dX4_part_56 : decode cX4_part 56 = .ok (.iload 8, 2) := fo_21 (fw_get da_cX4_part_1 9 rfl)
theorem dX4_part_58 : decode cX4_part 58 = .ok (.iload 7, 2) := fo_21 (fw_get da_cX4_part_1 10 rfl)
theorem dX4_part_60 : decode cX4_part 60 = .ok (.iload_n 2, 1) := fo_28 (fw_get da_cX4_part_1 11 rfl)
theorem dX4_part_61 : decode cX4_part 61 = .ok (.invokevirtual 166, 3) := fo_182 (fw_get da_cX4_part_1 12 rfl)
theorem dX4_part_64 : decode cX4_part 64 = .ok (.ifCond .eq 47, 3) := fo_153 (fw_get da_cX4_part_1 13 rfl) (by decide +kernel)
theorem dX4_part_67 : decode cX4_part 67 = .ok (.iload 6, 2) := fo_21 (fw_get da_cX4_part_1 14 rfl)
theorem dX4_part_69 : decode cX4_part 69 = .ok (.iload_n 3, 1) := fo_29 (fw_get da_cX4_part_1 15 rfl)
theorem dX4_part_70 : decode cX4_part 70 = .ok (.if_icmp .ne 28, 3) := fo_160 (fw_get da_cX4_part_1 16 rfl) (by decide +kernel)
theorem dX4_part_73 : decode cX4_part 73 = .ok (.iload 4, 2) := fo_21 (fw_get da_cX4_part_1 17 rfl)
theorem dX4_part_75 : decode cX4_part 75 = .ok (.ifCond .ne 14, 3) := fo_154 (fw_get da_cX4_part_1 18 rfl) (by decide +kernel)
theorem dX4_part_78 : decode cX4_part 78 = .ok (.aload 5, 2) := fo_25 (fw_get da_cX4_part_1 19 rfl)
def dt_cX4_part_2 : List (Nat × Nat × Nat × Nat) := [(80, 180, 2, 151), (83, 21, 1, 8), (85, 46, 0, 0), (86, 167, 2, 11), (89, 25, 1, 5), (91, 180, 2, 154), (94, 21, 1, 8), (96, 46, 0, 0), (97, 172, 0, 0), (98, 25, 1, 5), (100, 180, 2, 154), (103, 21, 1, 8), (105, 46, 0, 0), (106, 54, 1, 7), (108, 132, 2, 1537), (111, 132, 2, 2049), (114, 167, 2, 65466), (117, 2, 0, 0), (118, 172, 0, 0)]
theorem da_cX4_part_2 : fw dt_cX4_part_2 0 cX4_part.data.toList = true := by decide +kernel
theorem dX4_part_80 : decode cX4_part 80 = .ok (.getfield 151, 3) := fo_180 (fw_get da_cX4_part_2 0 rfl)
theorem dX4_part_83 : decode cX4_part 83 = .ok (.iload 8, 2) := fo_21 (fw_get da_cX4_part_2 1 rfl)
theorem dX4_part_85 : decode cX4_part 85 = .ok (.iaload, 1) := fo_46 (fw_get da_cX4_part_2 2 rfl)
theorem dX4_part_86 : decode cX4_part 86 = .ok (.goto 11, 3) := fo_167 (fw_get da_cX4_part_2 3 rfl) (by decide +kernel)
theorem dX4_part_89 : decode cX4_part 89 = .ok (.aload 5, 2) := fo_25 (fw_get da_cX4_part_2 4 rfl)
theorem dX4_part_91 : decode cX4_part 91 = .ok (.getfield 154, 3) := fo_180 (fw_get da_cX4_part_2 5 rfl)
theorem dX4_part_94 : decode cX4_part 94 = .ok (.iload 8, 2) := fo_21 (fw_get da_cX4_part_2 6 rfl)
theorem dX4_part_96 : decode cX4_part 96 = .ok (.iaload, 1) := fo_46 (fw_get da_cX4_part_2 7 rfl)
theorem dX4_part_97 : decode cX4_part 97 = .ok (.ireturn, 1) := fo_172 (fw_get da_cX4_part_2 8 rfl)
theorem dX4_part_98 : decode cX4_part 98 = .ok (.aload 5, 2) := fo_25 (fw_get da_cX4_part_2 9 rfl)
theorem dX4_part_100 : decode cX4_part 100 = .ok (.getfield 154, 3) := fo_180 (fw_get da_cX4_part_2 10 rfl)
theorem dX4_part_103 : decode cX4_part 103 = .ok (.iload 8, 2) := fo_21 (fw_get da_cX4_part_2 11 rfl)
theorem dX4_part_105 : decode cX4_part 105 = .ok (.iaload, 1) := fo_46 (fw_get da_cX4_part_2 12 rfl)
theorem dX4_part_106 : decode cX4_part 106 = .ok (.istore 7, 2) := fo_54 (fw_get da_cX4_part_2 13 rfl)
theorem dX4_part_108 : decode cX4_part 108 = .ok (.iinc 6 1, 3) := fo_132 (fw_get da_cX4_part_2 14 rfl) rfl (by decide +kernel)
theorem dX4_part_111 : decode cX4_part 111 = .ok (.iinc 8 1, 3) := fo_132 (fw_get da_cX4_part_2 15 rfl) rfl (by decide +kernel)
theorem dX4_part_114 : decode cX4_part 114 = .ok (.goto (-70), 3) := fo_167 (fw_get da_cX4_part_2 16 rfl) (by decide +kernel)
theorem dX4_part_117 : decode cX4_part 117 = .ok (.iconst (-1), 1) := fo_2 (fw_get da_cX4_part_2 17 rfl)
theorem dX4_part_118 : decode cX4_part 118 = .ok (.ireturn, 1) := fo_172 (fw_get da_cX4_part_2 18 rfl)
theorem mi_wsX4_summary_wsX4_summary_r1 : ∀ w ∈ wsX4_summary_r1, w ∈ wsX4_summary := fun _ h => (List.mem_cons_of_mem _ (List.mem_append_left _ (List.mem_append_left _ (List.mem_append_left _ (List.mem_append_left _ (List.mem_append_left _ h))))))
theorem mi_wsX4_summary_wsX00 : ∀ w ∈ wsX00, w ∈ wsX4_summary := fun _ h => (List.mem_cons_of_mem _ (List.mem_append_left _ (List.mem_append_right _ h)))
set_option maxRecDepth 20000 in
theorem ggX4_summary_X0_hasRange : GoodIn wsX4_summary wsX0_hasRange := goodIn_m _ [(wsX4_summary_r1, [false, false, false, false, false, false, false, false, true, true]), (wsX00, [true, true])] (gm_c mi_wsX4_summary_wsX4_summary_r1 (gm_c mi_wsX4_summary_wsX00 gm_n)) rfl (by decide +kernel)
set_option maxRecDepth 20000 in
theorem gX4_summary_X0_hasRange : GoodIn wsX4_summary (wsV RX4 79 RX0 yX0_hasRange wsX0_hasRange) := goodIn_app (goodIn_m _ [(wsX4_summary_r1, [false, false, false, false, true, true, true, true])] (gm_c mi_wsX4_summary_wsX4_summary_r1 gm_n) rfl (by decide +kernel)) ggX4_summary_X0_hasRange
theorem mi_wsX4_summary_wsX4_summary_r2 : ∀ w ∈ wsX4_summary_r2, w ∈ wsX4_summary := fun _ h => (List.mem_cons_of_mem _ (List.mem_append_left _ (List.mem_append_left _ (List.mem_append_left _ (List.mem_append_left _ (List.mem_append_right _ (List.mem_append_left _ h)))))))
theorem mi_wsX4_summary_wsX4_summary_r3 : ∀ w ∈ wsX4_summary_r3, w ∈ wsX4_summary := fun _ h => (List.mem_cons_of_mem _ (List.mem_append_left _ (List.mem_append_left _ (List.mem_append_left _ (List.mem_append_left _ (List.mem_append_right _ (List.mem_append_right _ (List.mem_append_left _ h))))))))
theorem mi_wsX4_summary_wsX4_summary_r4 : ∀ w ∈ wsX4_summary_r4, w ∈ wsX4_summary := fun _ h => (List.mem_cons_of_mem _ (List.mem_append_left _ (List.mem_append_left _ (List.mem_append_left _ (List.mem_append_left _ (List.mem_append_right _ (List.mem_append_right _ (List.mem_append_right _ (List.mem_append_left _ h)))))))))
theorem mi_wsX4_summary_wsX4_summary_r5 : ∀ w ∈ wsX4_summary_r5, w ∈ wsX4_summary := fun _ h => (List.mem_cons_of_mem _ (List.mem_append_left _ (List.mem_append_left _ (List.mem_append_left _ (List.mem_append_left _ (List.mem_append_right _ (List.mem_append_right _ (List.mem_append_right _ (List.mem_append_right _ h)))))))))
theorem mi_wsX4_summary_wsX40 : ∀ w ∈ wsX40, w ∈ wsX4_summary := fun _ h => (List.mem_cons_of_mem _ (List.mem_append_left _ (List.mem_append_left _ (List.mem_append_left _ (List.mem_append_right _ h)))))
theorem mi_wsX4_summary_wsX20 : ∀ w ∈ wsX20, w ∈ wsX4_summary := fun _ h => (List.mem_cons_of_mem _ (List.mem_append_right _ h))
theorem mi_wsX4_summary_wsX30 : ∀ w ∈ wsX30, w ∈ wsX4_summary := fun _ h => (List.mem_cons_of_mem _ (List.mem_append_left _ (List.mem_append_left _ (List.mem_append_right _ h))))
set_option maxRecDepth 20000 in
theorem ggX4_summary_X4_laidTree : GoodIn wsX4_summary wsX4_laidTree := goodIn_m _ [(wsX4_summary_r1, [false, false, false, false, false, false, false, false, false, false, false, false, false, false, true, true, true, true, true]), (wsX4_summary_r1, [true, false, false, false, false, false, false, false, false, false, false, false, false, false, false, false, false, false, false, true, true, true, true, true]), (wsX4_summary_r2, [true, true, true, true, true, true, true, true, true, true, true, true, true, true, true, true, true, true, true, true, true, true, true, true]), (wsX4_summary_r3, [true, true, true, true, true, true, true, true, true, true, true, true, true, true, true, true, true, true, true, true, true, true, true, true]), (wsX4_summary_r4, [true, true, true, true, true, true, true, true, true, true, true, true, true, true, true, true, true, true, true, true, true, true, true, true]), (wsX4_summary_r5, [true, true, true, true, true, true, true, true, true]), (wsX40, [true, true, true, true, true, true, true, true, true]), (wsX20, [true, true, true, true, true, true, true, true, true, true, true]), (wsX00, [true, true]), (wsX30, [true, true, true, true, true])] (gm_c mi_wsX4_summary_wsX4_summary_r1 (gm_c mi_wsX4_summary_wsX4_summary_r1 (gm_c mi_wsX4_summary_wsX4_summary_r2 (gm_c mi_wsX4_summary_wsX4_summary_r3 (gm_c mi_wsX4_summary_wsX4_summary_r4 (gm_c mi_wsX4_summary_wsX4_summary_r5 (gm_c mi_wsX4_summary_wsX40 (gm_c mi_wsX4_summary_wsX20 (gm_c mi_wsX4_summary_wsX00 (gm_c mi_wsX4_summary_wsX30 gm_n)))))))))) rfl (by decide +kernel)
set_option maxRecDepth 20000 in
theorem gX4_summary_X4_laidTree : GoodIn wsX4_summary (wsV RX4 71 RX4 yX4_laidTree wsX4_laidTree) := goodIn_app (goodIn_m _ [(wsX4_summary_r1, [false, false, false, false, false, false, false, false, false, false, true, true, true, true])] (gm_c mi_wsX4_summary_wsX4_summary_r1 gm_n) rfl (by decide +kernel)) ggX4_summary_X4_laidTree
set_option maxRecDepth 20000 in
theorem ggX4_summary_X2_gather : GoodIn wsX4_summary wsX2_gather := goodIn_m _ [(wsX4_summary_r5, [false, false, false, false, false, false, false, false, false, false, false, false, true]), (wsX4_summary_r2, [false, false, false, true, false, true]), (wsX4_summary_r3, [true, true, true, true, true, true, true, true, true]), (wsX4_summary_r5, [false, false, false, false, false, false, false, false, false, false, false, false, false, true, true, true]), (wsX4_summary_r1, [false, false, false, false, false, false, false, false, false, false, false, false, false, false, false, false, false, false, false, false, false, false, false, true]), (wsX4_summary_r5, [false, false, false, false, false, false, false, false, false, false, false, false, false, false, false, false, true]), (wsX4_summary_r2, [false, false, false, false, true]), (wsX4_summary_r3, [false, false, false, false, false, false, false, false, false, false, false, false, false, false, false, true, true, true, true, true, true, true, true, true]), (wsX4_summary_r3, [false, false, false, false, false, false, false, false, false, true, true, true, true, true, true]), (wsX4_summary_r4, [true, true, true, true, true, true, true, true, true, true, true, true, true, true, true, true]), (wsX20, [true, true, true, true, true, true, true, true, true, true, true]), (wsX30, [true, true, true, true, true])] (gm_c mi_wsX4_summary_wsX4_summary_r5 (gm_c mi_wsX4_summary_wsX4_summary_r2 (gm_c mi_wsX4_summary_wsX4_summary_r3 (gm_c mi_wsX4_summary_wsX4_summary_r5 (gm_c mi_wsX4_summary_wsX4_summary_r1 (gm_c mi_wsX4_summary_wsX4_summary_r5 (gm_c mi_wsX4_summary_wsX4_summary_r2 (gm_c mi_wsX4_summary_wsX4_summary_r3 (gm_c mi_wsX4_summary_wsX4_summary_r3 (gm_c mi_wsX4_summary_wsX4_summary_r4 (gm_c mi_wsX4_summary_wsX20 (gm_c mi_wsX4_summary_wsX30 gm_n)))))))))))) rfl (by decide +kernel)
set_option maxRecDepth 20000 in
theorem gX4_summary_X2_gather : GoodIn wsX4_summary (wsV RX4 170 RX2 yX2_gather wsX2_gather) := goodIn_app (goodIn_m _ [(wsX4_summary_r5, [false, false, false, false, false, false, false, false, false, true, true, true]), (wsX4_summary_r1, [false, false, false, false, false, false, false, false, false, false, false, false, false, false, false, false, false, false, false, false, false, false, false, true])] (gm_c mi_wsX4_summary_wsX4_summary_r5 (gm_c mi_wsX4_summary_wsX4_summary_r1 gm_n)) rfl (by decide +kernel)) ggX4_summary_X2_gather
set_option maxRecDepth 20000 in
theorem ggX4_summary_X3_total : GoodIn wsX4_summary wsX3_total := goodIn_m _ [(wsX4_summary_r5, [false, false, false, false, false, false, false, false, false, false, false, false, false, false, false, false, false, false, false, false, true]), (wsX4_summary_r3, [false, false, false, false, false, false, true, false, false, false, false, false, false, false, true]), (wsX30, [true, true, true, true, true])] (gm_c mi_wsX4_summary_wsX4_summary_r5 (gm_c mi_wsX4_summary_wsX4_summary_r3 (gm_c mi_wsX4_summary_wsX30 gm_n))) rfl (by decide +kernel)
set_option maxRecDepth 20000 in
theorem gX4_summary_X3_total : GoodIn wsX4_summary (wsV RX4 176 RX3 yX3_total wsX3_total) := goodIn_app (goodIn_m _ [(wsX4_summary_r5, [false, false, false, false, false, false, false, false, false, false, false, false, false, false, false, false, false, true, true, true]), (wsX4_summary_r3, [false, false, false, false, true])] (gm_c mi_wsX4_summary_wsX4_summary_r5 (gm_c mi_wsX4_summary_wsX4_summary_r3 gm_n)) rfl (by decide +kernel)) ggX4_summary_X3_total
def dt_cX4_summary_0 : List (Nat × Nat × Nat × Nat) := [(0, 42, 0, 0), (1, 180, 2, 12), (4, 27, 0, 0), (5, 28, 0, 0), (6, 182, 2, 79), (9, 153, 2, 12), (12, 29, 0, 0), (13, 155, 2, 8), (16, 29, 0, 0), (17, 5, 0, 0), (18, 164, 2, 5), (21, 2, 0, 0), (22, 172, 0, 0), (23, 42, 0, 0), (24, 182, 2, 71), (27, 42, 0, 0), (28, 180, 2, 35), (31, 27, 0, 0), (32, 28, 0, 0), (33, 182, 2, 170)]
theorem da_cX4_summary_0 : fw dt_cX4_summary_0 0 cX4_summary.data.toList = true := by decide +kernel
theorem dX4_summary_0 : decode cX4_summary 0 = .ok (.aload_n 0, 1) := fo_42 (fw_get da_cX4_summary_0 0 rfl)
theorem dX4_summary_1 : decode cX4_summary 1 = .ok (.getfield 12, 3) := fo_180 (fw_get da_cX4_summary_0 1 rfl)
theorem dX4_summary_4 : decode cX4_summary 4 = .ok (.iload_n 1, 1) := fo_27 (fw_get da_cX4_summary_0 2 rfl)
theorem dX4_summary_5 : decode cX4_summary 5 = .ok (.iload_n 2, 1) := fo_28 (fw_get da_cX4_summary_0 3 rfl)
theorem dX4_summary_6 : decode cX4_summary 6 = .ok (.invokevirtual 79, 3) := fo_182 (fw_get da_cX4_summary_0 4 rfl)
theorem dX4_summary_9 : decode cX4_summary 9 = .ok (.ifCond .eq 12, 3) := fo_153 (fw_get da_cX4_summary_0 5 rfl) (by decide +kernel)
theorem dX4_summary_12 : decode cX4_summary 12 = .ok (.iload_n 3, 1) := fo_29 (fw_get da_cX4_summary_0 6 rfl)
theorem dX4_summary_13 : decode cX4_summary 13 = .ok (.ifCond .lt 8, 3) := fo_155 (fw_get da_cX4_summary_0 7 rfl) (by decide +kernel)
theorem dX4_summary_16 : decode cX4_summary 16 = .ok (.iload_n 3, 1) := fo_29 (fw_get da_cX4_summary_0 8 rfl)
theorem dX4_summary_17 : decode cX4_summary 17 = .ok (.iconst 2, 1) := fo_5 (fw_get da_cX4_summary_0 9 rfl)
theorem dX4_summary_18 : decode cX4_summary 18 = .ok (.if_icmp .le 5, 3) := fo_164 (fw_get da_cX4_summary_0 10 rfl) (by decide +kernel)
theorem dX4_summary_21 : decode cX4_summary 21 = .ok (.iconst (-1), 1) := fo_2 (fw_get da_cX4_summary_0 11 rfl)
theorem dX4_summary_22 : decode cX4_summary 22 = .ok (.ireturn, 1) := fo_172 (fw_get da_cX4_summary_0 12 rfl)
theorem dX4_summary_23 : decode cX4_summary 23 = .ok (.aload_n 0, 1) := fo_42 (fw_get da_cX4_summary_0 13 rfl)
theorem dX4_summary_24 : decode cX4_summary 24 = .ok (.invokevirtual 71, 3) := fo_182 (fw_get da_cX4_summary_0 14 rfl)
theorem dX4_summary_27 : decode cX4_summary 27 = .ok (.aload_n 0, 1) := fo_42 (fw_get da_cX4_summary_0 15 rfl)
theorem dX4_summary_28 : decode cX4_summary 28 = .ok (.getfield 35, 3) := fo_180 (fw_get da_cX4_summary_0 16 rfl)
theorem dX4_summary_31 : decode cX4_summary 31 = .ok (.iload_n 1, 1) := fo_27 (fw_get da_cX4_summary_0 17 rfl)
theorem dX4_summary_32 : decode cX4_summary 32 = .ok (.iload_n 2, 1) := fo_28 (fw_get da_cX4_summary_0 18 rfl)
theorem dX4_summary_33 : decode cX4_summary 33 = .ok (.invokevirtual 170, 3) := fo_182 (fw_get da_cX4_summary_0 19 rfl)
def dt_cX4_summary_1 : List (Nat × Nat × Nat × Nat) := [(36, 29, 0, 0)]
theorem da_cX4_summary_1 : fw dt_cX4_summary_1 0 cX4_summary.data.toList = true := by decide +kernel
theorem dX4_summary_36 : decode cX4_summary 36 = .ok (.iload_n 3, 1) := fo_29 (fw_get da_cX4_summary_1 0 rfl)
theorem dX4_summary_37 : decode cX4_summary 37 = .ok (.lookupswitch 43 #[(0, 27), (1, 35)], 27) := by decide +kernel
def dt_cX4_summary_2 : List (Nat × Nat × Nat × Nat) := [(64, 42, 0, 0), (65, 180, 2, 35), (68, 180, 2, 174), (71, 172, 0, 0), (72, 42, 0, 0), (73, 180, 2, 35), (76, 182, 2, 176), (79, 172, 0, 0), (80, 42, 0, 0), (81, 180, 2, 35), (84, 180, 2, 180), (87, 172, 0, 0)]
theorem da_cX4_summary_2 : fw dt_cX4_summary_2 0 cX4_summary.data.toList = true := by decide +kernel
theorem dX4_summary_64 : decode cX4_summary 64 = .ok (.aload_n 0, 1) := fo_42 (fw_get da_cX4_summary_2 0 rfl)
theorem dX4_summary_65 : decode cX4_summary 65 = .ok (.getfield 35, 3) := fo_180 (fw_get da_cX4_summary_2 1 rfl)
theorem dX4_summary_68 : decode cX4_summary 68 = .ok (.getfield 174, 3) := fo_180 (fw_get da_cX4_summary_2 2 rfl)
theorem dX4_summary_71 : decode cX4_summary 71 = .ok (.ireturn, 1) := fo_172 (fw_get da_cX4_summary_2 3 rfl)
theorem dX4_summary_72 : decode cX4_summary 72 = .ok (.aload_n 0, 1) := fo_42 (fw_get da_cX4_summary_2 4 rfl)
theorem dX4_summary_73 : decode cX4_summary 73 = .ok (.getfield 35, 3) := fo_180 (fw_get da_cX4_summary_2 5 rfl)
theorem dX4_summary_76 : decode cX4_summary 76 = .ok (.invokevirtual 176, 3) := fo_182 (fw_get da_cX4_summary_2 6 rfl)
theorem dX4_summary_79 : decode cX4_summary 79 = .ok (.ireturn, 1) := fo_172 (fw_get da_cX4_summary_2 7 rfl)
theorem dX4_summary_80 : decode cX4_summary 80 = .ok (.aload_n 0, 1) := fo_42 (fw_get da_cX4_summary_2 8 rfl)
theorem dX4_summary_81 : decode cX4_summary 81 = .ok (.getfield 35, 3) := fo_180 (fw_get da_cX4_summary_2 9 rfl)
theorem dX4_summary_84 : decode cX4_summary 84 = .ok (.getfield 180, 3) := fo_180 (fw_get da_cX4_summary_2 10 rfl)
theorem dX4_summary_87 : decode cX4_summary 87 = .ok (.ireturn, 1) := fo_172 (fw_get da_cX4_summary_2 11 rfl)
theorem mi_wsX4_lost_wsX4_lost_r1 : ∀ w ∈ wsX4_lost_r1, w ∈ wsX4_lost := fun _ h => (List.mem_cons_of_mem _ (List.mem_append_left _ (List.mem_append_left _ (List.mem_append_left _ (List.mem_append_left _ (List.mem_append_left _ h))))))
set_option maxRecDepth 20000 in
theorem ggX4_lost_X4_isValue : GoodIn wsX4_lost wsX4_isValue := goodIn_m _ [(wsX4_lost_r1, [false, false, false, false, false, true])] (gm_c mi_wsX4_lost_wsX4_lost_r1 gm_n) rfl (by decide +kernel)
set_option maxRecDepth 20000 in
theorem gX4_lost_X4_isValue : GoodIn wsX4_lost (va_wsS RX4 68 yX4_isValue wsX4_isValue) := goodIn_app (goodIn_m _ [(wsX4_lost_r1, [false, false, true, true, true])] (gm_c mi_wsX4_lost_wsX4_lost_r1 gm_n) rfl (by decide +kernel)) ggX4_lost_X4_isValue
theorem mi_wsX4_lost_wsX00 : ∀ w ∈ wsX00, w ∈ wsX4_lost := fun _ h => (List.mem_cons_of_mem _ (List.mem_append_left _ (List.mem_append_left _ (List.mem_append_right _ h))))
set_option maxRecDepth 20000 in
theorem ggX4_lost_X0_hasRange : GoodIn wsX4_lost wsX0_hasRange := goodIn_m _ [(wsX4_lost_r1, [false, false, false, false, false, false, false, false, false, false, true, true]), (wsX00, [true, true])] (gm_c mi_wsX4_lost_wsX4_lost_r1 (gm_c mi_wsX4_lost_wsX00 gm_n)) rfl (by decide +kernel)
set_option maxRecDepth 20000 in
theorem gX4_lost_X0_hasRange : GoodIn wsX4_lost (wsV RX4 79 RX0 yX0_hasRange wsX0_hasRange) := goodIn_app (goodIn_m _ [(wsX4_lost_r1, [false, false, false, false, false, false, true, true, true, true])] (gm_c mi_wsX4_lost_wsX4_lost_r1 gm_n) rfl (by decide +kernel)) ggX4_lost_X0_hasRange
theorem mi_wsX4_lost_wsX4_lost_r2 : ∀ w ∈ wsX4_lost_r2, w ∈ wsX4_lost := fun _ h => (List.mem_cons_of_mem _ (List.mem_append_left _ (List.mem_append_left _ (List.mem_append_left _ (List.mem_append_left _ (List.mem_append_right _ (List.mem_append_left _ h)))))))
theorem mi_wsX4_lost_wsX4_lost_r3 : ∀ w ∈ wsX4_lost_r3, w ∈ wsX4_lost := fun _ h => (List.mem_cons_of_mem _ (List.mem_append_left _ (List.mem_append_left _ (List.mem_append_left _ (List.mem_append_left _ (List.mem_append_right _ (List.mem_append_right _ (List.mem_append_left _ h))))))))
theorem mi_wsX4_lost_wsX4_lost_r4 : ∀ w ∈ wsX4_lost_r4, w ∈ wsX4_lost := fun _ h => (List.mem_cons_of_mem _ (List.mem_append_left _ (List.mem_append_left _ (List.mem_append_left _ (List.mem_append_left _ (List.mem_append_right _ (List.mem_append_right _ (List.mem_append_right _ (List.mem_append_left _ h)))))))))
theorem mi_wsX4_lost_wsX4_lost_r5 : ∀ w ∈ wsX4_lost_r5, w ∈ wsX4_lost := fun _ h => (List.mem_cons_of_mem _ (List.mem_append_left _ (List.mem_append_left _ (List.mem_append_left _ (List.mem_append_left _ (List.mem_append_right _ (List.mem_append_right _ (List.mem_append_right _ (List.mem_append_right _ (List.mem_append_left _ h))))))))))
theorem mi_wsX4_lost_wsX40 : ∀ w ∈ wsX40, w ∈ wsX4_lost := fun _ h => (List.mem_cons_of_mem _ (List.mem_append_left _ (List.mem_append_left _ (List.mem_append_left _ (List.mem_append_right _ h)))))
theorem mi_wsX4_lost_wsX20 : ∀ w ∈ wsX20, w ∈ wsX4_lost := fun _ h => (List.mem_cons_of_mem _ (List.mem_append_left _ (List.mem_append_right _ h)))
theorem mi_wsX4_lost_wsX30 : ∀ w ∈ wsX30, w ∈ wsX4_lost := fun _ h => (List.mem_cons_of_mem _ (List.mem_append_right _ h))
set_option maxRecDepth 20000 in
theorem ggX4_lost_X4_laidTree : GoodIn wsX4_lost wsX4_laidTree := goodIn_m _ [(wsX4_lost_r1, [false, false, false, false, false, false, false, false, false, false, false, false, false, false, false, true, true, true, true, true]), (wsX4_lost_r1, [true, false, false, false, false, false, false, false, false, false, false, false, false, false, false, false, false, false, false, false, true, true, true, true]), (wsX4_lost_r2, [true, true, true, true, true, true, true, true, true, true, true, true, true, true, true, true, true, true, true, true, true, true, true, true]), (wsX4_lost_r3, [true, true, true, true, true, true, true, true, true, true, true, true, true, true, true, true, true, true, true, true, true, true, true, true]), (wsX4_lost_r4, [true, true, true, true, true, true, true, true, true, true, true, true, true, true, true, true, true, true, true, true, true, true, true, true]), (wsX4_lost_r5, [true, true, true, true, true, true, true, true, true, true]), (wsX40, [true, true, true, true, true, true, true, true, true]), (wsX20, [true, true, true, true, true, true, true, true, true, true, true]), (wsX00, [true, true]), (wsX30, [true, true, true, true, true])] (gm_c mi_wsX4_lost_wsX4_lost_r1 (gm_c mi_wsX4_lost_wsX4_lost_r1 (gm_c mi_wsX4_lost_wsX4_lost_r2 (gm_c mi_wsX4_lost_wsX4_lost_r3 (gm_c mi_wsX4_lost_wsX4_lost_r4 (gm_c mi_wsX4_lost_wsX4_lost_r5 (gm_c mi_wsX4_lost_wsX40 (gm_c mi_wsX4_lost_wsX20 (gm_c mi_wsX4_lost_wsX00 (gm_c mi_wsX4_lost_wsX30 gm_n)))))))))) rfl (by decide +kernel)
set_option maxRecDepth 20000 in
theorem gX4_lost_X4_laidTree : GoodIn wsX4_lost (wsV RX4 71 RX4 yX4_laidTree wsX4_laidTree) := goodIn_app (goodIn_m _ [(wsX4_lost_r1, [false, false, false, false, false, false, false, false, false, false, false, false, true, true, true]), (wsX4_lost_r1, [false, false, false, false, true])] (gm_c mi_wsX4_lost_wsX4_lost_r1 (gm_c mi_wsX4_lost_wsX4_lost_r1 gm_n)) rfl (by decide +kernel)) ggX4_lost_X4_laidTree
set_option maxRecDepth 20000 in
theorem ggX4_lost_X2_gather : GoodIn wsX4_lost wsX2_gather := goodIn_m _ [(wsX4_lost_r5, [false, false, false, false, false, false, false, false, false, false, false, false, false, true]), (wsX4_lost_r2, [false, false, false, false, true, false, true]), (wsX4_lost_r3, [false, true, true, true, true, true, true, true, true, true]), (wsX4_lost_r5, [false, false, false, false, false, false, false, false, false, false, false, false, false, false, true, true, true]), (wsX4_lost_r2, [true]), (wsX4_lost_r5, [false, false, false, false, false, false, false, false, false, false, false, false, false, false, false, false, false, true]), (wsX4_lost_r2, [false, false, false, false, false, true]), (wsX4_lost_r3, [false, false, false, false, false, false, false, false, false, false, false, false, false, false, false, false, true, true, true, true, true, true, true, true]), (wsX4_lost_r4, [true]), (wsX4_lost_r3, [false, false, false, false, false, false, false, false, false, false, true, true, true, true, true, true]), (wsX4_lost_r4, [false, true, true, true, true, true, true, true, true, true, true, true, true, true, true, true, true]), (wsX20, [true, true, true, true, true, true, true, true, true, true, true]), (wsX30, [true, true, true, true, true])] (gm_c mi_wsX4_lost_wsX4_lost_r5 (gm_c mi_wsX4_lost_wsX4_lost_r2 (gm_c mi_wsX4_lost_wsX4_lost_r3 (gm_c mi_wsX4_lost_wsX4_lost_r5 (gm_c mi_wsX4_lost_wsX4_lost_r2 (gm_c mi_wsX4_lost_wsX4_lost_r5 (gm_c mi_wsX4_lost_wsX4_lost_r2 (gm_c mi_wsX4_lost_wsX4_lost_r3 (gm_c mi_wsX4_lost_wsX4_lost_r4 (gm_c mi_wsX4_lost_wsX4_lost_r3 (gm_c mi_wsX4_lost_wsX4_lost_r4 (gm_c mi_wsX4_lost_wsX20 (gm_c mi_wsX4_lost_wsX30 gm_n))))))))))))) rfl (by decide +kernel)
set_option maxRecDepth 20000 in
theorem gX4_lost_X2_gather : GoodIn wsX4_lost (wsV RX4 170 RX2 yX2_gather wsX2_gather) := goodIn_app (goodIn_m _ [(wsX4_lost_r5, [false, false, false, false, false, false, false, false, false, false, true, true, true]), (wsX4_lost_r2, [true])] (gm_c mi_wsX4_lost_wsX4_lost_r5 (gm_c mi_wsX4_lost_wsX4_lost_r2 gm_n)) rfl (by decide +kernel)) ggX4_lost_X2_gather
set_option maxRecDepth 20000 in
theorem ggX4_lost_X0_oftenIn : GoodIn wsX4_lost wsX0_oftenIn := goodIn_m _ [(wsX4_lost_r5, [false, false, false, false, false, false, false, false, false, false, false, false, false, false, false, false, false, false, false, false, false, true, true]), (wsX00, [true, true])] (gm_c mi_wsX4_lost_wsX4_lost_r5 (gm_c mi_wsX4_lost_wsX00 gm_n)) rfl (by decide +kernel)
set_option maxRecDepth 20000 in
theorem gX4_lost_X0_oftenIn : GoodIn wsX4_lost (wsV RX4 113 RX0 yX0_oftenIn wsX0_oftenIn) := goodIn_app (goodIn_m _ [(wsX4_lost_r5, [false, false, false, false, false, false, false, false, false, false, false, false, false, false, false, false, false, false, true, true, true]), (wsX4_lost_r1, [false, false, false, false, false, false, false, false, false, true])] (gm_c mi_wsX4_lost_wsX4_lost_r5 (gm_c mi_wsX4_lost_wsX4_lost_r1 gm_n)) rfl (by decide +kernel)) ggX4_lost_X0_oftenIn
theorem mi_wsX4_lost_wsX4_lost_r6 : ∀ w ∈ wsX4_lost_r6, w ∈ wsX4_lost := fun _ h => (List.mem_cons_of_mem _ (List.mem_append_left _ (List.mem_append_left _ (List.mem_append_left _ (List.mem_append_left _ (List.mem_append_right _ (List.mem_append_right _ (List.mem_append_right _ (List.mem_append_right _ (List.mem_append_right _ h))))))))))
set_option maxRecDepth 20000 in
theorem ggX4_lost_X3_numberOf : GoodIn wsX4_lost wsX3_numberOf := goodIn_m _ [(wsX4_lost_r6, [false, false, true]), (wsX4_lost_r3, [false, false, false, false, false, false, false, true, false, false, false, false, false, false, true, true]), (wsX30, [true, true, true, true, true])] (gm_c mi_wsX4_lost_wsX4_lost_r6 (gm_c mi_wsX4_lost_wsX4_lost_r3 (gm_c mi_wsX4_lost_wsX30 gm_n))) rfl (by decide +kernel)
set_option maxRecDepth 20000 in
theorem gX4_lost_X3_numberOf : GoodIn wsX4_lost (wsV RX4 183 RX3 yX3_numberOf wsX3_numberOf) := goodIn_app (goodIn_m _ [(wsX4_lost_r5, [false, false, false, false, false, false, false, false, false, false, false, false, false, false, false, false, false, false, false, false, false, false, false, true]), (wsX4_lost_r6, [true, true]), (wsX4_lost_r3, [false, false, false, false, false, true])] (gm_c mi_wsX4_lost_wsX4_lost_r5 (gm_c mi_wsX4_lost_wsX4_lost_r6 (gm_c mi_wsX4_lost_wsX4_lost_r3 gm_n))) rfl (by decide +kernel)) ggX4_lost_X3_numberOf
def dt_cX4_lost_0 : List (Nat × Nat × Nat × Nat) := [(0, 27, 0, 0), (1, 184, 2, 68), (4, 153, 2, 15), (7, 42, 0, 0), (8, 180, 2, 12), (11, 28, 0, 0), (12, 29, 0, 0), (13, 182, 2, 79), (16, 154, 2, 5), (19, 2, 0, 0), (20, 172, 0, 0), (21, 42, 0, 0), (22, 182, 2, 71), (25, 42, 0, 0), (26, 180, 2, 35), (29, 28, 0, 0), (30, 29, 0, 0), (31, 182, 2, 170), (34, 42, 0, 0), (35, 180, 2, 12)]
theorem da_cX4_lost_0 : fw dt_cX4_lost_0 0 cX4_lost.data.toList = true := by decide +kernel
theorem dX4_lost_0 : decode cX4_lost 0 = .ok (.iload_n 1, 1) := fo_27 (fw_get da_cX4_lost_0 0 rfl)
theorem dX4_lost_1 : decode cX4_lost 1 = .ok (.invokestatic 68, 3) := fo_184 (fw_get da_cX4_lost_0 1 rfl)
theorem dX4_lost_4 : decode cX4_lost 4 = .ok (.ifCond .eq 15, 3) := fo_153 (fw_get da_cX4_lost_0 2 rfl) (by decide +kernel)
theorem dX4_lost_7 : decode cX4_lost 7 = .ok (.aload_n 0, 1) := fo_42 (fw_get da_cX4_lost_0 3 rfl)
theorem dX4_lost_8 : decode cX4_lost 8 = .ok (.getfield 12, 3) := fo_180 (fw_get da_cX4_lost_0 4 rfl)
theorem dX4_lost_11 : decode cX4_lost 11 = .ok (.iload_n 2, 1) := fo_28 (fw_get da_cX4_lost_0 5 rfl)
theorem dX4_lost_12 : decode cX4_lost 12 = .ok (.iload_n 3, 1) := fo_29 (fw_get da_cX4_lost_0 6 rfl)
theorem dX4_lost_13 : decode cX4_lost 13 = .ok (.invokevirtual 79, 3) := fo_182 (fw_get da_cX4_lost_0 7 rfl)
theorem dX4_lost_16 : decode cX4_lost 16 = .ok (.ifCond .ne 5, 3) := fo_154 (fw_get da_cX4_lost_0 8 rfl) (by decide +kernel)
theorem dX4_lost_19 : decode cX4_lost 19 = .ok (.iconst (-1), 1) := fo_2 (fw_get da_cX4_lost_0 9 rfl)
theorem dX4_lost_20 : decode cX4_lost 20 = .ok (.ireturn, 1) := fo_172 (fw_get da_cX4_lost_0 10 rfl)
theorem dX4_lost_21 : decode cX4_lost 21 = .ok (.aload_n 0, 1) := fo_42 (fw_get da_cX4_lost_0 11 rfl)
theorem dX4_lost_22 : decode cX4_lost 22 = .ok (.invokevirtual 71, 3) := fo_182 (fw_get da_cX4_lost_0 12 rfl)
theorem dX4_lost_25 : decode cX4_lost 25 = .ok (.aload_n 0, 1) := fo_42 (fw_get da_cX4_lost_0 13 rfl)
theorem dX4_lost_26 : decode cX4_lost 26 = .ok (.getfield 35, 3) := fo_180 (fw_get da_cX4_lost_0 14 rfl)
theorem dX4_lost_29 : decode cX4_lost 29 = .ok (.iload_n 2, 1) := fo_28 (fw_get da_cX4_lost_0 15 rfl)
theorem dX4_lost_30 : decode cX4_lost 30 = .ok (.iload_n 3, 1) := fo_29 (fw_get da_cX4_lost_0 16 rfl)
theorem dX4_lost_31 : decode cX4_lost 31 = .ok (.invokevirtual 170, 3) := fo_182 (fw_get da_cX4_lost_0 17 rfl)
theorem dX4_lost_34 : decode cX4_lost 34 = .ok (.aload_n 0, 1) := fo_42 (fw_get da_cX4_lost_0 18 rfl)
theorem dX4_lost_35 : decode cX4_lost 35 = .ok (.getfield 12, 3) := fo_180 (fw_get da_cX4_lost_0 19 rfl)
def dt_cX4_lost_1 : List (Nat × Nat × Nat × Nat) := [(38, 27, 0, 0), (39, 28, 0, 0), (40, 29, 0, 0), (41, 182, 2, 113), (44, 42, 0, 0), (45, 180, 2, 35), (48, 27, 0, 0), (49, 182, 2, 183), (52, 100, 0, 0), (53, 172, 0, 0)]
theorem da_cX4_lost_1 : fw dt_cX4_lost_1 0 cX4_lost.data.toList = true := by decide +kernel
theorem dX4_lost_38 : decode cX4_lost 38 = .ok (.iload_n 1, 1) := fo_27 (fw_get da_cX4_lost_1 0 rfl)
theorem dX4_lost_39 : decode cX4_lost 39 = .ok (.iload_n 2, 1) := fo_28 (fw_get da_cX4_lost_1 1 rfl)
theorem dX4_lost_40 : decode cX4_lost 40 = .ok (.iload_n 3, 1) := fo_29 (fw_get da_cX4_lost_1 2 rfl)
theorem dX4_lost_41 : decode cX4_lost 41 = .ok (.invokevirtual 113, 3) := fo_182 (fw_get da_cX4_lost_1 3 rfl)
theorem dX4_lost_44 : decode cX4_lost 44 = .ok (.aload_n 0, 1) := fo_42 (fw_get da_cX4_lost_1 4 rfl)
theorem dX4_lost_45 : decode cX4_lost 45 = .ok (.getfield 35, 3) := fo_180 (fw_get da_cX4_lost_1 5 rfl)
theorem dX4_lost_48 : decode cX4_lost 48 = .ok (.iload_n 1, 1) := fo_27 (fw_get da_cX4_lost_1 6 rfl)
theorem dX4_lost_49 : decode cX4_lost 49 = .ok (.invokevirtual 183, 3) := fo_182 (fw_get da_cX4_lost_1 7 rfl)
theorem dX4_lost_52 : decode cX4_lost 52 = .ok (.isub, 1) := fo_100 (fw_get da_cX4_lost_1 8 rfl)
theorem dX4_lost_53 : decode cX4_lost 53 = .ok (.ireturn, 1) := fo_172 (fw_get da_cX4_lost_1 9 rfl)
theorem mi_wsX4_surely_wsX4_surely_r1 : ∀ w ∈ wsX4_surely_r1, w ∈ wsX4_surely := fun _ h => (List.mem_cons_of_mem _ (List.mem_append_left _ (List.mem_append_left _ (List.mem_append_left _ (List.mem_append_left _ (List.mem_append_left _ h))))))
theorem mi_wsX4_surely_wsX00 : ∀ w ∈ wsX00, w ∈ wsX4_surely := fun _ h => (List.mem_cons_of_mem _ (List.mem_append_left _ (List.mem_append_right _ h)))
set_option maxRecDepth 20000 in
theorem ggX4_surely_X0_hasRange : GoodIn wsX4_surely wsX0_hasRange := goodIn_m _ [(wsX4_surely_r1, [false, false, false, false, false, false, false, false, false, false, false, true, true]), (wsX00, [true, true])] (gm_c mi_wsX4_surely_wsX4_surely_r1 (gm_c mi_wsX4_surely_wsX00 gm_n)) rfl (by decide +kernel)
set_option maxRecDepth 20000 in
theorem gX4_surely_X0_hasRange : GoodIn wsX4_surely (wsV RX4 79 RX0 yX0_hasRange wsX0_hasRange) := goodIn_app (goodIn_m _ [(wsX4_surely_r1, [false, false, false, false, false, false, false, true, true, true, true])] (gm_c mi_wsX4_surely_wsX4_surely_r1 gm_n) rfl (by decide +kernel)) ggX4_surely_X0_hasRange
theorem mi_wsX4_surely_wsX4_surely_r2 : ∀ w ∈ wsX4_surely_r2, w ∈ wsX4_surely := fun _ h => (List.mem_cons_of_mem _ (List.mem_append_left _ (List.mem_append_left _ (List.mem_append_left _ (List.mem_append_left _ (List.mem_append_right _ (List.mem_append_left _ h)))))))
theorem mi_wsX4_surely_wsX4_surely_r3 : ∀ w ∈ wsX4_surely_r3, w ∈ wsX4_surely := fun _ h => (List.mem_cons_of_mem _ (List.mem_append_left _ (List.mem_append_left _ (List.mem_append_left _ (List.mem_append_left _ (List.mem_append_right _ (List.mem_append_right _ (List.mem_append_left _ h))))))))
theorem mi_wsX4_surely_wsX4_surely_r4 : ∀ w ∈ wsX4_surely_r4, w ∈ wsX4_surely := fun _ h => (List.mem_cons_of_mem _ (List.mem_append_left _ (List.mem_append_left _ (List.mem_append_left _ (List.mem_append_left _ (List.mem_append_right _ (List.mem_append_right _ (List.mem_append_right _ (List.mem_append_left _ h)))))))))
theorem mi_wsX4_surely_wsX4_surely_r5 : ∀ w ∈ wsX4_surely_r5, w ∈ wsX4_surely := fun _ h => (List.mem_cons_of_mem _ (List.mem_append_left _ (List.mem_append_left _ (List.mem_append_left _ (List.mem_append_left _ (List.mem_append_right _ (List.mem_append_right _ (List.mem_append_right _ (List.mem_append_right _ h)))))))))
theorem mi_wsX4_surely_wsX40 : ∀ w ∈ wsX40, w ∈ wsX4_surely := fun _ h => (List.mem_cons_of_mem _ (List.mem_append_left _ (List.mem_append_left _ (List.mem_append_left _ (List.mem_append_right _ h)))))
theorem mi_wsX4_surely_wsX20 : ∀ w ∈ wsX20, w ∈ wsX4_surely := fun _ h => (List.mem_cons_of_mem _ (List.mem_append_right _ h))
theorem mi_wsX4_surely_wsX30 : ∀ w ∈ wsX30, w ∈ wsX4_surely := fun _ h => (List.mem_cons_of_mem _ (List.mem_append_left _ (List.mem_append_left _ (List.mem_append_right _ h))))
set_option maxRecDepth 20000 in
theorem ggX4_surely_X4_laidTree : GoodIn wsX4_surely wsX4_laidTree := goodIn_m _ [(wsX4_surely_r1, [false, false, false, false, false, false, false, false, false, false, false, false, false, false, false, false, false, true, true, true, true, true]), (wsX4_surely_r1, [true, false, false, false, false, false, false, false, false, false, false, false, false, false, false, false, false, false, false, false, false, false, true, true]), (wsX4_surely_r2, [true, true, true, true, true, true, true, true, true, true, true, true, true, true, true, true, true, true, true, true, true, true, true, true]), (wsX4_surely_r3, [true, true, true, true, true, true, true, true, true, true, true, true, true, true, true, true, true, true, true, true, true, true, true, true]), (wsX4_surely_r4, [true, true, true, true, true, true, true, true, true, true, true, true, true, true, true, true, true, true, true, true, true, true, true, true]), (wsX4_surely_r5, [true, true, true, true, true, true, true, true, true, true, true, true]), (wsX40, [true, true, true, true, true, true, true, true, true]), (wsX20, [true, true, true, true, true, true, true, true, true, true, true]), (wsX00, [true, true]), (wsX30, [true, true, true, true, true])] (gm_c mi_wsX4_surely_wsX4_surely_r1 (gm_c mi_wsX4_surely_wsX4_surely_r1 (gm_c mi_wsX4_surely_wsX4_surely_r2 (gm_c mi_wsX4_surely_wsX4_surely_r3 (gm_c mi_wsX4_surely_wsX4_surely_r4 (gm_c mi_wsX4_surely_wsX4_surely_r5 (gm_c mi_wsX4_surely_wsX40 (gm_c mi_wsX4_surely_wsX20 (gm_c mi_wsX4_surely_wsX00 (gm_c mi_wsX4_surely_wsX30 gm_n)))))))))) rfl (by decide +kernel)
set_option maxRecDepth 20000 in
theorem gX4_surely_X4_laidTree : GoodIn wsX4_surely (wsV RX4 71 RX4 yX4_laidTree wsX4_laidTree) := goodIn_app (goodIn_m _ [(wsX4_surely_r1, [false, false, false, false, false, false, false, false, false, false, false, false, false, true, true, true, true])] (gm_c mi_wsX4_surely_wsX4_surely_r1 gm_n) rfl (by decide +kernel)) ggX4_surely_X4_laidTree
set_option maxRecDepth 20000 in
theorem ggX4_surely_X2_gather : GoodIn wsX4_surely wsX2_gather := goodIn_m _ [(wsX4_surely_r5, [false, false, false, false, false, false, false, false, false, false, false, false, false, false, false, true]), (wsX4_surely_r2, [false, false, false, false, false, false, true, false, true]), (wsX4_surely_r3, [false, false, false, true, true, true, true, true, true, true, true, true]), (wsX4_surely_r5, [false, false, false, false, false, false, false, false, false, false, false, false, false, false, false, false, true, true, true]), (wsX4_surely_r2, [false, false, true]), (wsX4_surely_r5, [false, false, false, false, false, false, false, false, false, false, false, false, false, false, false, false, false, false, false, true]), (wsX4_surely_r2, [false, false, false, false, false, false, false, true]), (wsX4_surely_r3, [false, false, false, false, false, false, false, false, false, false, false, false, false, false, false, false, false, false, true, true, true, true, true, true]), (wsX4_surely_r4, [true, true, true]), (wsX4_surely_r3, [false, false, false, false, false, false, false, false, false, false, false, false, true, true, true, true, true, true]), (wsX4_surely_r4, [false, false, false, true, true, true, true, true, true, true, true, true, true, true, true, true, true, true, true]), (wsX20, [true, true, true, true, true, true, true, true, true, true, true]), (wsX30, [true, true, true, true, true])] (gm_c mi_wsX4_surely_wsX4_surely_r5 (gm_c mi_wsX4_surely_wsX4_surely_r2 (gm_c mi_wsX4_surely_wsX4_surely_r3 (gm_c mi_wsX4_surely_wsX4_surely_r5 (gm_c mi_wsX4_surely_wsX4_surely_r2 (gm_c mi_wsX4_surely_wsX4_surely_r5 (gm_c mi_wsX4_surely_wsX4_surely_r2 (gm_c mi_wsX4_surely_wsX4_surely_r3 (gm_c mi_wsX4_surely_wsX4_surely_r4 (gm_c mi_wsX4_surely_wsX4_surely_r3 (gm_c mi_wsX4_surely_wsX4_surely_r4 (gm_c mi_wsX4_surely_wsX20 (gm_c mi_wsX4_surely_wsX30 gm_n))))))))))))) rfl (by decide +kernel)
set_option maxRecDepth 20000 in
theorem gX4_surely_X2_gather : GoodIn wsX4_surely (wsV RX4 170 RX2 yX2_gather wsX2_gather) := goodIn_app (goodIn_m _ [(wsX4_surely_r5, [false, false, false, false, false, false, false, false, false, false, false, false, true, true, true]), (wsX4_surely_r2, [false, false, true])] (gm_c mi_wsX4_surely_wsX4_surely_r5 (gm_c mi_wsX4_surely_wsX4_surely_r2 gm_n)) rfl (by decide +kernel)) ggX4_surely_X2_gather
def dt_cX4_surely_0 : List (Nat × Nat × Nat × Nat) := [(0, 42, 0, 0), (1, 180, 2, 12), (4, 27, 0, 0), (5, 28, 0, 0), (6, 182, 2, 79), (9, 154, 2, 6), (12, 18, 1, 102), (14, 172, 0, 0), (15, 42, 0, 0), (16, 182, 2, 71), (19, 42, 0, 0), (20, 180, 2, 35), (23, 27, 0, 0), (24, 28, 0, 0), (25, 182, 2, 170), (28, 42, 0, 0), (29, 180, 2, 35), (32, 180, 2, 174), (35, 154, 2, 6), (38, 18, 1, 102)]
theorem da_cX4_surely_0 : fw dt_cX4_surely_0 0 cX4_surely.data.toList = true := by decide +kernel
theorem dX4_surely_0 : decode cX4_surely 0 = .ok (.aload_n 0, 1) := fo_42 (fw_get da_cX4_surely_0 0 rfl)
theorem dX4_surely_1 : decode cX4_surely 1 = .ok (.getfield 12, 3) := fo_180 (fw_get da_cX4_surely_0 1 rfl)
theorem dX4_surely_4 : decode cX4_surely 4 = .ok (.iload_n 1, 1) := fo_27 (fw_get da_cX4_surely_0 2 rfl)
theorem dX4_surely_5 : decode cX4_surely 5 = .ok (.iload_n 2, 1) := fo_28 (fw_get da_cX4_surely_0 3 rfl)
theorem dX4_surely_6 : decode cX4_surely 6 = .ok (.invokevirtual 79, 3) := fo_182 (fw_get da_cX4_surely_0 4 rfl)
theorem dX4_surely_9 : decode cX4_surely 9 = .ok (.ifCond .ne 6, 3) := fo_154 (fw_get da_cX4_surely_0 5 rfl) (by decide +kernel)
theorem dX4_surely_12 : decode cX4_surely 12 = .ok (.ldc 102, 2) := fo_18 (fw_get da_cX4_surely_0 6 rfl)
theorem dX4_surely_14 : decode cX4_surely 14 = .ok (.ireturn, 1) := fo_172 (fw_get da_cX4_surely_0 7 rfl)
theorem dX4_surely_15 : decode cX4_surely 15 = .ok (.aload_n 0, 1) := fo_42 (fw_get da_cX4_surely_0 8 rfl)
theorem dX4_surely_16 : decode cX4_surely 16 = .ok (.invokevirtual 71, 3) := fo_182 (fw_get da_cX4_surely_0 9 rfl)
theorem dX4_surely_19 : decode cX4_surely 19 = .ok (.aload_n 0, 1) := fo_42 (fw_get da_cX4_surely_0 10 rfl)
theorem dX4_surely_20 : decode cX4_surely 20 = .ok (.getfield 35, 3) := fo_180 (fw_get da_cX4_surely_0 11 rfl)
theorem dX4_surely_23 : decode cX4_surely 23 = .ok (.iload_n 1, 1) := fo_27 (fw_get da_cX4_surely_0 12 rfl)
theorem dX4_surely_24 : decode cX4_surely 24 = .ok (.iload_n 2, 1) := fo_28 (fw_get da_cX4_surely_0 13 rfl)
theorem dX4_surely_25 : decode cX4_surely 25 = .ok (.invokevirtual 170, 3) := fo_182 (fw_get da_cX4_surely_0 14 rfl)
theorem dX4_surely_28 : decode cX4_surely 28 = .ok (.aload_n 0, 1) := fo_42 (fw_get da_cX4_surely_0 15 rfl)
theorem dX4_surely_29 : decode cX4_surely 29 = .ok (.getfield 35, 3) := fo_180 (fw_get da_cX4_surely_0 16 rfl)
theorem dX4_surely_32 : decode cX4_surely 32 = .ok (.getfield 174, 3) := fo_180 (fw_get da_cX4_surely_0 17 rfl)
theorem dX4_surely_35 : decode cX4_surely 35 = .ok (.ifCond .ne 6, 3) := fo_154 (fw_get da_cX4_surely_0 18 rfl) (by decide +kernel)
theorem dX4_surely_38 : decode cX4_surely 38 = .ok (.ldc 102, 2) := fo_18 (fw_get da_cX4_surely_0 19 rfl)
def dt_cX4_surely_1 : List (Nat × Nat × Nat × Nat) := [(40, 172, 0, 0), (41, 42, 0, 0), (42, 180, 2, 35), (45, 180, 2, 174), (48, 4, 0, 0), (49, 164, 2, 15), (52, 42, 0, 0), (53, 180, 2, 35), (56, 180, 2, 136), (59, 4, 0, 0), (60, 46, 0, 0), (61, 167, 2, 4), (64, 3, 0, 0), (65, 62, 0, 0), (66, 42, 0, 0), (67, 180, 2, 35), (70, 180, 2, 136), (73, 3, 0, 0), (74, 46, 0, 0), (75, 29, 0, 0)]
theorem da_cX4_surely_1 : fw dt_cX4_surely_1 0 cX4_surely.data.toList = true := by decide +kernel
theorem dX4_surely_40 : decode cX4_surely 40 = .ok (.ireturn, 1) := fo_172 (fw_get da_cX4_surely_1 0 rfl)
theorem dX4_surely_41 : decode cX4_surely 41 = .ok (.aload_n 0, 1) := fo_42 (fw_get da_cX4_surely_1 1 rfl)
theorem dX4_surely_42 : decode cX4_surely 42 = .ok (.getfield 35, 3) := fo_180 (fw_get da_cX4_surely_1 2 rfl)
theorem dX4_surely_45 : decode cX4_surely 45 = .ok (.getfield 174, 3) := fo_180 (fw_get da_cX4_surely_1 3 rfl)
theorem dX4_surely_48 : decode cX4_surely 48 = .ok (.iconst 1, 1) := fo_4 (fw_get da_cX4_surely_1 4 rfl)
theorem dX4_surely_49 : decode cX4_surely 49 = .ok (.if_icmp .le 15, 3) := fo_164 (fw_get da_cX4_surely_1 5 rfl) (by decide +kernel)
theorem dX4_surely_52 : decode cX4_surely 52 = .ok (.aload_n 0, 1) := fo_42 (fw_get da_cX4_surely_1 6 rfl)
theorem dX4_surely_53 : decode cX4_surely 53 = .ok (.getfield 35, 3) := fo_180 (fw_get da_cX4_surely_1 7 rfl)
theorem dX4_surely_56 : decode cX4_surely 56 = .ok (.getfield 136, 3) := fo_180 (fw_get da_cX4_surely_1 8 rfl)
theorem dX4_surely_59 : decode cX4_surely 59 = .ok (.iconst 1, 1) := fo_4 (fw_get da_cX4_surely_1 9 rfl)
theorem dX4_surely_60 : decode cX4_surely 60 = .ok (.iaload, 1) := fo_46 (fw_get da_cX4_surely_1 10 rfl)
theorem dX4_surely_61 : decode cX4_surely 61 = .ok (.goto 4, 3) := fo_167 (fw_get da_cX4_surely_1 11 rfl) (by decide +kernel)
theorem dX4_surely_64 : decode cX4_surely 64 = .ok (.iconst 0, 1) := fo_3 (fw_get da_cX4_surely_1 12 rfl)
theorem dX4_surely_65 : decode cX4_surely 65 = .ok (.istore_n 3, 1) := fo_62 (fw_get da_cX4_surely_1 13 rfl)
theorem dX4_surely_66 : decode cX4_surely 66 = .ok (.aload_n 0, 1) := fo_42 (fw_get da_cX4_surely_1 14 rfl)
theorem dX4_surely_67 : decode cX4_surely 67 = .ok (.getfield 35, 3) := fo_180 (fw_get da_cX4_surely_1 15 rfl)
theorem dX4_surely_70 : decode cX4_surely 70 = .ok (.getfield 136, 3) := fo_180 (fw_get da_cX4_surely_1 16 rfl)
theorem dX4_surely_73 : decode cX4_surely 73 = .ok (.iconst 0, 1) := fo_3 (fw_get da_cX4_surely_1 17 rfl)
theorem dX4_surely_74 : decode cX4_surely 74 = .ok (.iaload, 1) := fo_46 (fw_get da_cX4_surely_1 18 rfl)
theorem dX4_surely_75 : decode cX4_surely 75 = .ok (.iload_n 3, 1) := fo_29 (fw_get da_cX4_surely_1 19 rfl)
def dt_cX4_surely_2 : List (Nat × Nat × Nat × Nat) := [(76, 42, 0, 0), (77, 180, 2, 35), (80, 180, 2, 180), (83, 96, 0, 0), (84, 164, 2, 15), (87, 42, 0, 0), (88, 180, 2, 35), (91, 180, 2, 133), (94, 3, 0, 0), (95, 46, 0, 0), (96, 167, 2, 5), (99, 18, 1, 102), (101, 172, 0, 0)]
theorem da_cX4_surely_2 : fw dt_cX4_surely_2 0 cX4_surely.data.toList = true := by decide +kernel
theorem dX4_surely_76 : decode cX4_surely 76 = .ok (.aload_n 0, 1) := fo_42 (fw_get da_cX4_surely_2 0 rfl)
theorem dX4_surely_77 : decode cX4_surely 77 = .ok (.getfield 35, 3) := fo_180 (fw_get da_cX4_surely_2 1 rfl)
theorem dX4_surely_80 : decode cX4_surely 80 = .ok (.getfield 180, 3) := fo_180 (fw_get da_cX4_surely_2 2 rfl)
theorem dX4_surely_83 : decode cX4_surely 83 = .ok (.iadd, 1) := fo_96 (fw_get da_cX4_surely_2 3 rfl)
theorem dX4_surely_84 : decode cX4_surely 84 = .ok (.if_icmp .le 15, 3) := fo_164 (fw_get da_cX4_surely_2 4 rfl) (by decide +kernel)
theorem dX4_surely_87 : decode cX4_surely 87 = .ok (.aload_n 0, 1) := fo_42 (fw_get da_cX4_surely_2 5 rfl)
theorem dX4_surely_88 : decode cX4_surely 88 = .ok (.getfield 35, 3) := fo_180 (fw_get da_cX4_surely_2 6 rfl)
theorem dX4_surely_91 : decode cX4_surely 91 = .ok (.getfield 133, 3) := fo_180 (fw_get da_cX4_surely_2 7 rfl)
theorem dX4_surely_94 : decode cX4_surely 94 = .ok (.iconst 0, 1) := fo_3 (fw_get da_cX4_surely_2 8 rfl)
theorem dX4_surely_95 : decode cX4_surely 95 = .ok (.iaload, 1) := fo_46 (fw_get da_cX4_surely_2 9 rfl)
theorem dX4_surely_96 : decode cX4_surely 96 = .ok (.goto 5, 3) := fo_167 (fw_get da_cX4_surely_2 10 rfl) (by decide +kernel)
theorem dX4_surely_99 : decode cX4_surely 99 = .ok (.ldc 102, 2) := fo_18 (fw_get da_cX4_surely_2 11 rfl)
theorem dX4_surely_101 : decode cX4_surely 101 = .ok (.ireturn, 1) := fo_172 (fw_get da_cX4_surely_2 12 rfl)
theorem mi_wsX4_heavy_wsX4_heavy_r1 : ∀ w ∈ wsX4_heavy_r1, w ∈ wsX4_heavy := fun _ h => (List.mem_cons_of_mem _ (List.mem_append_left _ (List.mem_append_left _ (List.mem_append_left _ (List.mem_append_left _ (List.mem_append_left _ h))))))
theorem mi_wsX4_heavy_wsX00 : ∀ w ∈ wsX00, w ∈ wsX4_heavy := fun _ h => (List.mem_cons_of_mem _ (List.mem_append_left _ (List.mem_append_right _ h)))
set_option maxRecDepth 20000 in
theorem ggX4_heavy_X0_hasRange : GoodIn wsX4_heavy wsX0_hasRange := goodIn_m _ [(wsX4_heavy_r1, [false, false, false, false, false, false, false, true, true]), (wsX00, [true, true])] (gm_c mi_wsX4_heavy_wsX4_heavy_r1 (gm_c mi_wsX4_heavy_wsX00 gm_n)) rfl (by decide +kernel)
set_option maxRecDepth 20000 in
theorem gX4_heavy_X0_hasRange : GoodIn wsX4_heavy (wsV RX4 79 RX0 yX0_hasRange wsX0_hasRange) := goodIn_app (goodIn_m _ [(wsX4_heavy_r1, [false, false, false, true, true, true, true])] (gm_c mi_wsX4_heavy_wsX4_heavy_r1 gm_n) rfl (by decide +kernel)) ggX4_heavy_X0_hasRange
set_option maxRecDepth 20000 in
theorem ggX4_heavy_X4_isShare : GoodIn wsX4_heavy wsX4_isShare := goodIn_m _ [(wsX4_heavy_r1, [false, false, false, false, false, false, false, false, false, false, false, false, true])] (gm_c mi_wsX4_heavy_wsX4_heavy_r1 gm_n) rfl (by decide +kernel)
set_option maxRecDepth 20000 in
theorem gX4_heavy_X4_isShare : GoodIn wsX4_heavy (va_wsS RX4 186 yX4_isShare wsX4_isShare) := goodIn_app (goodIn_m _ [(wsX4_heavy_r1, [false, false, false, false, false, false, false, false, false, true, true, true])] (gm_c mi_wsX4_heavy_wsX4_heavy_r1 gm_n) rfl (by decide +kernel)) ggX4_heavy_X4_isShare
theorem mi_wsX4_heavy_wsX40 : ∀ w ∈ wsX40, w ∈ wsX4_heavy := fun _ h => (List.mem_cons_of_mem _ (List.mem_append_left _ (List.mem_append_left _ (List.mem_append_left _ (List.mem_append_right _ h)))))
set_option maxRecDepth 20000 in
theorem ggX4_heavy_X4_isEnough : GoodIn wsX4_heavy wsX4_isEnough := goodIn_m _ [(wsX4_heavy_r1, [false, false, false, false, false, false, false, false, false, false, false, false, false, false, false, false, true, true]), (wsX40, [true, true, true, true, true, true, true, true, true])] (gm_c mi_wsX4_heavy_wsX4_heavy_r1 (gm_c mi_wsX4_heavy_wsX40 gm_n)) rfl (by decide +kernel)
set_option maxRecDepth 20000 in
theorem gX4_heavy_X4_isEnough : GoodIn wsX4_heavy (wsV RX4 189 RX4 yX4_isEnough wsX4_isEnough) := goodIn_app (goodIn_m _ [(wsX4_heavy_r1, [false, false, false, false, false, false, false, false, false, false, false, false, false, true, true, true]), (wsX4_heavy_r1, [false, false, false, false, false, false, false, false, false, false, false, true])] (gm_c mi_wsX4_heavy_wsX4_heavy_r1 (gm_c mi_wsX4_heavy_wsX4_heavy_r1 gm_n)) rfl (by decide +kernel)) ggX4_heavy_X4_isEnough
theorem mi_wsX4_heavy_wsX4_heavy_r2 : ∀ w ∈ wsX4_heavy_r2, w ∈ wsX4_heavy := fun _ h => (List.mem_cons_of_mem _ (List.mem_append_left _ (List.mem_append_left _ (List.mem_append_left _ (List.mem_append_left _ (List.mem_append_right _ (List.mem_append_left _ h)))))))
theorem mi_wsX4_heavy_wsX4_heavy_r3 : ∀ w ∈ wsX4_heavy_r3, w ∈ wsX4_heavy := fun _ h => (List.mem_cons_of_mem _ (List.mem_append_left _ (List.mem_append_left _ (List.mem_append_left _ (List.mem_append_left _ (List.mem_append_right _ (List.mem_append_right _ (List.mem_append_left _ h))))))))
theorem mi_wsX4_heavy_wsX4_heavy_r4 : ∀ w ∈ wsX4_heavy_r4, w ∈ wsX4_heavy := fun _ h => (List.mem_cons_of_mem _ (List.mem_append_left _ (List.mem_append_left _ (List.mem_append_left _ (List.mem_append_left _ (List.mem_append_right _ (List.mem_append_right _ (List.mem_append_right _ (List.mem_append_left _ h)))))))))
theorem mi_wsX4_heavy_wsX4_heavy_r5 : ∀ w ∈ wsX4_heavy_r5, w ∈ wsX4_heavy := fun _ h => (List.mem_cons_of_mem _ (List.mem_append_left _ (List.mem_append_left _ (List.mem_append_left _ (List.mem_append_left _ (List.mem_append_right _ (List.mem_append_right _ (List.mem_append_right _ (List.mem_append_right _ (List.mem_append_left _ h))))))))))
theorem mi_wsX4_heavy_wsX20 : ∀ w ∈ wsX20, w ∈ wsX4_heavy := fun _ h => (List.mem_cons_of_mem _ (List.mem_append_right _ h))
theorem mi_wsX4_heavy_wsX30 : ∀ w ∈ wsX30, w ∈ wsX4_heavy := fun _ h => (List.mem_cons_of_mem _ (List.mem_append_left _ (List.mem_append_left _ (List.mem_append_right _ h))))
set_option maxRecDepth 20000 in
theorem ggX4_heavy_X4_laidTree : GoodIn wsX4_heavy wsX4_laidTree := goodIn_m _ [(wsX4_heavy_r1, [false, false, false, false, false, false, false, false, false, false, false, false, false, false, false, false, false, false, false, false, false, true, true, true]), (wsX4_heavy_r1, [false, false, false, false, false, false, false, false, false, false, false, false, false, false, false, false, false, true]), (wsX4_heavy_r2, [true]), (wsX4_heavy_r1, [true]), (wsX4_heavy_r2, [false, true, true, true, true, true, true, true, true, true, true, true, true, true, true, true, true, true, true, true, true, true, true, true]), (wsX4_heavy_r3, [true, true, true, true, true, true, true, true, true, true, true, true, true, true, true, true, true, true, true, true, true, true, true, true]), (wsX4_heavy_r4, [true, true, true, true, true, true, true, true, true, true, true, true, true, true, true, true, true, true, true, true, true, true, true, true]), (wsX4_heavy_r5, [true, true, true, true, true, true, true, true, true, true, true, true, true, true, true]), (wsX40, [true, true, true, true, true, true, true, true, true]), (wsX20, [true, true, true, true, true, true, true, true, true, true, true]), (wsX00, [true, true]), (wsX30, [true, true, true, true, true])] (gm_c mi_wsX4_heavy_wsX4_heavy_r1 (gm_c mi_wsX4_heavy_wsX4_heavy_r1 (gm_c mi_wsX4_heavy_wsX4_heavy_r2 (gm_c mi_wsX4_heavy_wsX4_heavy_r1 (gm_c mi_wsX4_heavy_wsX4_heavy_r2 (gm_c mi_wsX4_heavy_wsX4_heavy_r3 (gm_c mi_wsX4_heavy_wsX4_heavy_r4 (gm_c mi_wsX4_heavy_wsX4_heavy_r5 (gm_c mi_wsX4_heavy_wsX40 (gm_c mi_wsX4_heavy_wsX20 (gm_c mi_wsX4_heavy_wsX00 (gm_c mi_wsX4_heavy_wsX30 gm_n)))))))))))) rfl (by decide +kernel)
set_option maxRecDepth 20000 in
theorem gX4_heavy_X4_laidTree : GoodIn wsX4_heavy (wsV RX4 71 RX4 yX4_laidTree wsX4_laidTree) := goodIn_app (goodIn_m _ [(wsX4_heavy_r1, [false, false, false, false, false, false, false, false, false, false, false, false, false, false, false, false, false, false, true, true, true]), (wsX4_heavy_r1, [false, false, false, false, false, false, false, false, false, false, false, true])] (gm_c mi_wsX4_heavy_wsX4_heavy_r1 (gm_c mi_wsX4_heavy_wsX4_heavy_r1 gm_n)) rfl (by decide +kernel)) ggX4_heavy_X4_laidTree
theorem mi_wsX4_heavy_wsX4_heavy_r6 : ∀ w ∈ wsX4_heavy_r6, w ∈ wsX4_heavy := fun _ h => (List.mem_cons_of_mem _ (List.mem_append_left _ (List.mem_append_left _ (List.mem_append_left _ (List.mem_append_left _ (List.mem_append_right _ (List.mem_append_right _ (List.mem_append_right _ (List.mem_append_right _ (List.mem_append_right _ h))))))))))
set_option maxRecDepth 20000 in
theorem ggX4_heavy_X4_gatherHeavy : GoodIn wsX4_heavy wsX4_gatherHeavy := goodIn_m _ [(wsX4_heavy_r5, [false, false, false, false, false, false, false, false, false, false, false, false, false, false, false, false, false, false, true]), (wsX4_heavy_r1, [false, true, true]), (wsX4_heavy_r5, [false, false, false, false, false, false, false, false, false, false, false, false, false, false, false, false, false, false, false, true]), (wsX4_heavy_r1, [true]), (wsX4_heavy_r5, [false, false, false, false, false, false, false, false, false, false, false, false, false, false, false, false, false, false, false, false, true, true, true, true]), (wsX4_heavy_r2, [false, false, false, false, false, true]), (wsX4_heavy_r6, [true]), (wsX4_heavy_r2, [false, false, false, false, false, false, false, false, false, true, false, true]), (wsX4_heavy_r3, [false, false, false, false, false, false, true, true, true, true, true, true, true, true, true]), (wsX4_heavy_r6, [false, true, true, true, true]), (wsX4_heavy_r2, [false, false, false, false, false, false, false, false, false, false, true]), (wsX4_heavy_r3, [false, false, false, false, false, false, false, false, false, false, false, false, false, false, false, false, false, false, false, false, false, true, true, true]), (wsX4_heavy_r4, [true, true, true, true, true, true]), (wsX4_heavy_r3, [false, false, false, false, false, false, false, false, false, false, false, false, false, false, false, true, true, true, true, true, true]), (wsX4_heavy_r4, [false, false, false, false, false, false, true, true, true, true, true, true, true, true, true, true, true, true, true, true, true, true]), (wsX4_heavy_r6, [false, false, false, false, false, true, true, true]), (wsX4_heavy_r1, [false, false, false, false, false, false, true]), (wsX4_heavy_r6, [false, false, false, false, false, false, false, false, true, true, true, true, true, true, true]), (wsX4_heavy_r1, [false, false, false, false, false, false, false, false, false, false, false, true]), (wsX4_heavy_r6, [false, false, false, false, false, false, false, false, false, false, false, false, false, false, false, true]), (wsX40, [true, true, true, true, true, true, true, true, true]), (wsX30, [true, true, true, true, true]), (wsX20, [true, true, true, true, true, true, true, true, true, true, true]), (wsX00, [true, true])] (gm_c mi_wsX4_heavy_wsX4_heavy_r5 (gm_c mi_wsX4_heavy_wsX4_heavy_r1 (gm_c mi_wsX4_heavy_wsX4_heavy_r5 (gm_c mi_wsX4_heavy_wsX4_heavy_r1 (gm_c mi_wsX4_heavy_wsX4_heavy_r5 (gm_c mi_wsX4_heavy_wsX4_heavy_r2 (gm_c mi_wsX4_heavy_wsX4_heavy_r6 (gm_c mi_wsX4_heavy_wsX4_heavy_r2 (gm_c mi_wsX4_heavy_wsX4_heavy_r3 (gm_c mi_wsX4_heavy_wsX4_heavy_r6 (gm_c mi_wsX4_heavy_wsX4_heavy_r2 (gm_c mi_wsX4_heavy_wsX4_heavy_r3 (gm_c mi_wsX4_heavy_wsX4_heavy_r4 (gm_c mi_wsX4_heavy_wsX4_heavy_r3 (gm_c mi_wsX4_heavy_wsX4_heavy_r4 (gm_c mi_wsX4_heavy_wsX4_heavy_r6 (gm_c mi_wsX4_heavy_wsX4_heavy_r1 (gm_c mi_wsX4_heavy_wsX4_heavy_r6 (gm_c mi_wsX4_heavy_wsX4_heavy_r1 (gm_c mi_wsX4_heavy_wsX4_heavy_r6 (gm_c mi_wsX4_heavy_wsX40 (gm_c mi_wsX4_heavy_wsX30 (gm_c mi_wsX4_heavy_wsX20 (gm_c mi_wsX4_heavy_wsX00 gm_n)))))))))))))))))))))))) rfl (by decide +kernel)
set_option maxRecDepth 20000 in
theorem gX4_heavy_X4_gatherHeavy : GoodIn wsX4_heavy (wsV RX4 192 RX4 yX4_gatherHeavy wsX4_gatherHeavy) := goodIn_app (goodIn_m _ [(wsX4_heavy_r5, [false, false, false, false, false, false, false, false, false, false, false, false, false, false, false, true, true, true]), (wsX4_heavy_r1, [false, false, false, false, false, false, false, false, false, false, false, true])] (gm_c mi_wsX4_heavy_wsX4_heavy_r5 (gm_c mi_wsX4_heavy_wsX4_heavy_r1 gm_n)) rfl (by decide +kernel)) ggX4_heavy_X4_gatherHeavy
def dt_cX4_heavy_0 : List (Nat × Nat × Nat × Nat) := [(0, 42, 0, 0), (1, 180, 2, 12), (4, 27, 0, 0), (5, 28, 0, 0), (6, 182, 2, 79), (9, 153, 2, 12), (12, 29, 0, 0), (13, 21, 1, 4), (15, 184, 2, 186), (18, 154, 2, 5), (21, 2, 0, 0), (22, 172, 0, 0), (23, 42, 0, 0), (24, 29, 0, 0), (25, 21, 1, 4), (27, 182, 2, 189), (30, 154, 2, 6), (33, 16, 1, 254), (35, 172, 0, 0), (36, 42, 0, 0)]
theorem da_cX4_heavy_0 : fw dt_cX4_heavy_0 0 cX4_heavy.data.toList = true := by decide +kernel
theorem dX4_heavy_0 : decode cX4_heavy 0 = .ok (.aload_n 0, 1) := fo_42 (fw_get da_cX4_heavy_0 0 rfl)
theorem dX4_heavy_1 : decode cX4_heavy 1 = .ok (.getfield 12, 3) := fo_180 (fw_get da_cX4_heavy_0 1 rfl)
theorem dX4_heavy_4 : decode cX4_heavy 4 = .ok (.iload_n 1, 1) := fo_27 (fw_get da_cX4_heavy_0 2 rfl)
theorem dX4_heavy_5 : decode cX4_heavy 5 = .ok (.iload_n 2, 1) := fo_28 (fw_get da_cX4_heavy_0 3 rfl)
theorem dX4_heavy_6 : decode cX4_heavy 6 = .ok (.invokevirtual 79, 3) := fo_182 (fw_get da_cX4_heavy_0 4 rfl)
theorem dX4_heavy_9 : decode cX4_heavy 9 = .ok (.ifCond .eq 12, 3) := fo_153 (fw_get da_cX4_heavy_0 5 rfl) (by decide +kernel)
theorem dX4_heavy_12 : decode cX4_heavy 12 = .ok (.iload_n 3, 1) := fo_29 (fw_get da_cX4_heavy_0 6 rfl)
theorem dX4_heavy_13 : decode cX4_heavy 13 = .ok (.iload 4, 2) := fo_21 (fw_get da_cX4_heavy_0 7 rfl)
theorem dX4_heavy_15 : decode cX4_heavy 15 = .ok (.invokestatic 186, 3) := fo_184 (fw_get da_cX4_heavy_0 8 rfl)
theorem dX4_heavy_18 : decode cX4_heavy 18 = .ok (.ifCond .ne 5, 3) := fo_154 (fw_get da_cX4_heavy_0 9 rfl) (by decide +kernel)
theorem dX4_heavy_21 : decode cX4_heavy 21 = .ok (.iconst (-1), 1) := fo_2 (fw_get da_cX4_heavy_0 10 rfl)
theorem dX4_heavy_22 : decode cX4_heavy 22 = .ok (.ireturn, 1) := fo_172 (fw_get da_cX4_heavy_0 11 rfl)
theorem dX4_heavy_23 : decode cX4_heavy 23 = .ok (.aload_n 0, 1) := fo_42 (fw_get da_cX4_heavy_0 12 rfl)
theorem dX4_heavy_24 : decode cX4_heavy 24 = .ok (.iload_n 3, 1) := fo_29 (fw_get da_cX4_heavy_0 13 rfl)
theorem dX4_heavy_25 : decode cX4_heavy 25 = .ok (.iload 4, 2) := fo_21 (fw_get da_cX4_heavy_0 14 rfl)
theorem dX4_heavy_27 : decode cX4_heavy 27 = .ok (.invokevirtual 189, 3) := fo_182 (fw_get da_cX4_heavy_0 15 rfl)
theorem dX4_heavy_30 : decode cX4_heavy 30 = .ok (.ifCond .ne 6, 3) := fo_154 (fw_get da_cX4_heavy_0 16 rfl) (by decide +kernel)
theorem dX4_heavy_33 : decode cX4_heavy 33 = .ok (.bipush (-2), 2) := fo_16 (fw_get da_cX4_heavy_0 17 rfl) (by decide +kernel)
theorem dX4_heavy_35 : decode cX4_heavy 35 = .ok (.ireturn, 1) := fo_172 (fw_get da_cX4_heavy_0 18 rfl)
theorem dX4_heavy_36 : decode cX4_heavy 36 = .ok (.aload_n 0, 1) := fo_42 (fw_get da_cX4_heavy_0 19 rfl)
def dt_cX4_heavy_1 : List (Nat × Nat × Nat × Nat) := [(37, 42, 0, 0), (38, 182, 2, 71), (41, 27, 0, 0), (42, 28, 0, 0), (43, 29, 0, 0), (44, 21, 1, 4), (46, 182, 2, 192), (49, 42, 0, 0), (50, 180, 2, 35), (53, 180, 2, 174), (56, 172, 0, 0)]
theorem da_cX4_heavy_1 : fw dt_cX4_heavy_1 0 cX4_heavy.data.toList = true := by decide +kernel
theorem dX4_heavy_37 : decode cX4_heavy 37 = .ok (.aload_n 0, 1) := fo_42 (fw_get da_cX4_heavy_1 0 rfl)
theorem dX4_heavy_38 : decode cX4_heavy 38 = .ok (.invokevirtual 71, 3) := fo_182 (fw_get da_cX4_heavy_1 1 rfl)
theorem dX4_heavy_41 : decode cX4_heavy 41 = .ok (.iload_n 1, 1) := fo_27 (fw_get da_cX4_heavy_1 2 rfl)
theorem dX4_heavy_42 : decode cX4_heavy 42 = .ok (.iload_n 2, 1) := fo_28 (fw_get da_cX4_heavy_1 3 rfl)
theorem dX4_heavy_43 : decode cX4_heavy 43 = .ok (.iload_n 3, 1) := fo_29 (fw_get da_cX4_heavy_1 4 rfl)
theorem dX4_heavy_44 : decode cX4_heavy 44 = .ok (.iload 4, 2) := fo_21 (fw_get da_cX4_heavy_1 5 rfl)
theorem dX4_heavy_46 : decode cX4_heavy 46 = .ok (.invokevirtual 192, 3) := fo_182 (fw_get da_cX4_heavy_1 6 rfl)
theorem dX4_heavy_49 : decode cX4_heavy 49 = .ok (.aload_n 0, 1) := fo_42 (fw_get da_cX4_heavy_1 7 rfl)
theorem dX4_heavy_50 : decode cX4_heavy 50 = .ok (.getfield 35, 3) := fo_180 (fw_get da_cX4_heavy_1 8 rfl)
theorem dX4_heavy_53 : decode cX4_heavy 53 = .ok (.getfield 174, 3) := fo_180 (fw_get da_cX4_heavy_1 9 rfl)
theorem dX4_heavy_56 : decode cX4_heavy 56 = .ok (.ireturn, 1) := fo_172 (fw_get da_cX4_heavy_1 10 rfl)
theorem mi_wsX4_failed_wsX4_failed_r1 : ∀ w ∈ wsX4_failed_r1, w ∈ wsX4_failed := fun _ h => (List.mem_cons_of_mem _ (List.mem_append_left _ (List.mem_append_left _ (List.mem_append_left _ (List.mem_append_left _ (List.mem_append_left _ h))))))
theorem mi_wsX4_failed_wsX00 : ∀ w ∈ wsX00, w ∈ wsX4_failed := fun _ h => (List.mem_cons_of_mem _ (List.mem_append_left _ (List.mem_append_right _ h)))
set_option maxRecDepth 20000 in
theorem ggX4_failed_X0_hasRange : GoodIn wsX4_failed wsX0_hasRange := goodIn_m _ [(wsX4_failed_r1, [false, false, false, false, false, false, false, true, true]), (wsX00, [true, true])] (gm_c mi_wsX4_failed_wsX4_failed_r1 (gm_c mi_wsX4_failed_wsX00 gm_n)) rfl (by decide +kernel)
set_option maxRecDepth 20000 in
theorem gX4_failed_X0_hasRange : GoodIn wsX4_failed (wsV RX4 79 RX0 yX0_hasRange wsX0_hasRange) := goodIn_app (goodIn_m _ [(wsX4_failed_r1, [false, false, false, true, true, true, true])] (gm_c mi_wsX4_failed_wsX4_failed_r1 gm_n) rfl (by decide +kernel)) ggX4_failed_X0_hasRange
set_option maxRecDepth 20000 in
theorem ggX4_failed_X4_isShare : GoodIn wsX4_failed wsX4_isShare := goodIn_m _ [(wsX4_failed_r1, [false, false, false, false, false, false, false, false, false, false, false, false, true])] (gm_c mi_wsX4_failed_wsX4_failed_r1 gm_n) rfl (by decide +kernel)
set_option maxRecDepth 20000 in
theorem gX4_failed_X4_isShare : GoodIn wsX4_failed (va_wsS RX4 186 yX4_isShare wsX4_isShare) := goodIn_app (goodIn_m _ [(wsX4_failed_r1, [false, false, false, false, false, false, false, false, false, true, true, true])] (gm_c mi_wsX4_failed_wsX4_failed_r1 gm_n) rfl (by decide +kernel)) ggX4_failed_X4_isShare
theorem mi_wsX4_failed_wsX40 : ∀ w ∈ wsX40, w ∈ wsX4_failed := fun _ h => (List.mem_cons_of_mem _ (List.mem_append_left _ (List.mem_append_left _ (List.mem_append_left _ (List.mem_append_right _ h)))))
set_option maxRecDepth 20000 in
theorem ggX4_failed_X4_isEnough : GoodIn wsX4_failed wsX4_isEnough := goodIn_m _ [(wsX4_failed_r1, [false, false, false, false, false, false, false, false, false, false, false, false, false, false, false, false, true, true]), (wsX40, [true, true, true, true, true, true, true, true, true])] (gm_c mi_wsX4_failed_wsX4_failed_r1 (gm_c mi_wsX4_failed_wsX40 gm_n)) rfl (by decide +kernel)
set_option maxRecDepth 20000 in
theorem gX4_failed_X4_isEnough : GoodIn wsX4_failed (wsV RX4 189 RX4 yX4_isEnough wsX4_isEnough) := goodIn_app (goodIn_m _ [(wsX4_failed_r1, [false, false, false, false, false, false, false, false, false, false, false, false, false, true, true, true]), (wsX4_failed_r1, [false, false, false, false, false, false, false, false, false, false, false, true])] (gm_c mi_wsX4_failed_wsX4_failed_r1 (gm_c mi_wsX4_failed_wsX4_failed_r1 gm_n)) rfl (by decide +kernel)) ggX4_failed_X4_isEnough
theorem mi_wsX4_failed_wsX4_failed_r2 : ∀ w ∈ wsX4_failed_r2, w ∈ wsX4_failed := fun _ h => (List.mem_cons_of_mem _ (List.mem_append_left _ (List.mem_append_left _ (List.mem_append_left _ (List.mem_append_left _ (List.mem_append_right _ (List.mem_append_left _ h)))))))
theorem mi_wsX4_failed_wsX4_failed_r3 : ∀ w ∈ wsX4_failed_r3, w ∈ wsX4_failed := fun _ h => (List.mem_cons_of_mem _ (List.mem_append_left _ (List.mem_append_left _ (List.mem_append_left _ (List.mem_append_left _ (List.mem_append_right _ (List.mem_append_right _ (List.mem_append_left _ h))))))))
theorem mi_wsX4_failed_wsX4_failed_r4 : ∀ w ∈ wsX4_failed_r4, w ∈ wsX4_failed := fun _ h => (List.mem_cons_of_mem _ (List.mem_append_left _ (List.mem_append_left _ (List.mem_append_left _ (List.mem_append_left _ (List.mem_append_right _ (List.mem_append_right _ (List.mem_append_right _ (List.mem_append_left _ h)))))))))
theorem mi_wsX4_failed_wsX4_failed_r5 : ∀ w ∈ wsX4_failed_r5, w ∈ wsX4_failed := fun _ h => (List.mem_cons_of_mem _ (List.mem_append_left _ (List.mem_append_left _ (List.mem_append_left _ (List.mem_append_left _ (List.mem_append_right _ (List.mem_append_right _ (List.mem_append_right _ (List.mem_append_right _ (List.mem_append_left _ h))))))))))
theorem mi_wsX4_failed_wsX20 : ∀ w ∈ wsX20, w ∈ wsX4_failed := fun _ h => (List.mem_cons_of_mem _ (List.mem_append_right _ h))
theorem mi_wsX4_failed_wsX30 : ∀ w ∈ wsX30, w ∈ wsX4_failed := fun _ h => (List.mem_cons_of_mem _ (List.mem_append_left _ (List.mem_append_left _ (List.mem_append_right _ h))))
set_option maxRecDepth 20000 in
theorem ggX4_failed_X4_laidTree : GoodIn wsX4_failed wsX4_laidTree := goodIn_m _ [(wsX4_failed_r1, [false, false, false, false, false, false, false, false, false, false, false, false, false, false, false, false, false, false, false, false, false, true, true, true]), (wsX4_failed_r1, [false, false, false, false, false, false, false, false, false, false, false, false, false, false, false, false, false, true]), (wsX4_failed_r2, [true]), (wsX4_failed_r1, [true]), (wsX4_failed_r2, [false, true, true, true, true, true, true, true, true, true, true, true, true, true, true, true, true, true, true, true, true, true, true, true]), (wsX4_failed_r3, [true, true, true, true, true, true, true, true, true, true, true, true, true, true, true, true, true, true, true, true, true, true, true, true]), (wsX4_failed_r4, [true, true, true, true, true, true, true, true, true, true, true, true, true, true, true, true, true, true, true, true, true, true, true, true]), (wsX4_failed_r5, [true, true, true, true, true, true, true, true, true, true, true, true, true, true, true]), (wsX40, [true, true, true, true, true, true, true, true, true]), (wsX20, [true, true, true, true, true, true, true, true, true, true, true]), (wsX00, [true, true]), (wsX30, [true, true, true, true, true])] (gm_c mi_wsX4_failed_wsX4_failed_r1 (gm_c mi_wsX4_failed_wsX4_failed_r1 (gm_c mi_wsX4_failed_wsX4_failed_r2 (gm_c mi_wsX4_failed_wsX4_failed_r1 (gm_c mi_wsX4_failed_wsX4_failed_r2 (gm_c mi_wsX4_failed_wsX4_failed_r3 (gm_c mi_wsX4_failed_wsX4_failed_r4 (gm_c mi_wsX4_failed_wsX4_failed_r5 (gm_c mi_wsX4_failed_wsX40 (gm_c mi_wsX4_failed_wsX20 (gm_c mi_wsX4_failed_wsX00 (gm_c mi_wsX4_failed_wsX30 gm_n)))))))))))) rfl (by decide +kernel)
set_option maxRecDepth 20000 in
theorem gX4_failed_X4_laidTree : GoodIn wsX4_failed (wsV RX4 71 RX4 yX4_laidTree wsX4_laidTree) := goodIn_app (goodIn_m _ [(wsX4_failed_r1, [false, false, false, false, false, false, false, false, false, false, false, false, false, false, false, false, false, false, true, true, true]), (wsX4_failed_r1, [false, false, false, false, false, false, false, false, false, false, false, true])] (gm_c mi_wsX4_failed_wsX4_failed_r1 (gm_c mi_wsX4_failed_wsX4_failed_r1 gm_n)) rfl (by decide +kernel)) ggX4_failed_X4_laidTree
set_option maxRecDepth 20000 in
theorem ggX4_failed_X2_gather : GoodIn wsX4_failed wsX2_gather := goodIn_m _ [(wsX4_failed_r5, [false, false, false, false, false, false, false, false, false, false, false, false, false, false, false, false, false, false, true]), (wsX4_failed_r2, [false, false, false, false, false, false, false, false, false, true, false, true]), (wsX4_failed_r3, [false, false, false, false, false, false, true, true, true, true, true, true, true, true, true]), (wsX4_failed_r5, [false, false, false, false, false, false, false, false, false, false, false, false, false, false, false, false, false, false, false, true, true, true]), (wsX4_failed_r2, [false, false, false, false, false, true]), (wsX4_failed_r5, [false, false, false, false, false, false, false, false, false, false, false, false, false, false, false, false, false, false, false, false, false, false, true]), (wsX4_failed_r2, [false, false, false, false, false, false, false, false, false, false, true]), (wsX4_failed_r3, [false, false, false, false, false, false, false, false, false, false, false, false, false, false, false, false, false, false, false, false, false, true, true, true]), (wsX4_failed_r4, [true, true, true, true, true, true]), (wsX4_failed_r3, [false, false, false, false, false, false, false, false, false, false, false, false, false, false, false, true, true, true, true, true, true]), (wsX4_failed_r4, [false, false, false, false, false, false, true, true, true, true, true, true, true, true, true, true, true, true, true, true, true, true]), (wsX20, [true, true, true, true, true, true, true, true, true, true, true]), (wsX30, [true, true, true, true, true])] (gm_c mi_wsX4_failed_wsX4_failed_r5 (gm_c mi_wsX4_failed_wsX4_failed_r2 (gm_c mi_wsX4_failed_wsX4_failed_r3 (gm_c mi_wsX4_failed_wsX4_failed_r5 (gm_c mi_wsX4_failed_wsX4_failed_r2 (gm_c mi_wsX4_failed_wsX4_failed_r5 (gm_c mi_wsX4_failed_wsX4_failed_r2 (gm_c mi_wsX4_failed_wsX4_failed_r3 (gm_c mi_wsX4_failed_wsX4_failed_r4 (gm_c mi_wsX4_failed_wsX4_failed_r3 (gm_c mi_wsX4_failed_wsX4_failed_r4 (gm_c mi_wsX4_failed_wsX20 (gm_c mi_wsX4_failed_wsX30 gm_n))))))))))))) rfl (by decide +kernel)
set_option maxRecDepth 20000 in
theorem gX4_failed_X2_gather : GoodIn wsX4_failed (wsV RX4 170 RX2 yX2_gather wsX2_gather) := goodIn_app (goodIn_m _ [(wsX4_failed_r5, [false, false, false, false, false, false, false, false, false, false, false, false, false, false, false, true, true, true]), (wsX4_failed_r2, [false, false, false, false, false, true])] (gm_c mi_wsX4_failed_wsX4_failed_r5 (gm_c mi_wsX4_failed_wsX4_failed_r2 gm_n)) rfl (by decide +kernel)) ggX4_failed_X2_gather
theorem mi_wsX4_failed_wsX4_failed_r6 : ∀ w ∈ wsX4_failed_r6, w ∈ wsX4_failed := fun _ h => (List.mem_cons_of_mem _ (List.mem_append_left _ (List.mem_append_left _ (List.mem_append_left _ (List.mem_append_left _ (List.mem_append_right _ (List.mem_append_right _ (List.mem_append_right _ (List.mem_append_right _ (List.mem_append_right _ h))))))))))
set_option maxRecDepth 20000 in
theorem ggX4_failed_X4_gatherHeavy : GoodIn wsX4_failed wsX4_gatherHeavy := goodIn_m _ [(wsX4_failed_r6, [false, false, true]), (wsX4_failed_r1, [false, true, true]), (wsX4_failed_r6, [false, false, false, true]), (wsX4_failed_r1, [true]), (wsX4_failed_r6, [false, false, false, false, true]), (wsX4_failed_r5, [false, false, false, false, false, false, false, false, false, false, false, false, false, false, false, true, true, true]), (wsX4_failed_r2, [false, false, false, false, false, true]), (wsX4_failed_r5, [false, false, false, false, false, false, false, false, false, false, false, false, false, false, false, false, false, false, true]), (wsX4_failed_r2, [false, false, false, false, false, false, false, false, false, true, false, true]), (wsX4_failed_r3, [false, false, false, false, false, false, true, true, true, true, true, true, true, true, true]), (wsX4_failed_r5, [false, false, false, false, false, false, false, false, false, false, false, false, false, false, false, false, false, false, false, true, true, true, true]), (wsX4_failed_r2, [false, false, false, false, false, false, false, false, false, false, true]), (wsX4_failed_r3, [false, false, false, false, false, false, false, false, false, false, false, false, false, false, false, false, false, false, false, false, false, true, true, true]), (wsX4_failed_r4, [true, true, true, true, true, true]), (wsX4_failed_r3, [false, false, false, false, false, false, false, false, false, false, false, false, false, false, false, true, true, true, true, true, true]), (wsX4_failed_r4, [false, false, false, false, false, false, true, true, true, true, true, true, true, true, true, true, true, true, true, true, true, true]), (wsX4_failed_r6, [false, false, false, false, false, true, true, true]), (wsX4_failed_r1, [false, false, false, false, false, false, true]), (wsX4_failed_r6, [false, false, false, false, false, false, false, false, true, true, true, true, true, true, true]), (wsX4_failed_r1, [false, false, false, false, false, false, false, false, false, false, false, true]), (wsX4_failed_r6, [false, false, false, false, false, false, false, false, false, false, false, false, false, false, false, true]), (wsX40, [true, true, true, true, true, true, true, true, true]), (wsX30, [true, true, true, true, true]), (wsX20, [true, true, true, true, true, true, true, true, true, true, true]), (wsX00, [true, true])] (gm_c mi_wsX4_failed_wsX4_failed_r6 (gm_c mi_wsX4_failed_wsX4_failed_r1 (gm_c mi_wsX4_failed_wsX4_failed_r6 (gm_c mi_wsX4_failed_wsX4_failed_r1 (gm_c mi_wsX4_failed_wsX4_failed_r6 (gm_c mi_wsX4_failed_wsX4_failed_r5 (gm_c mi_wsX4_failed_wsX4_failed_r2 (gm_c mi_wsX4_failed_wsX4_failed_r5 (gm_c mi_wsX4_failed_wsX4_failed_r2 (gm_c mi_wsX4_failed_wsX4_failed_r3 (gm_c mi_wsX4_failed_wsX4_failed_r5 (gm_c mi_wsX4_failed_wsX4_failed_r2 (gm_c mi_wsX4_failed_wsX4_failed_r3 (gm_c mi_wsX4_failed_wsX4_failed_r4 (gm_c mi_wsX4_failed_wsX4_failed_r3 (gm_c mi_wsX4_failed_wsX4_failed_r4 (gm_c mi_wsX4_failed_wsX4_failed_r6 (gm_c mi_wsX4_failed_wsX4_failed_r1 (gm_c mi_wsX4_failed_wsX4_failed_r6 (gm_c mi_wsX4_failed_wsX4_failed_r1 (gm_c mi_wsX4_failed_wsX4_failed_r6 (gm_c mi_wsX4_failed_wsX40 (gm_c mi_wsX4_failed_wsX30 (gm_c mi_wsX4_failed_wsX20 (gm_c mi_wsX4_failed_wsX00 gm_n))))))))))))))))))))))))) rfl (by decide +kernel)
set_option maxRecDepth 20000 in
theorem gX4_failed_X4_gatherHeavy : GoodIn wsX4_failed (wsV RX4 192 RX4 yX4_gatherHeavy wsX4_gatherHeavy) := goodIn_app (goodIn_m _ [(wsX4_failed_r5, [false, false, false, false, false, false, false, false, false, false, false, false, false, false, false, false, false, false, false, false, false, false, false, true]), (wsX4_failed_r6, [true, true]), (wsX4_failed_r1, [false, false, false, false, false, false, false, false, false, false, false, true])] (gm_c mi_wsX4_failed_wsX4_failed_r5 (gm_c mi_wsX4_failed_wsX4_failed_r6 (gm_c mi_wsX4_failed_wsX4_failed_r1 gm_n))) rfl (by decide +kernel)) ggX4_failed_X4_gatherHeavy
def dt_cX4_failed_0 : List (Nat × Nat × Nat × Nat) := [(0, 42, 0, 0), (1, 180, 2, 12), (4, 27, 0, 0), (5, 28, 0, 0), (6, 182, 2, 79), (9, 153, 2, 12), (12, 29, 0, 0), (13, 21, 1, 4), (15, 184, 2, 186), (18, 154, 2, 5), (21, 2, 0, 0), (22, 172, 0, 0), (23, 42, 0, 0), (24, 29, 0, 0), (25, 21, 1, 4), (27, 182, 2, 189), (30, 154, 2, 6), (33, 16, 1, 254), (35, 172, 0, 0), (36, 42, 0, 0)]
theorem da_cX4_failed_0 : fw dt_cX4_failed_0 0 cX4_failed.data.toList = true := by decide +kernel
theorem dX4_failed_0 : decode cX4_failed 0 = .ok (.aload_n 0, 1) := fo_42 (fw_get da_cX4_failed_0 0 rfl)
theorem dX4_failed_1 : decode cX4_failed 1 = .ok (.getfield 12, 3) := fo_180 (fw_get da_cX4_failed_0 1 rfl)
theorem dX4_failed_4 : decode cX4_failed 4 = .ok (.iload_n 1, 1) := fo_27 (fw_get da_cX4_failed_0 2 rfl)
theorem dX4_failed_5 : decode cX4_failed 5 = .ok (.iload_n 2, 1) := fo_28 (fw_get da_cX4_failed_0 3 rfl)
theorem dX4_failed_6 : decode cX4_failed 6 = .ok (.invokevirtual 79, 3) := fo_182 (fw_get da_cX4_failed_0 4 rfl)
theorem dX4_failed_9 : decode cX4_failed 9 = .ok (.ifCond .eq 12, 3) := fo_153 (fw_get da_cX4_failed_0 5 rfl) (by decide +kernel)
theorem dX4_failed_12 : decode cX4_failed 12 = .ok (.iload_n 3, 1) := fo_29 (fw_get da_cX4_failed_0 6 rfl)
theorem dX4_failed_13 : decode cX4_failed 13 = .ok (.iload 4, 2) := fo_21 (fw_get da_cX4_failed_0 7 rfl)
theorem dX4_failed_15 : decode cX4_failed 15 = .ok (.invokestatic 186, 3) := fo_184 (fw_get da_cX4_failed_0 8 rfl)
theorem dX4_failed_18 : decode cX4_failed 18 = .ok (.ifCond .ne 5, 3) := fo_154 (fw_get da_cX4_failed_0 9 rfl) (by decide +kernel)
theorem dX4_failed_21 : decode cX4_failed 21 = .ok (.iconst (-1), 1) := fo_2 (fw_get da_cX4_failed_0 10 rfl)
theorem dX4_failed_22 : decode cX4_failed 22 = .ok (.ireturn, 1) := fo_172 (fw_get da_cX4_failed_0 11 rfl)
theorem dX4_failed_23 : decode cX4_failed 23 = .ok (.aload_n 0, 1) := fo_42 (fw_get da_cX4_failed_0 12 rfl)
theorem dX4_failed_24 : decode cX4_failed 24 = .ok (.iload_n 3, 1) := fo_29 (fw_get da_cX4_failed_0 13 rfl)
theorem dX4_failed_25 : decode cX4_failed 25 = .ok (.iload 4, 2) := fo_21 (fw_get da_cX4_failed_0 14 rfl)
theorem dX4_failed_27 : decode cX4_failed 27 = .ok (.invokevirtual 189, 3) := fo_182 (fw_get da_cX4_failed_0 15 rfl)
theorem dX4_failed_30 : decode cX4_failed 30 = .ok (.ifCond .ne 6, 3) := fo_154 (fw_get da_cX4_failed_0 16 rfl) (by decide +kernel)
theorem dX4_failed_33 : decode cX4_failed 33 = .ok (.bipush (-2), 2) := fo_16 (fw_get da_cX4_failed_0 17 rfl) (by decide +kernel)
theorem dX4_failed_35 : decode cX4_failed 35 = .ok (.ireturn, 1) := fo_172 (fw_get da_cX4_failed_0 18 rfl)
theorem dX4_failed_36 : decode cX4_failed 36 = .ok (.aload_n 0, 1) := fo_42 (fw_get da_cX4_failed_0 19 rfl)
def dt_cX4_failed_1 : List (Nat × Nat × Nat × Nat) := [(37, 182, 2, 71), (40, 58, 1, 5), (42, 25, 1, 5), (44, 42, 0, 0), (45, 180, 2, 35), (48, 27, 0, 0), (49, 28, 0, 0), (50, 182, 2, 170), (53, 42, 0, 0), (54, 180, 2, 35), (57, 180, 2, 174), (60, 54, 1, 6), (62, 42, 0, 0), (63, 25, 1, 5), (65, 27, 0, 0), (66, 28, 0, 0), (67, 29, 0, 0), (68, 21, 1, 4), (70, 182, 2, 192), (73, 21, 1, 6)]
theorem da_cX4_failed_1 : fw dt_cX4_failed_1 0 cX4_failed.data.toList = true := by decide +kernel
theorem dX4_failed_37 : decode cX4_failed 37 = .ok (.invokevirtual 71, 3) := fo_182 (fw_get da_cX4_failed_1 0 rfl)
theorem dX4_failed_40 : decode cX4_failed 40 = .ok (.astore 5, 2) := fo_58 (fw_get da_cX4_failed_1 1 rfl)
theorem dX4_failed_42 : decode cX4_failed 42 = .ok (.aload 5, 2) := fo_25 (fw_get da_cX4_failed_1 2 rfl)
theorem dX4_failed_44 : decode cX4_failed 44 = .ok (.aload_n 0, 1) := fo_42 (fw_get da_cX4_failed_1 3 rfl)
theorem dX4_failed_45 : decode cX4_failed 45 = .ok (.getfield 35, 3) := fo_180 (fw_get da_cX4_failed_1 4 rfl)
theorem dX4_failed_48 : decode cX4_failed 48 = .ok (.iload_n 1, 1) := fo_27 (fw_get da_cX4_failed_1 5 rfl)
theorem dX4_failed_49 : decode cX4_failed 49 = .ok (.iload_n 2, 1) := fo_28 (fw_get da_cX4_failed_1 6 rfl)
theorem dX4_failed_50 : decode cX4_failed 50 = .ok (.invokevirtual 170, 3) := fo_182 (fw_get da_cX4_failed_1 7 rfl)
theorem dX4_failed_53 : decode cX4_failed 53 = .ok (.aload_n 0, 1) := fo_42 (fw_get da_cX4_failed_1 8 rfl)
theorem dX4_failed_54 : decode cX4_failed 54 = .ok (.getfield 35, 3) := fo_180 (fw_get da_cX4_failed_1 9 rfl)
theorem dX4_failed_57 : decode cX4_failed 57 = .ok (.getfield 174, 3) := fo_180 (fw_get da_cX4_failed_1 10 rfl)
theorem dX4_failed_60 : decode cX4_failed 60 = .ok (.istore 6, 2) := fo_54 (fw_get da_cX4_failed_1 11 rfl)
theorem dX4_failed_62 : decode cX4_failed 62 = .ok (.aload_n 0, 1) := fo_42 (fw_get da_cX4_failed_1 12 rfl)
theorem dX4_failed_63 : decode cX4_failed 63 = .ok (.aload 5, 2) := fo_25 (fw_get da_cX4_failed_1 13 rfl)
theorem dX4_failed_65 : decode cX4_failed 65 = .ok (.iload_n 1, 1) := fo_27 (fw_get da_cX4_failed_1 14 rfl)
theorem dX4_failed_66 : decode cX4_failed 66 = .ok (.iload_n 2, 1) := fo_28 (fw_get da_cX4_failed_1 15 rfl)
theorem dX4_failed_67 : decode cX4_failed 67 = .ok (.iload_n 3, 1) := fo_29 (fw_get da_cX4_failed_1 16 rfl)
theorem dX4_failed_68 : decode cX4_failed 68 = .ok (.iload 4, 2) := fo_21 (fw_get da_cX4_failed_1 17 rfl)
theorem dX4_failed_70 : decode cX4_failed 70 = .ok (.invokevirtual 192, 3) := fo_182 (fw_get da_cX4_failed_1 18 rfl)
theorem dX4_failed_73 : decode cX4_failed 73 = .ok (.iload 6, 2) := fo_21 (fw_get da_cX4_failed_1 19 rfl)
def dt_cX4_failed_2 : List (Nat × Nat × Nat × Nat) := [(75, 42, 0, 0), (76, 180, 2, 35), (79, 180, 2, 174), (82, 100, 0, 0), (83, 172, 0, 0)]
theorem da_cX4_failed_2 : fw dt_cX4_failed_2 0 cX4_failed.data.toList = true := by decide +kernel
theorem dX4_failed_75 : decode cX4_failed 75 = .ok (.aload_n 0, 1) := fo_42 (fw_get da_cX4_failed_2 0 rfl)
theorem dX4_failed_76 : decode cX4_failed 76 = .ok (.getfield 35, 3) := fo_180 (fw_get da_cX4_failed_2 1 rfl)
theorem dX4_failed_79 : decode cX4_failed 79 = .ok (.getfield 174, 3) := fo_180 (fw_get da_cX4_failed_2 2 rfl)
theorem dX4_failed_82 : decode cX4_failed 82 = .ok (.isub, 1) := fo_100 (fw_get da_cX4_failed_2 3 rfl)
theorem dX4_failed_83 : decode cX4_failed 83 = .ok (.ireturn, 1) := fo_172 (fw_get da_cX4_failed_2 4 rfl)
def dt_cX4_isEnough_0 : List (Nat × Nat × Nat × Nat) := [(0, 27, 0, 0), (1, 42, 0, 0), (2, 180, 2, 49), (5, 4, 0, 0), (6, 96, 0, 0), (7, 104, 0, 0), (8, 28, 0, 0), (9, 161, 2, 7), (12, 4, 0, 0), (13, 167, 2, 4), (16, 3, 0, 0), (17, 172, 0, 0)]
theorem da_cX4_isEnough_0 : fw dt_cX4_isEnough_0 0 cX4_isEnough.data.toList = true := by decide +kernel
theorem dX4_isEnough_0 : decode cX4_isEnough 0 = .ok (.iload_n 1, 1) := fo_27 (fw_get da_cX4_isEnough_0 0 rfl)
theorem dX4_isEnough_1 : decode cX4_isEnough 1 = .ok (.aload_n 0, 1) := fo_42 (fw_get da_cX4_isEnough_0 1 rfl)
theorem dX4_isEnough_2 : decode cX4_isEnough 2 = .ok (.getfield 49, 3) := fo_180 (fw_get da_cX4_isEnough_0 2 rfl)
theorem dX4_isEnough_5 : decode cX4_isEnough 5 = .ok (.iconst 1, 1) := fo_4 (fw_get da_cX4_isEnough_0 3 rfl)
theorem dX4_isEnough_6 : decode cX4_isEnough 6 = .ok (.iadd, 1) := fo_96 (fw_get da_cX4_isEnough_0 4 rfl)
theorem dX4_isEnough_7 : decode cX4_isEnough 7 = .ok (.imul, 1) := fo_104 (fw_get da_cX4_isEnough_0 5 rfl)
theorem dX4_isEnough_8 : decode cX4_isEnough 8 = .ok (.iload_n 2, 1) := fo_28 (fw_get da_cX4_isEnough_0 6 rfl)
theorem dX4_isEnough_9 : decode cX4_isEnough 9 = .ok (.if_icmp .lt 7, 3) := fo_161 (fw_get da_cX4_isEnough_0 7 rfl) (by decide +kernel)
theorem dX4_isEnough_12 : decode cX4_isEnough 12 = .ok (.iconst 1, 1) := fo_4 (fw_get da_cX4_isEnough_0 8 rfl)
theorem dX4_isEnough_13 : decode cX4_isEnough 13 = .ok (.goto 4, 3) := fo_167 (fw_get da_cX4_isEnough_0 9 rfl) (by decide +kernel)
theorem dX4_isEnough_16 : decode cX4_isEnough 16 = .ok (.iconst 0, 1) := fo_3 (fw_get da_cX4_isEnough_0 10 rfl)
theorem dX4_isEnough_17 : decode cX4_isEnough 17 = .ok (.ireturn, 1) := fo_172 (fw_get da_cX4_isEnough_0 11 rfl)
theorem mi_wsX4_gatherHeavy_wsX4_gatherHeavy_r1 : ∀ w ∈ wsX4_gatherHeavy_r1, w ∈ wsX4_gatherHeavy := fun _ h => (List.mem_cons_of_mem _ (List.mem_append_left _ (List.mem_append_left _ (List.mem_append_left _ (List.mem_append_left _ (List.mem_append_left _ h))))))
theorem mi_wsX4_gatherHeavy_wsX4_gatherHeavy_r2 : ∀ w ∈ wsX4_gatherHeavy_r2, w ∈ wsX4_gatherHeavy := fun _ h => (List.mem_cons_of_mem _ (List.mem_append_left _ (List.mem_append_left _ (List.mem_append_left _ (List.mem_append_left _ (List.mem_append_right _ (List.mem_append_left _ h)))))))
theorem mi_wsX4_gatherHeavy_wsX4_gatherHeavy_r3 : ∀ w ∈ wsX4_gatherHeavy_r3, w ∈ wsX4_gatherHeavy := fun _ h => (List.mem_cons_of_mem _ (List.mem_append_left _ (List.mem_append_left _ (List.mem_append_left _ (List.mem_append_left _ (List.mem_append_right _ (List.mem_append_right _ h)))))))
theorem mi_wsX4_gatherHeavy_wsX20 : ∀ w ∈ wsX20, w ∈ wsX4_gatherHeavy := fun _ h => (List.mem_cons_of_mem _ (List.mem_append_left _ (List.mem_append_right _ h)))
theorem mi_wsX4_gatherHeavy_wsX30 : ∀ w ∈ wsX30, w ∈ wsX4_gatherHeavy := fun _ h => (List.mem_cons_of_mem _ (List.mem_append_left _ (List.mem_append_left _ (List.mem_append_right _ h))))
set_option maxRecDepth 20000 in
theorem ggX4_gatherHeavy_X2_gather : GoodIn wsX4_gatherHeavy wsX2_gather := goodIn_m _ [(wsX4_gatherHeavy_r1, [false, false, false, false, false, false, false, false, false, true, true, true, true, true, true, true, true, true, true, true, true, true, true, true]), (wsX4_gatherHeavy_r1, [false, false, false, false, false, false, false, false, true]), (wsX4_gatherHeavy_r2, [true, true, true, true, true, true, true, true, true, true, true, true, true, true, true, true, true, true, true, true, true, true, true, true]), (wsX4_gatherHeavy_r3, [true, true, true, true, true, true, true, true, true]), (wsX20, [true, true, true, true, true, true, true, true, true, true, true]), (wsX30, [true, true, true, true, true])] (gm_c mi_wsX4_gatherHeavy_wsX4_gatherHeavy_r1 (gm_c mi_wsX4_gatherHeavy_wsX4_gatherHeavy_r1 (gm_c mi_wsX4_gatherHeavy_wsX4_gatherHeavy_r2 (gm_c mi_wsX4_gatherHeavy_wsX4_gatherHeavy_r3 (gm_c mi_wsX4_gatherHeavy_wsX20 (gm_c mi_wsX4_gatherHeavy_wsX30 gm_n)))))) rfl (by decide +kernel)
set_option maxRecDepth 20000 in
theorem gX4_gatherHeavy_X2_gather : GoodIn wsX4_gatherHeavy (wsV RX4 170 RX2 yX2_gather wsX2_gather) := goodIn_app (goodIn_m _ [(wsX4_gatherHeavy_r1, [false, false, false, false, false, true, true, true, true])] (gm_c mi_wsX4_gatherHeavy_wsX4_gatherHeavy_r1 gm_n) rfl (by decide +kernel)) ggX4_gatherHeavy_X2_gather
theorem mi_wsX4_gatherHeavy_wsX00 : ∀ w ∈ wsX00, w ∈ wsX4_gatherHeavy := fun _ h => (List.mem_cons_of_mem _ (List.mem_append_right _ h))
set_option maxRecDepth 20000 in
theorem ggX4_gatherHeavy_X0_oftenIn : GoodIn wsX4_gatherHeavy wsX0_oftenIn := goodIn_m _ [(wsX4_gatherHeavy_r3, [false, false, false, false, false, false, false, false, false, false, false, false, false, true, true]), (wsX00, [true, true])] (gm_c mi_wsX4_gatherHeavy_wsX4_gatherHeavy_r3 (gm_c mi_wsX4_gatherHeavy_wsX00 gm_n)) rfl (by decide +kernel)
set_option maxRecDepth 20000 in
theorem gX4_gatherHeavy_X0_oftenIn : GoodIn wsX4_gatherHeavy (wsV RX4 113 RX0 yX0_oftenIn wsX0_oftenIn) := goodIn_app (goodIn_m _ [(wsX4_gatherHeavy_r3, [false, false, false, false, false, false, false, false, false, true, true, true, true])] (gm_c mi_wsX4_gatherHeavy_wsX4_gatherHeavy_r3 gm_n) rfl (by decide +kernel)) ggX4_gatherHeavy_X0_oftenIn
set_option maxRecDepth 20000 in
theorem ggX4_gatherHeavy_X3_keepHeavy : GoodIn wsX4_gatherHeavy wsX3_keepHeavy := goodIn_m _ [(wsX4_gatherHeavy_r3, [false, false, false, false, false, false, false, false, false, false, false, false, false, false, false, false, false, false, true]), (wsX4_gatherHeavy_r1, [false, false, false, false, false, false, false, false, false, false, false, false, false, false, false, false, false, false, true]), (wsX4_gatherHeavy_r2, [false, false, false, false, false, false, false, false, false, false, false, false, false, false, false, false, true]), (wsX4_gatherHeavy_r3, [false, false, false, false, false, false, false, false, false, false, false, false, false, false, false, false, false, false, false, true, true, true]), (wsX4_gatherHeavy_r3, [false, false, false, false, false, true, true, true]), (wsX4_gatherHeavy_r1, [false, false, false, false, false, false, false, false, false, false, false, false, false, false, false, false, true]), (wsX4_gatherHeavy_r3, [false, false, false, false, false, false, false, false, true]), (wsX4_gatherHeavy_r2, [false, false, false, false, false, false, false, false, false, false, false, false, false, false, false, true, false, false, false, false, false, true, true, true]), (wsX4_gatherHeavy_r3, [true, true, true, true, true]), (wsX30, [true, true, true, true, true])] (gm_c mi_wsX4_gatherHeavy_wsX4_gatherHeavy_r3 (gm_c mi_wsX4_gatherHeavy_wsX4_gatherHeavy_r1 (gm_c mi_wsX4_gatherHeavy_wsX4_gatherHeavy_r2 (gm_c mi_wsX4_gatherHeavy_wsX4_gatherHeavy_r3 (gm_c mi_wsX4_gatherHeavy_wsX4_gatherHeavy_r3 (gm_c mi_wsX4_gatherHeavy_wsX4_gatherHeavy_r1 (gm_c mi_wsX4_gatherHeavy_wsX4_gatherHeavy_r3 (gm_c mi_wsX4_gatherHeavy_wsX4_gatherHeavy_r2 (gm_c mi_wsX4_gatherHeavy_wsX4_gatherHeavy_r3 (gm_c mi_wsX4_gatherHeavy_wsX30 gm_n)))))))))) rfl (by decide +kernel)
set_option maxRecDepth 20000 in
theorem gX4_gatherHeavy_X3_keepHeavy : GoodIn wsX4_gatherHeavy (wsV RX4 262 RX3 yX3_keepHeavy wsX3_keepHeavy) := goodIn_app (goodIn_m _ [(wsX4_gatherHeavy_r3, [false, false, false, false, false, false, false, false, false, false, false, false, false, false, false, true, true, true]), (wsX4_gatherHeavy_r1, [false, false, false, false, false, false, false, false, false, false, false, false, false, false, false, false, true])] (gm_c mi_wsX4_gatherHeavy_wsX4_gatherHeavy_r3 (gm_c mi_wsX4_gatherHeavy_wsX4_gatherHeavy_r1 gm_n)) rfl (by decide +kernel)) ggX4_gatherHeavy_X3_keepHeavy
def dt_cX4_gatherHeavy_0 : List (Nat × Nat × Nat × Nat) := [(0, 43, 0, 0), (1, 42, 0, 0), (2, 180, 2, 35), (5, 28, 0, 0), (6, 29, 0, 0), (7, 182, 2, 170), (10, 3, 0, 0), (11, 54, 1, 6), (13, 21, 1, 6), (15, 42, 0, 0), (16, 180, 2, 35), (19, 180, 2, 174), (22, 162, 2, 38), (25, 42, 0, 0), (26, 180, 2, 35), (29, 180, 2, 136), (32, 21, 1, 6), (34, 42, 0, 0), (35, 180, 2, 12), (38, 42, 0, 0)]
theorem da_cX4_gatherHeavy_0 : fw dt_cX4_gatherHeavy_0 0 cX4_gatherHeavy.data.toList = true := by decide +kernel
theorem dX4_gatherHeavy_0 : decode cX4_gatherHeavy 0 = .ok (.aload_n 1, 1) := fo_43 (fw_get da_cX4_gatherHeavy_0 0 rfl)
theorem dX4_gatherHeavy_1 : decode cX4_gatherHeavy 1 = .ok (.aload_n 0, 1) := fo_42 (fw_get da_cX4_gatherHeavy_0 1 rfl)
theorem dX4_gatherHeavy_2 : decode cX4_gatherHeavy 2 = .ok (.getfield 35, 3) := fo_180 (fw_get da_cX4_gatherHeavy_0 2 rfl)
theorem dX4_gatherHeavy_5 : decode cX4_gatherHeavy 5 = .ok (.iload_n 2, 1) := fo_28 (fw_get da_cX4_gatherHeavy_0 3 rfl)
theorem dX4_gatherHeavy_6 : decode cX4_gatherHeavy 6 = .ok (.iload_n 3, 1) := fo_29 (fw_get da_cX4_gatherHeavy_0 4 rfl)
theorem dX4_gatherHeavy_7 : decode cX4_gatherHeavy 7 = .ok (.invokevirtual 170, 3) := fo_182 (fw_get da_cX4_gatherHeavy_0 5 rfl)
theorem dX4_gatherHeavy_10 : decode cX4_gatherHeavy 10 = .ok (.iconst 0, 1) := fo_3 (fw_get da_cX4_gatherHeavy_0 6 rfl)
theorem dX4_gatherHeavy_11 : decode cX4_gatherHeavy 11 = .ok (.istore 6, 2) := fo_54 (fw_get da_cX4_gatherHeavy_0 7 rfl)
theorem dX4_gatherHeavy_13 : decode cX4_gatherHeavy 13 = .ok (.iload 6, 2) := fo_21 (fw_get da_cX4_gatherHeavy_0 8 rfl)
theorem dX4_gatherHeavy_15 : decode cX4_gatherHeavy 15 = .ok (.aload_n 0, 1) := fo_42 (fw_get da_cX4_gatherHeavy_0 9 rfl)
theorem dX4_gatherHeavy_16 : decode cX4_gatherHeavy 16 = .ok (.getfield 35, 3) := fo_180 (fw_get da_cX4_gatherHeavy_0 10 rfl)
theorem dX4_gatherHeavy_19 : decode cX4_gatherHeavy 19 = .ok (.getfield 174, 3) := fo_180 (fw_get da_cX4_gatherHeavy_0 11 rfl)
theorem dX4_gatherHeavy_22 : decode cX4_gatherHeavy 22 = .ok (.if_icmp .ge 38, 3) := fo_162 (fw_get da_cX4_gatherHeavy_0 12 rfl) (by decide +kernel)
theorem dX4_gatherHeavy_25 : decode cX4_gatherHeavy 25 = .ok (.aload_n 0, 1) := fo_42 (fw_get da_cX4_gatherHeavy_0 13 rfl)
theorem dX4_gatherHeavy_26 : decode cX4_gatherHeavy 26 = .ok (.getfield 35, 3) := fo_180 (fw_get da_cX4_gatherHeavy_0 14 rfl)
theorem dX4_gatherHeavy_29 : decode cX4_gatherHeavy 29 = .ok (.getfield 136, 3) := fo_180 (fw_get da_cX4_gatherHeavy_0 15 rfl)
theorem dX4_gatherHeavy_32 : decode cX4_gatherHeavy 32 = .ok (.iload 6, 2) := fo_21 (fw_get da_cX4_gatherHeavy_0 16 rfl)
theorem dX4_gatherHeavy_34 : decode cX4_gatherHeavy 34 = .ok (.aload_n 0, 1) := fo_42 (fw_get da_cX4_gatherHeavy_0 17 rfl)
theorem dX4_gatherHeavy_35 : decode cX4_gatherHeavy 35 = .ok (.getfield 12, 3) := fo_180 (fw_get da_cX4_gatherHeavy_0 18 rfl)
theorem dX4_gatherHeavy_38 : decode cX4_gatherHeavy 38 = .ok (.aload_n 0, 1) := fo_42 (fw_get da_cX4_gatherHeavy_0 19 rfl)
def dt_cX4_gatherHeavy_1 : List (Nat × Nat × Nat × Nat) := [(39, 180, 2, 35), (42, 180, 2, 133), (45, 21, 1, 6), (47, 46, 0, 0), (48, 28, 0, 0), (49, 29, 0, 0), (50, 182, 2, 113), (53, 79, 0, 0), (54, 132, 2, 1537), (57, 167, 2, 65492), (60, 42, 0, 0), (61, 180, 2, 35), (64, 29, 0, 0), (65, 28, 0, 0), (66, 100, 0, 0), (67, 21, 1, 4), (69, 21, 1, 5), (71, 182, 2, 262), (74, 177, 0, 0)]
theorem da_cX4_gatherHeavy_1 : fw dt_cX4_gatherHeavy_1 0 cX4_gatherHeavy.data.toList = true := by decide +kernel
theorem dX4_gatherHeavy_39 : decode cX4_gatherHeavy 39 = .ok (.getfield 35, 3) := fo_180 (fw_get da_cX4_gatherHeavy_1 0 rfl)
theorem dX4_gatherHeavy_42 : decode cX4_gatherHeavy 42 = .ok (.getfield 133, 3) := fo_180 (fw_get da_cX4_gatherHeavy_1 1 rfl)
theorem dX4_gatherHeavy_45 : decode cX4_gatherHeavy 45 = .ok (.iload 6, 2) := fo_21 (fw_get da_cX4_gatherHeavy_1 2 rfl)
theorem dX4_gatherHeavy_47 : decode cX4_gatherHeavy 47 = .ok (.iaload, 1) := fo_46 (fw_get da_cX4_gatherHeavy_1 3 rfl)
theorem dX4_gatherHeavy_48 : decode cX4_gatherHeavy 48 = .ok (.iload_n 2, 1) := fo_28 (fw_get da_cX4_gatherHeavy_1 4 rfl)
theorem dX4_gatherHeavy_49 : decode cX4_gatherHeavy 49 = .ok (.iload_n 3, 1) := fo_29 (fw_get da_cX4_gatherHeavy_1 5 rfl)
theorem dX4_gatherHeavy_50 : decode cX4_gatherHeavy 50 = .ok (.invokevirtual 113, 3) := fo_182 (fw_get da_cX4_gatherHeavy_1 6 rfl)
theorem dX4_gatherHeavy_53 : decode cX4_gatherHeavy 53 = .ok (.iastore, 1) := fo_79 (fw_get da_cX4_gatherHeavy_1 7 rfl)
theorem dX4_gatherHeavy_54 : decode cX4_gatherHeavy 54 = .ok (.iinc 6 1, 3) := fo_132 (fw_get da_cX4_gatherHeavy_1 8 rfl) rfl (by decide +kernel)
theorem dX4_gatherHeavy_57 : decode cX4_gatherHeavy 57 = .ok (.goto (-44), 3) := fo_167 (fw_get da_cX4_gatherHeavy_1 9 rfl) (by decide +kernel)
theorem dX4_gatherHeavy_60 : decode cX4_gatherHeavy 60 = .ok (.aload_n 0, 1) := fo_42 (fw_get da_cX4_gatherHeavy_1 10 rfl)
theorem dX4_gatherHeavy_61 : decode cX4_gatherHeavy 61 = .ok (.getfield 35, 3) := fo_180 (fw_get da_cX4_gatherHeavy_1 11 rfl)
theorem dX4_gatherHeavy_64 : decode cX4_gatherHeavy 64 = .ok (.iload_n 3, 1) := fo_29 (fw_get da_cX4_gatherHeavy_1 12 rfl)
theorem dX4_gatherHeavy_65 : decode cX4_gatherHeavy 65 = .ok (.iload_n 2, 1) := fo_28 (fw_get da_cX4_gatherHeavy_1 13 rfl)
theorem dX4_gatherHeavy_66 : decode cX4_gatherHeavy 66 = .ok (.isub, 1) := fo_100 (fw_get da_cX4_gatherHeavy_1 14 rfl)
theorem dX4_gatherHeavy_67 : decode cX4_gatherHeavy 67 = .ok (.iload 4, 2) := fo_21 (fw_get da_cX4_gatherHeavy_1 15 rfl)
theorem dX4_gatherHeavy_69 : decode cX4_gatherHeavy 69 = .ok (.iload 5, 2) := fo_21 (fw_get da_cX4_gatherHeavy_1 16 rfl)
theorem dX4_gatherHeavy_71 : decode cX4_gatherHeavy 71 = .ok (.invokevirtual 262, 3) := fo_182 (fw_get da_cX4_gatherHeavy_1 17 rfl)
theorem dX4_gatherHeavy_74 : decode cX4_gatherHeavy 74 = .ok (.return_, 1) := fo_177 (fw_get da_cX4_gatherHeavy_1 18 rfl)

