set_option maxHeartbeats 4000000 in
set_option maxRecDepth 100000 in
theorem c_X4_majorities_x (l : Launch) (dC : Nat → ClassId) (dI : Nat → Nat → Nat) (m_ : Nat) (q_row : Nat) (q_t : Nat) (t_ : Nat) (h0 : Nat) (k0 : Nat) (w_ : Nat) (z_ : Nat) (slots : Int32) (old : Int32) (q_cell : Nat) (cyI : ClassId) (len : Int32) (f : Nat → Int32) (t_k : Nat) (t_o : Nat) (tk : Int32) (mo : Int32) (fk : Nat → Int32) (fq : Nat → Int32) (sz : Nat) (a0 : 0 ≤ len.toInt) (a1 : len.toInt ≤ 160) : Met l yX4_majorities wsX4_majorities ({ frames := 2, cells := 0, slots := 0, locals := 90 }) (va_Pc [.ref m_] (fun U => U.heap.size = sz ∧ va_P (dC, dI) vwCl [kx_4 m_ q_row q_t t_ h0 k0 w_ z_ slots old, kx_0 q_row q_cell len, kx_a q_cell cyI 160 f, kx_1 t_ t_k t_o tk mo, kx_a t_k cyI 160 fk, kx_a t_o cyI 160 fq] U.heap ∧ va_K (dC, dI) vwCl [(cyI, .int)] U ∧ va_D (fun _ => True) [kx_4 m_ q_row q_t t_ h0 k0 w_ z_ slots old, kx_0 q_row q_cell len, kx_a q_cell cyI 160 f, kx_1 t_ t_k t_o tk mo, kx_a t_k cyI 160 fk, kx_a t_o cyI 160 fq])) (va_Qi (fun (r : Int32) (u : Int32 × Int32 × (Nat → Int32) × (Nat → Int32)) => r.toInt = (mj_ms f len.toNatClampNeg len.toNatClampNeg : Int)) (fun (u : Int32 × Int32 × (Nat → Int32) × (Nat → Int32)) (t : State) => va_P (dC, dI) vwCl [kx_4 m_ q_row q_t t_ h0 k0 w_ z_ slots old, kx_0 q_row q_cell len, kx_a q_cell cyI 160 f, kx_1 t_ t_k t_o u.1 u.2.1, kx_a t_k cyI 160 u.2.2.1, kx_a t_o cyI 160 u.2.2.2] t.heap ∧ va_K (dC, dI) vwCl [(cyI, .int)] t ∧ va_D (va_A [kx_4 m_ q_row q_t t_ h0 k0 w_ z_ slots old, kx_0 q_row q_cell len, kx_a q_cell cyI 160 f, kx_1 t_ t_k t_o tk mo, kx_a t_k cyI 160 fk, kx_a t_o cyI 160 fq] sz) [kx_4 m_ q_row q_t t_ h0 k0 w_ z_ slots old, kx_0 q_row q_cell len, kx_a q_cell cyI 160 f, kx_1 t_ t_k t_o u.1 u.2.1, kx_a t_k cyI 160 u.2.2.1, kx_a t_o cyI 160 u.2.2.2]) (va_A [kx_4 m_ q_row q_t t_ h0 k0 w_ z_ slots old, kx_0 q_row q_cell len, kx_a q_cell cyI 160 f, kx_1 t_ t_k t_o tk mo, kx_a t_k cyI 160 fk, kx_a t_o cyI 160 fq] sz)) 0 0 (va_A [kx_4 m_ q_row q_t t_ h0 k0 w_ z_ slots old, kx_0 q_row q_cell len, kx_a q_cell cyI 160 f, kx_1 t_ t_k t_o tk mo, kx_a t_k cyI 160 fk, kx_a t_o cyI 160 fq] sz) := by
  refine Met.ofW (cc := cX4_majorities) (maxL := 4) (ret := (some .int)) (by decide) rfl ?_
  intro p e s m args below meth c s₁ B hml hv
  obtain ⟨rfl, hsz, hP, hK, hD0⟩ := hv
  have hx := B.exec
  have hb := B.bytes
  have hr := B.returns
  have hts := atoms_spec (ws := wsX4_majorities) B.pre
  have hown : s.vm.findClass RX4 = some m.cls := findClass_of_methodNamed B.named
  have hlocks := B.notSynchronized
  subst hsz
  have hD := hD0.self (sz := s.heap.size)
  generalize hAe : va_A [kx_4 m_ q_row q_t t_ h0 k0 w_ z_ slots old, kx_0 q_row q_cell len, kx_a q_cell cyI 160 f, kx_1 t_ t_k t_o tk mo, kx_a t_k cyI 160 fk, kx_a t_o cyI 160 fq] s.heap.size = A at hD ⊢
  have hA : ∀ q : Nat, s.heap.size ≤ q → A q := fun q h => by rw [← hAe]; exact Or.inr h
  have hS : va_S A s.heap s.heap [] := va_S.rf
  have hP : va_P (dC, dI) vwCl [kx_4 m_ q_row q_t t_ h0 k0 w_ z_ slots old, kx_0 q_row q_cell len, kx_a q_cell cyI 160 f, kx_1 t_ t_k t_o tk mo, kx_a t_k cyI 160 fk, kx_a t_o cyI 160 fq] s.heap := hP
  have hl := lv_entry ([.ref m_]) (n := 4) (Nat.le_of_ble_eq_true rfl)
  rw [lg_entry_eq]
  generalize (lg_sl ([.ref m_]) ++ List.replicate (4 - (lg_sl ([.ref m_])).length) Slot.unset).toArray = ls at hl ⊢
  have hl : lv_has ls 4 [(0, .ref m_)] := hl
  have hf_28 := hts (.fieldLink RX4 28 "MajorityIndex" "tally" "LMajorityIndex$Tally;") (List.mem_of_getElem? (i := 1) rfl)
  have hi_4 : ∀ w ∈ u_ws RX4 TX4 9, w ∈ wsX4_majorities := fun w h => List.mem_cons_of_mem _ (List.mem_append_left _ (List.mem_append_left _ (List.mem_append_right _ h)))
  have hf_12 := hts (.fieldLink RX4 12 "MajorityIndex" "row" "LMajorityIndex$Row;") (List.mem_of_getElem? (i := 2) rfl)
  have hf_57 := hts (.fieldLink RX4 57 "MajorityIndex$Row" "length" "I") (List.mem_of_getElem? (i := 3) rfl)
  have hi_0 : ∀ w ∈ u_ws RX0 TX0 2, w ∈ wsX4_majorities := fun w h => List.mem_cons_of_mem _ (List.mem_append_left _ (List.mem_append_right _ h))
  have n_l := ki_nat len rfl (by omega)
  refine lv_aload_n hx hb dX4_majorities_0 rfl (lv_at hl 0 rfl) ?_
  refine va_get (D := (dC, dI)) (ci := 4) (v := .ref t_) (C := RX4) (T := TX4) (N := 9) hx hb hts hi_4 hown hK hP 0 rfl rfl 2 (by decide) hf_28 (fun _ h9 => h9) rfl dX4_majorities_1 ?_
  refine lv_aload_n hx hb dX4_majorities_4 rfl (lv_at hl 0 rfl) ?_
  refine va_get (D := (dC, dI)) (ci := 4) (v := .ref q_row) (C := RX4) (T := TX4) (N := 9) hx hb hts hi_4 hown hK hP 0 rfl rfl 0 (by decide) hf_12 (fun _ h9 => h9) rfl dX4_majorities_5 ?_
  have hPc := hP.sub (ws' := [kx_1 t_ t_k t_o tk mo, kx_a t_k cyI 160 fk, kx_0 q_row q_cell len, kx_a q_cell cyI 160 f]) [3, 4, 1, 2] rfl
  have hKc := hK
  have hDc := hD.sub (ws' := [kx_1 t_ t_k t_o tk mo, kx_a t_k cyI 160 fk, kx_0 q_row q_cell len, kx_a q_cell cyI 160 f]) [3, 4, 1, 2] (by decide) rfl
  have hFc := va_free (wc := [kx_1 t_ t_k t_o tk mo, kx_a t_k cyI 160 fk, kx_0 q_row q_cell len, kx_a q_cell cyI 160 f]) hD hS hA [3, 4, 1, 2] rfl
  refine va_callv (va_runV (As := [.ref q_row]) (rest := []) ⟨hx, hb, hml, hown, hts⟩ (c_X1_learn_x l dC dI t_ t_k t_o cyI tk mo fk q_row q_cell len f s.heap.size a0 a1) (cwV 1 hts gX4_majorities_X1_learn rfl rfl rfl (by decide +kernel) ⟨Nat.le_of_ble_eq_true rfl, Nat.le_of_ble_eq_true rfl⟩) ⟨fun a U g mk q => by obtain ⟨q0, q1, qP, qK, qD⟩ := q; exact ⟨q0, q1, qP, va_K.moved (u := U) (U := U.calling g mk a) (Vm.Alike.refl U.vm) qK, qD⟩, va_recv hKc hPc (ci := 1) (q0 := 0) rfl rfl, fun U hU hW => ⟨rfl, by rw [hU], by rw [hU]; exact hPc, va_K.moved hW.alike hKc, hDc.weaken (fun _ _ _ _ => trivial)⟩⟩ rfl rfl hl.1 rfl (lv_room (Nat.le_of_ble_eq_true rfl)) dX4_majorities_8 ⟨Nat.le_of_ble_eq_true rfl, Nat.le_of_ble_eq_true rfl⟩) hS (fun q _ h => hFc q h) hFc (fun u t H1 locs ht hvm w_1 hB hz1 hk1 hS => ?_)
  obtain ⟨o_2, rfl⟩ : ∃ z, z = u := ⟨_, rfl⟩
  obtain ⟨hP1, hK1, hD1⟩ := hB
  rw [ht] at hP1
  have hK1 := va_K.moved hvm.symm hK1
  obtain ⟨hP, hD⟩ := va_join (wr := [kx_4 m_ q_row q_t t_ h0 k0 w_ z_ slots old, kx_a t_o cyI 160 fq]) (w1 := [kx_1 t_ t_k t_o tk mo, kx_a t_k cyI 160 o_2, kx_0 q_row q_cell len, kx_a q_cell cyI 160 f]) hP hD [3, 4, 1, 2] [0, 5] rfl rfl (by decide) (by decide) hk1 hFc hP1 hD1
  clear hP1 hD1 hK1 hk1 hz1 hFc hDc hPc hKc
  generalize H1 = H at hP hS ⊢
  have hP : va_P (dC, dI) vwCl [kx_4 m_ q_row q_t t_ h0 k0 w_ z_ slots old, kx_a t_o cyI 160 fq, kx_1 t_ t_k t_o tk mo, kx_a t_k cyI 160 o_2, kx_0 q_row q_cell len, kx_a q_cell cyI 160 f] H := hP
  have hD : va_D A [kx_4 m_ q_row q_t t_ h0 k0 w_ z_ slots old, kx_a t_o cyI 160 fq, kx_1 t_ t_k t_o tk mo, kx_a t_k cyI 160 o_2, kx_0 q_row q_cell len, kx_a q_cell cyI 160 f] := hD
  have w_1 : kindOk o_2 len.toInt ∧ mj_kd f o_2 len.toNatClampNeg := w_1
  refine lv_iconst (v := 0) hx hb dX4_majorities_11 (by decide) ?_
  refine lv_istore_n (lv' := [(1, .int 0), (0, .ref m_)]) hx hb dX4_majorities_12 rfl hl (by decide) rfl (fun ls hl => ?_)
  refine lv_iconst (v := 0) hx hb dX4_majorities_13 (by decide) ?_
  refine lv_istore_n (lv' := [(2, .int 0), (1, .int 0), (0, .ref m_)]) hx hb dX4_majorities_14 rfl hl (by decide) rfl (fun ls hl => ?_)
  have LP1 : ∀ (n : Nat) (i : Int32) (many : Int32) (a_t : Int32) (a_m : Int32) (a_q : Nat → Int32), (0 ≤ i.toInt) → (i.toInt ≤ len.toInt) → (many.toInt = (mj_ms f len.toNatClampNeg i.toNatClampNeg : Int)) → (len.toInt - i.toInt).toNat < n → ∀ (H : Heap) (locs : List Loc), va_P (dC, dI) vwCl [kx_4 m_ q_row q_t t_ h0 k0 w_ z_ slots old, kx_a t_o cyI 160 a_q, kx_1 t_ t_k t_o a_t a_m, kx_a t_k cyI 160 o_2, kx_0 q_row q_cell len, kx_a q_cell cyI 160 f] H → va_D A [kx_4 m_ q_row q_t t_ h0 k0 w_ z_ slots old, kx_a t_o cyI 160 a_q, kx_1 t_ t_k t_o a_t a_m, kx_a t_k cyI 160 o_2, kx_0 q_row q_cell len, kx_a q_cell cyI 160 f] → va_S A s.heap H locs → ∀ (ls : Array Slot), lv_has ls 4 [(2, .int i), (1, .int many), (0, .ref m_)] → W p l e (headSpec wsX4_majorities ({ frames := 2, cells := 0, slots := 0, locals := 90 })).room s m ([.ref m_] : List Value).toArray below meth c H locs 0 0 (MQ below (va_Qi (fun (r : Int32) (u : Int32 × Int32 × (Nat → Int32) × (Nat → Int32)) => r.toInt = (mj_ms f len.toNatClampNeg len.toNatClampNeg : Int)) (fun (u : Int32 × Int32 × (Nat → Int32) × (Nat → Int32)) (t : State) => va_P (dC, dI) vwCl [kx_4 m_ q_row q_t t_ h0 k0 w_ z_ slots old, kx_0 q_row q_cell len, kx_a q_cell cyI 160 f, kx_1 t_ t_k t_o u.1 u.2.1, kx_a t_k cyI 160 u.2.2.1, kx_a t_o cyI 160 u.2.2.2] t.heap ∧ va_K (dC, dI) vwCl [(cyI, .int)] t ∧ va_D A [kx_4 m_ q_row q_t t_ h0 k0 w_ z_ slots old, kx_0 q_row q_cell len, kx_a q_cell cyI 160 f, kx_1 t_ t_k t_o u.1 u.2.1, kx_a t_k cyI 160 u.2.2.1, kx_a t_o cyI 160 u.2.2.2]) A) ([.ref m_] : List Value).toArray s 0 0 A) (F0 m 15 ls []) := by
    intro n
    induction n with
    | zero => intro i many a_t a_m a_q LP1_h0 LP1_h1 LP1_h2 hn; exact absurd hn (Nat.not_lt_zero _)
    | succ n ih1 =>
      intro i many a_t a_m a_q LP1_h0 LP1_h1 LP1_h2 hn1 H locs hP hD hS ls hl
      have n_i := ki_nat i rfl (by omega)
      have hle := mj_ms_b (f := f) (n := len.toNatClampNeg) (l := i.toNatClampNeg) (by omega) (by omega)
      refine lv_iload_n hx hb dX4_majorities_15 rfl (lv_at hl 0 rfl) ?_
      refine lv_aload_n hx hb dX4_majorities_16 rfl (lv_at hl 2 rfl) ?_
      refine va_get (D := (dC, dI)) (ci := 4) (v := .ref q_row) (C := RX4) (T := TX4) (N := 9) hx hb hts hi_4 hown hK hP 0 rfl rfl 0 (by decide) hf_12 (fun _ h9 => h9) rfl dX4_majorities_17 ?_
      refine va_get (D := (dC, dI)) (ci := 0) (v := .int len) (C := RX0) (T := TX0) (N := 2) hx hb hts hi_0 hown hK hP 4 rfl rfl 1 (by decide) hf_57 (fun _ h9 => h9) rfl dX4_majorities_20 ?_
      refine lv_icmp_ge (tgt := 79) hx hb dX4_majorities_23 (by decide) (fun c_3 => ?_) (fun c_3 => ?_)
      · have i_3 : len.toInt ≤ i.toInt := kc_le c_3
        refine lv_iload_n hx hb dX4_majorities_79 rfl (lv_at hl 1 rfl) ?_
        have hP9 := hP.sub (ws' := [kx_4 m_ q_row q_t t_ h0 k0 w_ z_ slots old, kx_0 q_row q_cell len, kx_a q_cell cyI 160 f, kx_1 t_ t_k t_o a_t a_m, kx_a t_k cyI 160 o_2, kx_a t_o cyI 160 a_q]) [0, 4, 5, 2, 3, 1] rfl
        have hD9 := hD.sub (ws' := [kx_4 m_ q_row q_t t_ h0 k0 w_ z_ slots old, kx_0 q_row q_cell len, kx_a q_cell cyI 160 f, kx_1 t_ t_k t_o a_t a_m, kx_a t_k cyI 160 o_2, kx_a t_o cyI 160 a_q]) [0, 4, 5, 2, 3, 1] (by decide) rfl
        have hK9 := hK
        exact W.iret (v := many) hx hb hr (fun t ht hW => ⟨⟨many, (a_t, a_m, o_2, a_q), rfl, (by (try dsimp only); rw [LP1_h2, show len.toNatClampNeg = i.toNatClampNeg by omega]), by rw [ht]; exact hP9, va_K.moved hW.alike hK9, hD9⟩, hS.F ht⟩) hS.2.2 dX4_majorities_80
      · have i_3 : i.toInt < len.toInt := kc_nle c_3
        refine lv_aload_n hx hb dX4_majorities_26 rfl (lv_at hl 2 rfl) ?_
        refine va_get (D := (dC, dI)) (ci := 4) (v := .ref t_) (C := RX4) (T := TX4) (N := 9) hx hb hts hi_4 hown hK hP 0 rfl rfl 2 (by decide) hf_28 (fun _ h9 => h9) rfl dX4_majorities_27 ?_
        have hPc := hP.sub (ws' := [kx_1 t_ t_k t_o a_t a_m, kx_a t_o cyI 160 a_q]) [2, 1] rfl
        have hKc := hK
        have hDc := hD.sub (ws' := [kx_1 t_ t_k t_o a_t a_m, kx_a t_o cyI 160 a_q]) [2, 1] (by decide) rfl
        have hFc := va_free (wc := [kx_1 t_ t_k t_o a_t a_m, kx_a t_o cyI 160 a_q]) hD hS hA [2, 1] rfl
        refine va_callv (va_runV (As := []) (rest := []) ⟨hx, hb, hml, hown, hts⟩ (c_X1_clear l dC dI t_ t_k t_o cyI a_t a_m a_q H.size) (cwV 0 hts gX4_majorities_X1_clear rfl rfl rfl (by decide +kernel) ⟨Nat.le_of_ble_eq_true rfl, Nat.le_of_ble_eq_true rfl⟩) ⟨fun a U g mk q => by obtain ⟨q0, q1, qP, qK, qD⟩ := q; exact ⟨q0, q1, qP, va_K.moved (u := U) (U := U.calling g mk a) (Vm.Alike.refl U.vm) qK, qD⟩, va_recv hKc hPc (ci := 1) (q0 := 0) rfl rfl, fun U hU hW => ⟨rfl, by rw [hU], by rw [hU]; exact hPc, va_K.moved hW.alike hKc, hDc.weaken (fun _ _ _ _ => trivial)⟩⟩ rfl rfl hl.1 rfl (lv_room (Nat.le_of_ble_eq_true rfl)) dX4_majorities_30 ⟨Nat.le_of_ble_eq_true rfl, Nat.le_of_ble_eq_true rfl⟩) hS (fun q _ h => hFc q h) hFc (fun u t H1 locs ht hvm w_4 hB hz1 hk1 hS => ?_)
        obtain ⟨o_5, rfl⟩ : ∃ z, z = u := ⟨_, rfl⟩
        obtain ⟨hP1, hK1, hD1⟩ := hB
        rw [ht] at hP1
        have hK1 := va_K.moved hvm.symm hK1
        obtain ⟨hP, hD⟩ := va_join (wr := [kx_4 m_ q_row q_t t_ h0 k0 w_ z_ slots old, kx_a t_k cyI 160 o_2, kx_0 q_row q_cell len, kx_a q_cell cyI 160 f]) (w1 := [kx_1 t_ t_k t_o 0 0, kx_a t_o cyI 160 o_5]) hP hD [2, 1] [0, 3, 4, 5] rfl rfl (by decide) (by decide) hk1 hFc hP1 hD1
        clear hP1 hD1 hK1 hk1 hz1 hFc hDc hPc hKc
        generalize H1 = H at hP hS ⊢
        have hP : va_P (dC, dI) vwCl [kx_4 m_ q_row q_t t_ h0 k0 w_ z_ slots old, kx_a t_k cyI 160 o_2, kx_0 q_row q_cell len, kx_a q_cell cyI 160 f, kx_1 t_ t_k t_o 0 0, kx_a t_o cyI 160 o_5] H := hP
        have hD : va_D A [kx_4 m_ q_row q_t t_ h0 k0 w_ z_ slots old, kx_a t_k cyI 160 o_2, kx_0 q_row q_cell len, kx_a q_cell cyI 160 f, kx_1 t_ t_k t_o 0 0, kx_a t_o cyI 160 o_5] := hD
        have w_4 : ∀ k : Nat, k < 160 → o_5 k = 0 := w_4
        refine lv_iload_n hx hb dX4_majorities_33 rfl (lv_at hl 0 rfl) ?_
        refine lv_istore_n (lv' := [(3, .int i), (2, .int i), (1, .int many), (0, .ref m_)]) hx hb dX4_majorities_34 rfl hl (by decide) rfl (fun ls hl => ?_)
        have LP2 : ∀ (n : Nat) (j : Int32) (many2 : Int32) (b_t : Int32) (b_m : Int32) (b_q : Nat → Int32), (i.toInt ≤ j.toInt) → (j.toInt ≤ len.toInt) → (many2.toInt = (mj_ms f len.toNatClampNeg i.toNatClampNeg : Int) + (mj_mc f i.toNatClampNeg (j.toNatClampNeg - i.toNatClampNeg) : Int)) → (mj_tl f (fun k => (o_2 k).toNatClampNeg) b_q len.toNatClampNeg i.toNatClampNeg (j.toNatClampNeg - i.toNatClampNeg) b_m.toInt) → (b_t.toInt = j.toInt - i.toInt) → (0 ≤ b_m.toInt) → (b_m.toInt ≤ j.toInt - i.toInt) → (len.toInt - j.toInt).toNat < n → ∀ (H : Heap) (locs : List Loc), va_P (dC, dI) vwCl [kx_4 m_ q_row q_t t_ h0 k0 w_ z_ slots old, kx_a t_k cyI 160 o_2, kx_0 q_row q_cell len, kx_a q_cell cyI 160 f, kx_1 t_ t_k t_o b_t b_m, kx_a t_o cyI 160 b_q] H → va_D A [kx_4 m_ q_row q_t t_ h0 k0 w_ z_ slots old, kx_a t_k cyI 160 o_2, kx_0 q_row q_cell len, kx_a q_cell cyI 160 f, kx_1 t_ t_k t_o b_t b_m, kx_a t_o cyI 160 b_q] → va_S A s.heap H locs → ∀ (ls : Array Slot), lv_has ls 4 [(3, .int j), (2, .int i), (1, .int many2), (0, .ref m_)] → W p l e (headSpec wsX4_majorities ({ frames := 2, cells := 0, slots := 0, locals := 90 })).room s m ([.ref m_] : List Value).toArray below meth c H locs 0 0 (MQ below (va_Qi (fun (r : Int32) (u : Int32 × Int32 × (Nat → Int32) × (Nat → Int32)) => r.toInt = (mj_ms f len.toNatClampNeg len.toNatClampNeg : Int)) (fun (u : Int32 × Int32 × (Nat → Int32) × (Nat → Int32)) (t : State) => va_P (dC, dI) vwCl [kx_4 m_ q_row q_t t_ h0 k0 w_ z_ slots old, kx_0 q_row q_cell len, kx_a q_cell cyI 160 f, kx_1 t_ t_k t_o u.1 u.2.1, kx_a t_k cyI 160 u.2.2.1, kx_a t_o cyI 160 u.2.2.2] t.heap ∧ va_K (dC, dI) vwCl [(cyI, .int)] t ∧ va_D A [kx_4 m_ q_row q_t t_ h0 k0 w_ z_ slots old, kx_0 q_row q_cell len, kx_a q_cell cyI 160 f, kx_1 t_ t_k t_o u.1 u.2.1, kx_a t_k cyI 160 u.2.2.1, kx_a t_o cyI 160 u.2.2.2]) A) ([.ref m_] : List Value).toArray s 0 0 A) (F0 m 35 ls []) := by
          intro n
          induction n with
          | zero => intro j many2 b_t b_m b_q LP2_h0 LP2_h1 LP2_h2 LP2_h3 LP2_h4 LP2_h5 LP2_h6 hn; exact absurd hn (Nat.not_lt_zero _)
          | succ n ih2 =>
            intro j many2 b_t b_m b_q LP2_h0 LP2_h1 LP2_h2 LP2_h3 LP2_h4 LP2_h5 LP2_h6 hn2 H locs hP hD hS ls hl
            have n_j := ki_nat j rfl (by omega)
            have hle2 := mj_mc_le f i.toNatClampNeg (j.toNatClampNeg - i.toNatClampNeg)
            refine lv_iload_n hx hb dX4_majorities_35 rfl (lv_at hl 0 rfl) ?_
            refine lv_aload_n hx hb dX4_majorities_36 rfl (lv_at hl 3 rfl) ?_
            refine va_get (D := (dC, dI)) (ci := 4) (v := .ref q_row) (C := RX4) (T := TX4) (N := 9) hx hb hts hi_4 hown hK hP 0 rfl rfl 0 (by decide) hf_12 (fun _ h9 => h9) rfl dX4_majorities_37 ?_
            refine va_get (D := (dC, dI)) (ci := 0) (v := .int len) (C := RX0) (T := TX0) (N := 2) hx hb hts hi_0 hown hK hP 2 rfl rfl 1 (by decide) hf_57 (fun _ h9 => h9) rfl dX4_majorities_40 ?_
            refine lv_icmp_ge (tgt := 73) hx hb dX4_majorities_43 (by decide) (fun c_6 => ?_) (fun c_6 => ?_)
            · have i_6 : len.toInt ≤ j.toInt := kc_le c_6
              obtain ⟨x_7, ex_7⟩ : ∃ y : Int32, y = i + 1 := ⟨_, rfl⟩
              have i_7 : x_7.toInt = i.toInt + 1 := ki_add ex_7 rfl rfl (by omega) (by omega)
              refine lv_iinc (v := x_7) (lv' := [(2, .int x_7), (3, .int j), (1, .int many2), (0, .ref m_)]) hx hb dX4_majorities_73 hl (k := 1) rfl (by rw [ex_7]; rfl) (by decide) rfl (fun ls hl => ?_)
              refine lv_goto (tgt := 15) hx hb dX4_majorities_76 (by decide) ?_
              have hP : va_P (dC, dI) vwCl [kx_4 m_ q_row q_t t_ h0 k0 w_ z_ slots old, kx_a t_o cyI 160 b_q, kx_1 t_ t_k t_o b_t b_m, kx_a t_k cyI 160 o_2, kx_0 q_row q_cell len, kx_a q_cell cyI 160 f] _ := hP.sub [0, 5, 4, 1, 2, 3] rfl
              have hD : va_D A [kx_4 m_ q_row q_t t_ h0 k0 w_ z_ slots old, kx_a t_o cyI 160 b_q, kx_1 t_ t_k t_o b_t b_m, kx_a t_k cyI 160 o_2, kx_0 q_row q_cell len, kx_a q_cell cyI 160 f] := hD.sub [0, 5, 4, 1, 2, 3] (by decide) rfl
              have n_8 := ki_nat x_7 rfl (by omega)
              have q_s : mj_ms f len.toNatClampNeg x_7.toNatClampNeg = mj_ms f len.toNatClampNeg i.toNatClampNeg + mj_mc f i.toNatClampNeg (len.toNatClampNeg - i.toNatClampNeg) := by rw [show x_7.toNatClampNeg = i.toNatClampNeg + 1 by omega]; rfl
              have q_j : j.toNatClampNeg - i.toNatClampNeg = len.toNatClampNeg - i.toNatClampNeg := by omega
              have h_2 := LP2_h2
              rw [q_j] at h_2
              exact ih1 x_7 many2 b_t b_m b_q (by omega) (by omega) (by rw [q_s]; omega) (by omega) _ _ hP hD hS ls (lv_sub hl [0, 2, 3] rfl)
            · have i_6 : j.toInt < len.toInt := kc_nle c_6
              refine lv_aload_n hx hb dX4_majorities_46 rfl (lv_at hl 3 rfl) ?_
              refine va_get (D := (dC, dI)) (ci := 4) (v := .ref t_) (C := RX4) (T := TX4) (N := 9) hx hb hts hi_4 hown hK hP 0 rfl rfl 2 (by decide) hf_28 (fun _ h9 => h9) rfl dX4_majorities_47 ?_
              refine lv_iload_n hx hb dX4_majorities_50 rfl (lv_at hl 0 rfl) ?_
              have hPc := hP.sub (ws' := [kx_1 t_ t_k t_o b_t b_m, kx_a t_k cyI 160 o_2, kx_a t_o cyI 160 b_q]) [4, 1, 5] rfl
              have hKc := hK
              have hDc := hD.sub (ws' := [kx_1 t_ t_k t_o b_t b_m, kx_a t_k cyI 160 o_2, kx_a t_o cyI 160 b_q]) [4, 1, 5] (by decide) rfl
              have hFc := va_free (wc := [kx_1 t_ t_k t_o b_t b_m, kx_a t_k cyI 160 o_2, kx_a t_o cyI 160 b_q]) hD hS hA [4, 1, 5] rfl
              refine va_callv (va_runV (As := [.int j]) (rest := []) ⟨hx, hb, hml, hown, hts⟩ (c_X1_take_x l dC dI t_ t_k t_o cyI b_t b_m o_2 b_q f len.toNatClampNeg i.toNatClampNeg (j.toNatClampNeg - i.toNatClampNeg) j H.size w_1.2 LP2_h3 (by omega) (by omega) (by omega) (by omega) (by omega) (by omega) (by omega)) (cwV 1 hts gX4_majorities_X1_take rfl rfl rfl (by decide +kernel) ⟨Nat.le_of_ble_eq_true rfl, Nat.le_of_ble_eq_true rfl⟩) ⟨fun a U g mk q => by obtain ⟨q0, q1, qP, qK, qD⟩ := q; exact ⟨q0, q1, qP, va_K.moved (u := U) (U := U.calling g mk a) (Vm.Alike.refl U.vm) qK, qD⟩, va_recv hKc hPc (ci := 1) (q0 := 0) rfl rfl, fun U hU hW => ⟨rfl, by rw [hU], by rw [hU]; exact hPc, va_K.moved hW.alike hKc, hDc.weaken (fun _ _ _ _ => trivial)⟩⟩ rfl rfl hl.1 rfl (lv_room (Nat.le_of_ble_eq_true rfl)) dX4_majorities_51 ⟨Nat.le_of_ble_eq_true rfl, Nat.le_of_ble_eq_true rfl⟩) hS (fun q _ h => hFc q h) hFc (fun u t H1 locs ht hvm w_9 hB hz1 hk1 hS => ?_)
              obtain ⟨o_10, o_11, o_12⟩ := u
              dsimp only at w_9 hB
              obtain ⟨hP1, hK1, hD1⟩ := hB
              rw [ht] at hP1
              have hK1 := va_K.moved hvm.symm hK1
              obtain ⟨hP, hD⟩ := va_join (wr := [kx_4 m_ q_row q_t t_ h0 k0 w_ z_ slots old, kx_0 q_row q_cell len, kx_a q_cell cyI 160 f]) (w1 := [kx_1 t_ t_k t_o o_10 o_11, kx_a t_k cyI 160 o_2, kx_a t_o cyI 160 o_12]) hP hD [4, 1, 5] [0, 2, 3] rfl rfl (by decide) (by decide) hk1 hFc hP1 hD1
              clear hP1 hD1 hK1 hk1 hz1 hFc hDc hPc hKc
              generalize H1 = H at hP hS ⊢
              have hP : va_P (dC, dI) vwCl [kx_4 m_ q_row q_t t_ h0 k0 w_ z_ slots old, kx_0 q_row q_cell len, kx_a q_cell cyI 160 f, kx_1 t_ t_k t_o o_10 o_11, kx_a t_k cyI 160 o_2, kx_a t_o cyI 160 o_12] H := hP
              have hD : va_D A [kx_4 m_ q_row q_t t_ h0 k0 w_ z_ slots old, kx_0 q_row q_cell len, kx_a q_cell cyI 160 f, kx_1 t_ t_k t_o o_10 o_11, kx_a t_k cyI 160 o_2, kx_a t_o cyI 160 o_12] := hD
              have w_9 : mj_tl f (fun k => (o_2 k).toNatClampNeg) o_12 len.toNatClampNeg i.toNatClampNeg ((j.toNatClampNeg - i.toNatClampNeg) + 1) o_11.toInt ∧ o_10.toInt = b_t.toInt + 1 ∧ 0 ≤ o_11.toInt ∧ o_11.toInt ≤ (((j.toNatClampNeg - i.toNatClampNeg) : Nat) : Int) + 1 := w_9
              refine lv_aload_n hx hb dX4_majorities_54 rfl (lv_at hl 3 rfl) ?_
              refine va_get (D := (dC, dI)) (ci := 4) (v := .ref t_) (C := RX4) (T := TX4) (N := 9) hx hb hts hi_4 hown hK hP 0 rfl rfl 2 (by decide) hf_28 (fun _ h9 => h9) rfl dX4_majorities_55 ?_
              have hPc := hP.sub (ws' := [kx_1 t_ t_k t_o o_10 o_11]) [3] rfl
              have hKc := hK.sub (tys' := []) [] rfl
              refine vp_callSi (W.runV (As := []) (rest := []) ⟨hx, hb, hml, hown, hts⟩ (c_X1_hasMajority_x l dC dI t_ t_k t_o o_10 o_11 w_9.2.2.1 (by omega)) (cwV 0 hts gX4_majorities_X1_hasMajority rfl rfl rfl (by decide +kernel) ⟨Nat.le_of_ble_eq_true rfl, Nat.le_of_ble_eq_true rfl⟩) ⟨fun a U g mk q => by obtain ⟨q0, qP, qK⟩ := q; exact ⟨q0, qP, va_K.moved (u := U) (U := U.calling g mk a) (Vm.Alike.refl U.vm) qK⟩, va_recv hKc hPc (ci := 1) (q0 := 0) rfl rfl, fun U hU hW => ⟨rfl, by rw [hU]; exact hPc, va_K.moved hW.alike hKc⟩⟩ rfl rfl hl.1 rfl (lv_room (Nat.le_of_ble_eq_true rfl)) dX4_majorities_58 ⟨Nat.le_of_ble_eq_true rfl, Nat.le_of_ble_eq_true rfl⟩) (fun r_13 w_13 => ?_)
              rcases w_13 with ⟨rfl, w_13⟩ | ⟨rfl, w_13⟩
              · have w_13 : o_10.toInt < 2 * o_11.toInt := w_13
                refine lv_if_eq (tgt := 67) hx hb dX4_majorities_61 (by decide) (fun c_14 => ?_) (fun c_14 => ?_)
                · exact absurd c_14 (by decide)
                · obtain ⟨x_15, ex_15⟩ : ∃ y : Int32, y = many2 + 1 := ⟨_, rfl⟩
                  have i_15 : x_15.toInt = many2.toInt + 1 := ki_add ex_15 rfl rfl (by omega) (by omega)
                  refine lv_iinc (v := x_15) (lv' := [(1, .int x_15), (3, .int j), (2, .int i), (0, .ref m_)]) hx hb dX4_majorities_64 hl (k := 2) rfl (by rw [ex_15]; rfl) (by decide) rfl (fun ls hl => ?_)
                  obtain ⟨x_16, ex_16⟩ : ∃ y : Int32, y = j + 1 := ⟨_, rfl⟩
                  have i_16 : x_16.toInt = j.toInt + 1 := ki_add ex_16 rfl rfl (by omega) (by omega)
                  refine lv_iinc (v := x_16) (lv' := [(3, .int x_16), (1, .int x_15), (2, .int i), (0, .ref m_)]) hx hb dX4_majorities_67 hl (k := 1) rfl (by rw [ex_16]; rfl) (by decide) rfl (fun ls hl => ?_)
                  refine lv_goto (tgt := 35) hx hb dX4_majorities_70 (by decide) ?_
                  have hP : va_P (dC, dI) vwCl [kx_4 m_ q_row q_t t_ h0 k0 w_ z_ slots old, kx_a t_k cyI 160 o_2, kx_0 q_row q_cell len, kx_a q_cell cyI 160 f, kx_1 t_ t_k t_o o_10 o_11, kx_a t_o cyI 160 o_12] _ := hP.sub [0, 4, 1, 2, 3, 5] rfl
                  have hD : va_D A [kx_4 m_ q_row q_t t_ h0 k0 w_ z_ slots old, kx_a t_k cyI 160 o_2, kx_0 q_row q_cell len, kx_a q_cell cyI 160 f, kx_1 t_ t_k t_o o_10 o_11, kx_a t_o cyI 160 o_12] := hD.sub [0, 4, 1, 2, 3, 5] (by decide) rfl
                  have n_17 := ki_nat x_16 rfl (by omega)
                  have hmi := mj_tl_hm w_9.1 (by omega)
                  have q_m : mj_mc f i.toNatClampNeg (x_16.toNatClampNeg - i.toNatClampNeg) = mj_mc f i.toNatClampNeg (j.toNatClampNeg - i.toNatClampNeg) + mj_hN f i.toNatClampNeg (j.toNatClampNeg - i.toNatClampNeg + 1) := by rw [show x_16.toNatClampNeg - i.toNatClampNeg = j.toNatClampNeg - i.toNatClampNeg + 1 by omega]; rfl
                  have q_h := mj_hN_yes (hmi.mp (by omega))
                  exact ih2 x_16 x_15 o_10 o_11 o_12 (by omega) (by omega) (by rw [q_m, q_h]; omega) (by rw [show x_16.toNatClampNeg - i.toNatClampNeg = j.toNatClampNeg - i.toNatClampNeg + 1 by omega]; exact w_9.1) (by omega) (by omega) (by omega) (by omega) _ _ hP hD hS ls (lv_sub hl [0, 2, 1, 3] rfl)
              · have w_13 : 2 * o_11.toInt ≤ o_10.toInt := w_13
                refine lv_if_eq (tgt := 67) hx hb dX4_majorities_61 (by decide) (fun c_18 => ?_) (fun c_18 => ?_)
                · obtain ⟨x_19, ex_19⟩ : ∃ y : Int32, y = j + 1 := ⟨_, rfl⟩
                  have i_19 : x_19.toInt = j.toInt + 1 := ki_add ex_19 rfl rfl (by omega) (by omega)
                  refine lv_iinc (v := x_19) (lv' := [(3, .int x_19), (2, .int i), (1, .int many2), (0, .ref m_)]) hx hb dX4_majorities_67 hl (k := 0) rfl (by rw [ex_19]; rfl) (by decide) rfl (fun ls hl => ?_)
                  refine lv_goto (tgt := 35) hx hb dX4_majorities_70 (by decide) ?_
                  have hP : va_P (dC, dI) vwCl [kx_4 m_ q_row q_t t_ h0 k0 w_ z_ slots old, kx_a t_k cyI 160 o_2, kx_0 q_row q_cell len, kx_a q_cell cyI 160 f, kx_1 t_ t_k t_o o_10 o_11, kx_a t_o cyI 160 o_12] _ := hP.sub [0, 4, 1, 2, 3, 5] rfl
                  have hD : va_D A [kx_4 m_ q_row q_t t_ h0 k0 w_ z_ slots old, kx_a t_k cyI 160 o_2, kx_0 q_row q_cell len, kx_a q_cell cyI 160 f, kx_1 t_ t_k t_o o_10 o_11, kx_a t_o cyI 160 o_12] := hD.sub [0, 4, 1, 2, 3, 5] (by decide) rfl
                  have n_20 := ki_nat x_19 rfl (by omega)
                  have hmi := mj_tl_hm w_9.1 (by omega)
                  have q_m : mj_mc f i.toNatClampNeg (x_19.toNatClampNeg - i.toNatClampNeg) = mj_mc f i.toNatClampNeg (j.toNatClampNeg - i.toNatClampNeg) + mj_hN f i.toNatClampNeg (j.toNatClampNeg - i.toNatClampNeg + 1) := by rw [show x_19.toNatClampNeg - i.toNatClampNeg = j.toNatClampNeg - i.toNatClampNeg + 1 by omega]; rfl
                  have q_h : mj_hN f i.toNatClampNeg (j.toNatClampNeg - i.toNatClampNeg + 1) = 0 := mj_hN_no (fun h => by have := hmi.mpr h; omega)
                  exact ih2 x_19 many2 o_10 o_11 o_12 (by omega) (by omega) (by rw [q_m, q_h]; omega) (by rw [show x_19.toNatClampNeg - i.toNatClampNeg = j.toNatClampNeg - i.toNatClampNeg + 1 by omega]; exact w_9.1) (by omega) (by omega) (by omega) (by omega) _ _ hP hD hS ls (lv_sub hl [0, 1, 2, 3] rfl)
                · exact absurd c_18 (by decide)
        have k_21 : (0 : Int32).toInt = 0 := rfl
        have k_22 : (0 : Int32).toInt = 0 := rfl
        exact LP2 ((len.toInt - i.toInt : Int).toNat + 1) i many 0 0 o_5 (by omega) (by omega) (by rw [show i.toNatClampNeg - i.toNatClampNeg = 0 by omega]; show _ = _ + ((0 : Nat) : Int); omega) (mj_tl_0 _ _ _ _ (by omega) (fun k hk => w_4 _ (by have := w_1.2 k hk; have := ki_nat _ rfl this.1; omega))) (by omega) (by omega) (by omega) (Nat.lt_succ_self _) _ _ hP hD hS ls (lv_sub hl [0, 1, 2, 3] rfl)
  have k_23 : (0 : Int32).toInt = 0 := rfl
  have k_24 : (0 : Int32).toInt = 0 := rfl
  exact LP1 ((len.toInt - 0 : Int).toNat + 1) 0 0 tk mo fq (by omega) (by omega) rfl (Nat.lt_succ_self _) _ _ hP hD hS ls (lv_sub hl [0, 1, 2] rfl)

set_option maxHeartbeats 4000000 in
set_option maxRecDepth 100000 in
theorem c_X5_laysNumbers_x (l : Launch) (dC : Nat → ClassId) (dI : Nat → Nat → Nat) (h0 : Nat) (g_row : Nat) (g_many : Nat) (g_loss : Nat) (g_less : Nat) (g_voteValue : Nat) (g_voteNumber : Nat) (g_allValue : Nat) (g_allNumber : Nat) (g_nodeL : Nat) (g_nodeR : Nat) (g_part : Nat) (g_wasMany : Nat) (g_wasLoss : Nat) (g_wasValue : Nat) (g_wasNumber : Nat) (g_path : Nat) (g_heavyValue : Nat) (g_heavyTimes : Nat) (g_fewest : Nat) (g_which : Nat) (g_met : Nat) (m_n : Int32) (m_slots : Int32) (m_thrown : Int32) (m_allMany : Int32) (m_nodes : Int32) (m_partMany : Int32) (m_pathMany : Int32) (m_heavyMany : Int32) (m_mostMet : Int32) (cyI : ClassId) (f : Nat → Int32) (fw : Nat → Int32) (sz : Nat) (a0 : 0 ≤ m_n.toInt) (a1 : m_n.toInt ≤ 160) : Met l yX5_laysNumbers wsX5_laysNumbers ({ frames := 0, cells := 0, slots := 0, locals := 0 }) (va_Pc [.ref h0] (fun U => U.heap.size = sz ∧ va_P (dC, dI) vwCl [kx_5 h0 g_row m_n m_slots m_thrown g_many g_loss g_less g_voteValue g_voteNumber g_allValue g_allNumber m_allMany g_nodeL g_nodeR m_nodes g_part m_partMany g_wasMany g_wasLoss g_wasValue g_wasNumber g_path m_pathMany g_heavyValue g_heavyTimes m_heavyMany g_fewest g_which g_met m_mostMet, kx_a g_row cyI 160 f, kx_a g_which cyI 160 fw] U.heap ∧ va_K (dC, dI) vwCl [(cyI, .int)] U ∧ va_D (fun _ => True) [kx_5 h0 g_row m_n m_slots m_thrown g_many g_loss g_less g_voteValue g_voteNumber g_allValue g_allNumber m_allMany g_nodeL g_nodeR m_nodes g_part m_partMany g_wasMany g_wasLoss g_wasValue g_wasNumber g_path m_pathMany g_heavyValue g_heavyTimes m_heavyMany g_fewest g_which g_met m_mostMet, kx_a g_row cyI 160 f, kx_a g_which cyI 160 fw])) (va_Qv (fun u : (Nat → Int32) × Int => mj_wh f u.1 m_n.toNatClampNeg u.2 ∧ u.2 ≤ m_n.toInt) (fun (u : (Nat → Int32) × Int) (t : State) => va_P (dC, dI) vwCl [kx_5 h0 g_row m_n m_slots m_thrown g_many g_loss g_less g_voteValue g_voteNumber g_allValue g_allNumber m_allMany g_nodeL g_nodeR m_nodes g_part m_partMany g_wasMany g_wasLoss g_wasValue g_wasNumber g_path m_pathMany g_heavyValue g_heavyTimes m_heavyMany g_fewest g_which g_met m_mostMet, kx_a g_row cyI 160 f, kx_a g_which cyI 160 u.1] t.heap ∧ va_K (dC, dI) vwCl [(cyI, .int)] t ∧ va_D (va_A [kx_5 h0 g_row m_n m_slots m_thrown g_many g_loss g_less g_voteValue g_voteNumber g_allValue g_allNumber m_allMany g_nodeL g_nodeR m_nodes g_part m_partMany g_wasMany g_wasLoss g_wasValue g_wasNumber g_path m_pathMany g_heavyValue g_heavyTimes m_heavyMany g_fewest g_which g_met m_mostMet, kx_a g_row cyI 160 f, kx_a g_which cyI 160 fw] sz) [kx_5 h0 g_row m_n m_slots m_thrown g_many g_loss g_less g_voteValue g_voteNumber g_allValue g_allNumber m_allMany g_nodeL g_nodeR m_nodes g_part m_partMany g_wasMany g_wasLoss g_wasValue g_wasNumber g_path m_pathMany g_heavyValue g_heavyTimes m_heavyMany g_fewest g_which g_met m_mostMet, kx_a g_row cyI 160 f, kx_a g_which cyI 160 u.1]) (va_A [kx_5 h0 g_row m_n m_slots m_thrown g_many g_loss g_less g_voteValue g_voteNumber g_allValue g_allNumber m_allMany g_nodeL g_nodeR m_nodes g_part m_partMany g_wasMany g_wasLoss g_wasValue g_wasNumber g_path m_pathMany g_heavyValue g_heavyTimes m_heavyMany g_fewest g_which g_met m_mostMet, kx_a g_row cyI 160 f, kx_a g_which cyI 160 fw] sz)) 0 0 (va_A [kx_5 h0 g_row m_n m_slots m_thrown g_many g_loss g_less g_voteValue g_voteNumber g_allValue g_allNumber m_allMany g_nodeL g_nodeR m_nodes g_part m_partMany g_wasMany g_wasLoss g_wasValue g_wasNumber g_path m_pathMany g_heavyValue g_heavyTimes m_heavyMany g_fewest g_which g_met m_mostMet, kx_a g_row cyI 160 f, kx_a g_which cyI 160 fw] sz) := by
  refine Met.ofW (cc := cX5_laysNumbers) (maxL := 5) (ret := none) (by decide) rfl ?_
  intro p e s m args below meth c s₁ B hml hv
  obtain ⟨rfl, hsz, hP, hK, hD0⟩ := hv
  have hx := B.exec
  have hb := B.bytes
  have hr := B.returns
  have hts := atoms_spec (ws := wsX5_laysNumbers) B.pre
  have hown : s.vm.findClass RX5 = some m.cls := findClass_of_methodNamed B.named
  have hlocks := B.notSynchronized
  subst hsz
  have hD := hD0.self (sz := s.heap.size)
  generalize hAe : va_A [kx_5 h0 g_row m_n m_slots m_thrown g_many g_loss g_less g_voteValue g_voteNumber g_allValue g_allNumber m_allMany g_nodeL g_nodeR m_nodes g_part m_partMany g_wasMany g_wasLoss g_wasValue g_wasNumber g_path m_pathMany g_heavyValue g_heavyTimes m_heavyMany g_fewest g_which g_met m_mostMet, kx_a g_row cyI 160 f, kx_a g_which cyI 160 fw] s.heap.size = A at hD ⊢
  have hA : ∀ q : Nat, s.heap.size ≤ q → A q := fun q h => by rw [← hAe]; exact Or.inr h
  have hS : va_S A s.heap s.heap [] := va_S.rf
  have hP : va_P (dC, dI) vwCl [kx_5 h0 g_row m_n m_slots m_thrown g_many g_loss g_less g_voteValue g_voteNumber g_allValue g_allNumber m_allMany g_nodeL g_nodeR m_nodes g_part m_partMany g_wasMany g_wasLoss g_wasValue g_wasNumber g_path m_pathMany g_heavyValue g_heavyTimes m_heavyMany g_fewest g_which g_met m_mostMet, kx_a g_row cyI 160 f, kx_a g_which cyI 160 fw] s.heap := hP
  have hl := lv_entry ([.ref h0]) (n := 5) (Nat.le_of_ble_eq_true rfl)
  rw [lg_entry_eq]
  generalize (lg_sl ([.ref h0]) ++ List.replicate (5 - (lg_sl ([.ref h0])).length) Slot.unset).toArray = ls at hl ⊢
  have hl : lv_has ls 5 [(0, .ref h0)] := hl
  have hf_84 := hts (.fieldLink RX5 84 "MajorityIndexModel" "n" "I") (List.mem_of_getElem? (i := 1) rfl)
  have hi_5 : ∀ w ∈ u_ws RX5 TX5 30, w ∈ wsX5_laysNumbers := fun w h => List.mem_cons_of_mem _ (List.mem_append_right _ h)
  have hf_71 := hts (.fieldLink RX5 71 "MajorityIndexModel" "which" "[I") (List.mem_of_getElem? (i := 3) rfl)
  have hf_7 := hts (.fieldLink RX5 7 "MajorityIndexModel" "row" "[I") (List.mem_of_getElem? (i := 2) rfl)
  have n_l := ki_nat m_n rfl (by omega)
  refine lv_iconst (v := 0) hx hb dX5_laysNumbers_0 (by decide) ?_
  refine lv_istore_n (lv' := [(1, .int 0), (0, .ref h0)]) hx hb dX5_laysNumbers_1 rfl hl (by decide) rfl (fun ls hl => ?_)
  refine lv_iconst (v := 0) hx hb dX5_laysNumbers_2 (by decide) ?_
  refine lv_istore_n (lv' := [(2, .int 0), (1, .int 0), (0, .ref h0)]) hx hb dX5_laysNumbers_3 rfl hl (by decide) rfl (fun ls hl => ?_)
  have LP1 : ∀ (n : Nat) (i : Int32) (nx : Int32) (gw : Nat → Int32), (0 ≤ i.toInt) → (0 ≤ nx.toInt) → (nx.toInt ≤ i.toInt) → (mj_wh f gw i.toNatClampNeg nx.toInt) → (i.toInt ≤ m_n.toInt) → (m_n.toInt - i.toInt).toNat < n → ∀ (H : Heap) (locs : List Loc), va_P (dC, dI) vwCl [kx_5 h0 g_row m_n m_slots m_thrown g_many g_loss g_less g_voteValue g_voteNumber g_allValue g_allNumber m_allMany g_nodeL g_nodeR m_nodes g_part m_partMany g_wasMany g_wasLoss g_wasValue g_wasNumber g_path m_pathMany g_heavyValue g_heavyTimes m_heavyMany g_fewest g_which g_met m_mostMet, kx_a g_row cyI 160 f, kx_a g_which cyI 160 gw] H → va_D A [kx_5 h0 g_row m_n m_slots m_thrown g_many g_loss g_less g_voteValue g_voteNumber g_allValue g_allNumber m_allMany g_nodeL g_nodeR m_nodes g_part m_partMany g_wasMany g_wasLoss g_wasValue g_wasNumber g_path m_pathMany g_heavyValue g_heavyTimes m_heavyMany g_fewest g_which g_met m_mostMet, kx_a g_row cyI 160 f, kx_a g_which cyI 160 gw] → va_S A s.heap H locs → ∀ (ls : Array Slot), lv_has ls 5 [(2, .int i), (1, .int nx), (0, .ref h0)] → W p l e (headSpec wsX5_laysNumbers ({ frames := 0, cells := 0, slots := 0, locals := 0 })).room s m ([.ref h0] : List Value).toArray below meth c H locs 0 0 (MQ below (va_Qv (fun u : (Nat → Int32) × Int => mj_wh f u.1 m_n.toNatClampNeg u.2 ∧ u.2 ≤ m_n.toInt) (fun (u : (Nat → Int32) × Int) (t : State) => va_P (dC, dI) vwCl [kx_5 h0 g_row m_n m_slots m_thrown g_many g_loss g_less g_voteValue g_voteNumber g_allValue g_allNumber m_allMany g_nodeL g_nodeR m_nodes g_part m_partMany g_wasMany g_wasLoss g_wasValue g_wasNumber g_path m_pathMany g_heavyValue g_heavyTimes m_heavyMany g_fewest g_which g_met m_mostMet, kx_a g_row cyI 160 f, kx_a g_which cyI 160 u.1] t.heap ∧ va_K (dC, dI) vwCl [(cyI, .int)] t ∧ va_D A [kx_5 h0 g_row m_n m_slots m_thrown g_many g_loss g_less g_voteValue g_voteNumber g_allValue g_allNumber m_allMany g_nodeL g_nodeR m_nodes g_part m_partMany g_wasMany g_wasLoss g_wasValue g_wasNumber g_path m_pathMany g_heavyValue g_heavyTimes m_heavyMany g_fewest g_which g_met m_mostMet, kx_a g_row cyI 160 f, kx_a g_which cyI 160 u.1]) A) ([.ref h0] : List Value).toArray s 0 0 A) (F0 m 4 ls []) := by
    intro n
    induction n with
    | zero => intro i nx gw LP1_h0 LP1_h1 LP1_h2 LP1_h3 LP1_h4 hn; exact absurd hn (Nat.not_lt_zero _)
    | succ n ih1 =>
      intro i nx gw LP1_h0 LP1_h1 LP1_h2 LP1_h3 LP1_h4 hn1 H locs hP hD hS ls hl
      have n_i := ki_nat i rfl (by omega)
      refine lv_iload_n hx hb dX5_laysNumbers_4 rfl (lv_at hl 0 rfl) ?_
      refine lv_aload_n hx hb dX5_laysNumbers_5 rfl (lv_at hl 2 rfl) ?_
      refine va_get (D := (dC, dI)) (ci := 5) (v := .int m_n) (C := RX5) (T := TX5) (N := 30) hx hb hts hi_5 hown hK hP 0 rfl rfl 1 (by decide) hf_84 (fun _ h9 => h9) rfl dX5_laysNumbers_6 ?_
      refine lv_icmp_ge (tgt := 85) hx hb dX5_laysNumbers_9 (by decide) (fun c_1 => ?_) (fun c_1 => ?_)
      · have i_1 : m_n.toInt ≤ i.toInt := kc_le c_1
        have hP9 := hP
        have hD9 := hD
        have hK9 := hK
        exact W.vret hx hb hr (fun t ht hW => ⟨⟨(gw, nx.toInt), rfl, ⟨(by (try dsimp only); rw [show m_n.toNatClampNeg = i.toNatClampNeg by omega]; exact LP1_h3), (by (try dsimp only); omega)⟩, by rw [ht]; exact hP9, va_K.moved hW.alike hK9, hD9⟩, hS.F ht⟩) hS.2.2 dX5_laysNumbers_85
      · have i_1 : i.toInt < m_n.toInt := kc_nle c_1
        refine lv_iconst (v := (-1)) hx hb dX5_laysNumbers_12 (by decide) ?_
        refine lv_istore_n (lv' := [(3, .int (-1)), (2, .int i), (1, .int nx), (0, .ref h0)]) hx hb dX5_laysNumbers_13 rfl hl (by decide) rfl (fun ls hl => ?_)
        refine lv_iconst (v := 0) hx hb dX5_laysNumbers_14 (by decide) ?_
        refine lv_istore (lv' := [(4, .int 0), (3, .int (-1)), (2, .int i), (1, .int nx), (0, .ref h0)]) hx hb dX5_laysNumbers_15 hl (by decide) rfl (fun ls hl => ?_)
        have LP2 : ∀ (n : Nat) (j : Int32) (lk : Int32), (0 ≤ j.toInt) → ((lk.toInt = -1 ∧ ∀ q : Nat, q < j.toNatClampNeg → ¬ f q = f i.toNatClampNeg) ∨ (0 ≤ lk.toInt ∧ ∃ k : Nat, k < i.toNatClampNeg ∧ f k = f i.toNatClampNeg ∧ lk.toInt = (gw k).toInt)) → (j.toInt ≤ i.toInt) → (i.toInt - j.toInt).toNat < n → ∀ (H : Heap) (locs : List Loc), va_P (dC, dI) vwCl [kx_5 h0 g_row m_n m_slots m_thrown g_many g_loss g_less g_voteValue g_voteNumber g_allValue g_allNumber m_allMany g_nodeL g_nodeR m_nodes g_part m_partMany g_wasMany g_wasLoss g_wasValue g_wasNumber g_path m_pathMany g_heavyValue g_heavyTimes m_heavyMany g_fewest g_which g_met m_mostMet, kx_a g_row cyI 160 f, kx_a g_which cyI 160 gw] H → va_D A [kx_5 h0 g_row m_n m_slots m_thrown g_many g_loss g_less g_voteValue g_voteNumber g_allValue g_allNumber m_allMany g_nodeL g_nodeR m_nodes g_part m_partMany g_wasMany g_wasLoss g_wasValue g_wasNumber g_path m_pathMany g_heavyValue g_heavyTimes m_heavyMany g_fewest g_which g_met m_mostMet, kx_a g_row cyI 160 f, kx_a g_which cyI 160 gw] → va_S A s.heap H locs → ∀ (ls : Array Slot), lv_has ls 5 [(4, .int j), (3, .int lk), (2, .int i), (1, .int nx), (0, .ref h0)] → W p l e (headSpec wsX5_laysNumbers ({ frames := 0, cells := 0, slots := 0, locals := 0 })).room s m ([.ref h0] : List Value).toArray below meth c H locs 0 0 (MQ below (va_Qv (fun u : (Nat → Int32) × Int => mj_wh f u.1 m_n.toNatClampNeg u.2 ∧ u.2 ≤ m_n.toInt) (fun (u : (Nat → Int32) × Int) (t : State) => va_P (dC, dI) vwCl [kx_5 h0 g_row m_n m_slots m_thrown g_many g_loss g_less g_voteValue g_voteNumber g_allValue g_allNumber m_allMany g_nodeL g_nodeR m_nodes g_part m_partMany g_wasMany g_wasLoss g_wasValue g_wasNumber g_path m_pathMany g_heavyValue g_heavyTimes m_heavyMany g_fewest g_which g_met m_mostMet, kx_a g_row cyI 160 f, kx_a g_which cyI 160 u.1] t.heap ∧ va_K (dC, dI) vwCl [(cyI, .int)] t ∧ va_D A [kx_5 h0 g_row m_n m_slots m_thrown g_many g_loss g_less g_voteValue g_voteNumber g_allValue g_allNumber m_allMany g_nodeL g_nodeR m_nodes g_part m_partMany g_wasMany g_wasLoss g_wasValue g_wasNumber g_path m_pathMany g_heavyValue g_heavyTimes m_heavyMany g_fewest g_which g_met m_mostMet, kx_a g_row cyI 160 f, kx_a g_which cyI 160 u.1]) A) ([.ref h0] : List Value).toArray s 0 0 A) (F0 m 17 ls []) := by
          intro n
          induction n with
          | zero => intro j lk LP2_h0 LP2_h1 LP2_h2 hn; exact absurd hn (Nat.not_lt_zero _)
          | succ n ih2 =>
            intro j lk LP2_h0 LP2_h1 LP2_h2 hn2 H locs hP hD hS ls hl
            have n_j := ki_nat j rfl (by omega)
            refine lv_iload hx hb dX5_laysNumbers_17 (lv_at hl 0 rfl) ?_
            refine lv_iload_n hx hb dX5_laysNumbers_19 rfl (lv_at hl 2 rfl) ?_
            refine lv_icmp_ge (tgt := 57) hx hb dX5_laysNumbers_20 (by decide) (fun c_2 => ?_) (fun c_2 => ?_)
            · have i_2 : i.toInt ≤ j.toInt := kc_le c_2
              refine lv_aload_n hx hb dX5_laysNumbers_57 rfl (lv_at hl 4 rfl) ?_
              refine va_get (D := (dC, dI)) (ci := 5) (v := .ref g_which) (C := RX5) (T := TX5) (N := 30) hx hb hts hi_5 hown hK hP 0 rfl rfl 27 (by decide) hf_71 (fun _ h9 => h9) rfl dX5_laysNumbers_58 ?_
              refine lv_iload_n hx hb dX5_laysNumbers_61 rfl (lv_at hl 2 rfl) ?_
              refine lv_iload_n hx hb dX5_laysNumbers_62 rfl (lv_at hl 1 rfl) ?_
              refine lv_if_ge (tgt := 70) hx hb dX5_laysNumbers_63 (by decide) (fun c_3 => ?_) (fun c_3 => ?_)
              · have i_3 : 0 ≤ lk.toInt := kc_le c_3
                refine lv_iload_n hx hb dX5_laysNumbers_70 rfl (lv_at hl 1 rfl) ?_
                refine va_iast hx hb hK hP hD hS 2 0 rfl rfl (ki_in (by omega) (by omega)) dX5_laysNumbers_71 (fun H locs hP hD hS => ?_)
                have hP : va_P (dC, dI) vwCl [kx_5 h0 g_row m_n m_slots m_thrown g_many g_loss g_less g_voteValue g_voteNumber g_allValue g_allNumber m_allMany g_nodeL g_nodeR m_nodes g_part m_partMany g_wasMany g_wasLoss g_wasValue g_wasNumber g_path m_pathMany g_heavyValue g_heavyTimes m_heavyMany g_fewest g_which g_met m_mostMet, kx_a g_row cyI 160 f, kx_a g_which cyI 160 (upd gw i.toNatClampNeg lk)] H := hP
                have hD : va_D A [kx_5 h0 g_row m_n m_slots m_thrown g_many g_loss g_less g_voteValue g_voteNumber g_allValue g_allNumber m_allMany g_nodeL g_nodeR m_nodes g_part m_partMany g_wasMany g_wasLoss g_wasValue g_wasNumber g_path m_pathMany g_heavyValue g_heavyTimes m_heavyMany g_fewest g_which g_met m_mostMet, kx_a g_row cyI 160 f, kx_a g_which cyI 160 (upd gw i.toNatClampNeg lk)] := hD
                refine lv_iload_n hx hb dX5_laysNumbers_72 rfl (lv_at hl 1 rfl) ?_
                refine lv_if_ge (tgt := 79) hx hb dX5_laysNumbers_73 (by decide) (fun c_4 => ?_) (fun c_4 => ?_)
                · have i_4 : 0 ≤ lk.toInt := kc_le c_4
                  obtain ⟨x_5, ex_5⟩ : ∃ y : Int32, y = i + 1 := ⟨_, rfl⟩
                  have i_5 : x_5.toInt = i.toInt + 1 := ki_add ex_5 rfl rfl (by omega) (by omega)
                  refine lv_iinc (v := x_5) (lv' := [(2, .int x_5), (4, .int j), (3, .int lk), (1, .int nx), (0, .ref h0)]) hx hb dX5_laysNumbers_79 hl (k := 2) rfl (by rw [ex_5]; rfl) (by decide) rfl (fun ls hl => ?_)
                  refine lv_goto (tgt := 4) hx hb dX5_laysNumbers_82 (by decide) ?_
                  have n_6 := ki_nat x_5 rfl (by omega)
                  have q_x : x_5.toNatClampNeg = i.toNatClampNeg + 1 := by clear LP2_h1; omega
                  obtain ⟨k9, z1, z2, z3⟩ : ∃ k : Nat, k < i.toNatClampNeg ∧ f k = f i.toNatClampNeg ∧ lk.toInt = (gw k).toInt := by rcases LP2_h1 with ⟨h, -⟩ | ⟨_, h⟩; exact absurd h (by omega); exact h
                  clear LP2_h1
                  exact ih1 x_5 nx (upd gw i.toNatClampNeg lk) (by omega) (by omega) (by omega) (mj_wh_like LP1_h3 z1 z2 z3 q_x) (by omega) (by omega) _ _ hP hD hS ls (lv_sub hl [0, 3, 4] rfl)
                · have i_4 : lk.toInt < 0 := kc_nle c_4
                  exfalso; omega
              · have i_3 : lk.toInt < 0 := kc_nle c_3
                refine lv_iload_n hx hb dX5_laysNumbers_66 rfl (lv_at hl 3 rfl) ?_
                refine lv_goto (tgt := 71) hx hb dX5_laysNumbers_67 (by decide) ?_
                refine va_iast hx hb hK hP hD hS 2 0 rfl rfl (ki_in (by omega) (by omega)) dX5_laysNumbers_71 (fun H locs hP hD hS => ?_)
                have hP : va_P (dC, dI) vwCl [kx_5 h0 g_row m_n m_slots m_thrown g_many g_loss g_less g_voteValue g_voteNumber g_allValue g_allNumber m_allMany g_nodeL g_nodeR m_nodes g_part m_partMany g_wasMany g_wasLoss g_wasValue g_wasNumber g_path m_pathMany g_heavyValue g_heavyTimes m_heavyMany g_fewest g_which g_met m_mostMet, kx_a g_row cyI 160 f, kx_a g_which cyI 160 (upd gw i.toNatClampNeg nx)] H := hP
                have hD : va_D A [kx_5 h0 g_row m_n m_slots m_thrown g_many g_loss g_less g_voteValue g_voteNumber g_allValue g_allNumber m_allMany g_nodeL g_nodeR m_nodes g_part m_partMany g_wasMany g_wasLoss g_wasValue g_wasNumber g_path m_pathMany g_heavyValue g_heavyTimes m_heavyMany g_fewest g_which g_met m_mostMet, kx_a g_row cyI 160 f, kx_a g_which cyI 160 (upd gw i.toNatClampNeg nx)] := hD
                refine lv_iload_n hx hb dX5_laysNumbers_72 rfl (lv_at hl 1 rfl) ?_
                refine lv_if_ge (tgt := 79) hx hb dX5_laysNumbers_73 (by decide) (fun c_7 => ?_) (fun c_7 => ?_)
                · have i_7 : 0 ≤ lk.toInt := kc_le c_7
                  exfalso; omega
                · have i_7 : lk.toInt < 0 := kc_nle c_7
                  obtain ⟨x_8, ex_8⟩ : ∃ y : Int32, y = nx + 1 := ⟨_, rfl⟩
                  have i_8 : x_8.toInt = nx.toInt + 1 := ki_add ex_8 rfl rfl (by omega) (by omega)
                  refine lv_iinc (v := x_8) (lv' := [(1, .int x_8), (4, .int j), (3, .int lk), (2, .int i), (0, .ref h0)]) hx hb dX5_laysNumbers_76 hl (k := 3) rfl (by rw [ex_8]; rfl) (by decide) rfl (fun ls hl => ?_)
                  obtain ⟨x_9, ex_9⟩ : ∃ y : Int32, y = i + 1 := ⟨_, rfl⟩
                  have i_9 : x_9.toInt = i.toInt + 1 := ki_add ex_9 rfl rfl (by omega) (by omega)
                  refine lv_iinc (v := x_9) (lv' := [(2, .int x_9), (1, .int x_8), (4, .int j), (3, .int lk), (0, .ref h0)]) hx hb dX5_laysNumbers_79 hl (k := 3) rfl (by rw [ex_9]; rfl) (by decide) rfl (fun ls hl => ?_)
                  refine lv_goto (tgt := 4) hx hb dX5_laysNumbers_82 (by decide) ?_
                  have n_10 := ki_nat x_9 rfl (by omega)
                  have q_x : x_9.toNatClampNeg = i.toNatClampNeg + 1 := by clear LP2_h1; omega
                  have q_n : ∀ q : Nat, q < i.toNatClampNeg → ¬ f q = f i.toNatClampNeg := by rcases LP2_h1 with ⟨_, h⟩ | ⟨h, -⟩; exact fun q hq => h q (by omega); exact absurd h (by omega)
                  clear LP2_h1
                  exact ih1 x_9 x_8 (upd gw i.toNatClampNeg nx) (by omega) (by omega) (by omega) (mj_wh_new LP1_h3 (by omega) rfl q_n q_x (by omega)) (by omega) (by omega) _ _ hP hD hS ls (lv_sub hl [0, 1, 4] rfl)
            · have i_2 : j.toInt < i.toInt := kc_nle c_2
              refine lv_iload_n hx hb dX5_laysNumbers_23 rfl (lv_at hl 1 rfl) ?_
              refine lv_if_ge (tgt := 57) hx hb dX5_laysNumbers_24 (by decide) (fun c_11 => ?_) (fun c_11 => ?_)
              · have i_11 : 0 ≤ lk.toInt := kc_le c_11
                refine lv_aload_n hx hb dX5_laysNumbers_57 rfl (lv_at hl 4 rfl) ?_
                refine va_get (D := (dC, dI)) (ci := 5) (v := .ref g_which) (C := RX5) (T := TX5) (N := 30) hx hb hts hi_5 hown hK hP 0 rfl rfl 27 (by decide) hf_71 (fun _ h9 => h9) rfl dX5_laysNumbers_58 ?_
                refine lv_iload_n hx hb dX5_laysNumbers_61 rfl (lv_at hl 2 rfl) ?_
                refine lv_iload_n hx hb dX5_laysNumbers_62 rfl (lv_at hl 1 rfl) ?_
                refine lv_if_ge (tgt := 70) hx hb dX5_laysNumbers_63 (by decide) (fun c_12 => ?_) (fun c_12 => ?_)
                · have i_12 : 0 ≤ lk.toInt := kc_le c_12
                  refine lv_iload_n hx hb dX5_laysNumbers_70 rfl (lv_at hl 1 rfl) ?_
                  refine va_iast hx hb hK hP hD hS 2 0 rfl rfl (ki_in (by omega) (by omega)) dX5_laysNumbers_71 (fun H locs hP hD hS => ?_)
                  have hP : va_P (dC, dI) vwCl [kx_5 h0 g_row m_n m_slots m_thrown g_many g_loss g_less g_voteValue g_voteNumber g_allValue g_allNumber m_allMany g_nodeL g_nodeR m_nodes g_part m_partMany g_wasMany g_wasLoss g_wasValue g_wasNumber g_path m_pathMany g_heavyValue g_heavyTimes m_heavyMany g_fewest g_which g_met m_mostMet, kx_a g_row cyI 160 f, kx_a g_which cyI 160 (upd gw i.toNatClampNeg lk)] H := hP
                  have hD : va_D A [kx_5 h0 g_row m_n m_slots m_thrown g_many g_loss g_less g_voteValue g_voteNumber g_allValue g_allNumber m_allMany g_nodeL g_nodeR m_nodes g_part m_partMany g_wasMany g_wasLoss g_wasValue g_wasNumber g_path m_pathMany g_heavyValue g_heavyTimes m_heavyMany g_fewest g_which g_met m_mostMet, kx_a g_row cyI 160 f, kx_a g_which cyI 160 (upd gw i.toNatClampNeg lk)] := hD
                  refine lv_iload_n hx hb dX5_laysNumbers_72 rfl (lv_at hl 1 rfl) ?_
                  refine lv_if_ge (tgt := 79) hx hb dX5_laysNumbers_73 (by decide) (fun c_13 => ?_) (fun c_13 => ?_)
                  · have i_13 : 0 ≤ lk.toInt := kc_le c_13
                    obtain ⟨x_14, ex_14⟩ : ∃ y : Int32, y = i + 1 := ⟨_, rfl⟩
                    have i_14 : x_14.toInt = i.toInt + 1 := ki_add ex_14 rfl rfl (by omega) (by omega)
                    refine lv_iinc (v := x_14) (lv' := [(2, .int x_14), (4, .int j), (3, .int lk), (1, .int nx), (0, .ref h0)]) hx hb dX5_laysNumbers_79 hl (k := 2) rfl (by rw [ex_14]; rfl) (by decide) rfl (fun ls hl => ?_)
                    refine lv_goto (tgt := 4) hx hb dX5_laysNumbers_82 (by decide) ?_
                    have n_15 := ki_nat x_14 rfl (by omega)
                    have q_x : x_14.toNatClampNeg = i.toNatClampNeg + 1 := by clear LP2_h1; omega
                    obtain ⟨k9, z1, z2, z3⟩ : ∃ k : Nat, k < i.toNatClampNeg ∧ f k = f i.toNatClampNeg ∧ lk.toInt = (gw k).toInt := by rcases LP2_h1 with ⟨h, -⟩ | ⟨_, h⟩; exact absurd h (by omega); exact h
                    clear LP2_h1
                    exact ih1 x_14 nx (upd gw i.toNatClampNeg lk) (by omega) (by omega) (by omega) (mj_wh_like LP1_h3 z1 z2 z3 q_x) (by omega) (by omega) _ _ hP hD hS ls (lv_sub hl [0, 3, 4] rfl)
                  · have i_13 : lk.toInt < 0 := kc_nle c_13
                    exfalso; omega
                · have i_12 : lk.toInt < 0 := kc_nle c_12
                  exfalso; omega
              · have i_11 : lk.toInt < 0 := kc_nle c_11
                refine lv_aload_n hx hb dX5_laysNumbers_27 rfl (lv_at hl 4 rfl) ?_
                refine va_get (D := (dC, dI)) (ci := 5) (v := .ref g_row) (C := RX5) (T := TX5) (N := 30) hx hb hts hi_5 hown hK hP 0 rfl rfl 0 (by decide) hf_7 (fun _ h9 => h9) rfl dX5_laysNumbers_28 ?_
                refine lv_iload hx hb dX5_laysNumbers_31 (lv_at hl 0 rfl) ?_
                refine va_iald hx hb hK hP 1 0 rfl rfl (ki_in (by omega) (by omega)) dX5_laysNumbers_33 ?_
                refine lv_topi (fun y_16 ey_16 => ?_)
                have j_16 : y_16.toInt = (f j.toNatClampNeg).toInt := congrArg Int32.toInt ey_16
                refine lv_aload_n hx hb dX5_laysNumbers_34 rfl (lv_at hl 4 rfl) ?_
                refine va_get (D := (dC, dI)) (ci := 5) (v := .ref g_row) (C := RX5) (T := TX5) (N := 30) hx hb hts hi_5 hown hK hP 0 rfl rfl 0 (by decide) hf_7 (fun _ h9 => h9) rfl dX5_laysNumbers_35 ?_
                refine lv_iload_n hx hb dX5_laysNumbers_38 rfl (lv_at hl 2 rfl) ?_
                refine va_iald hx hb hK hP 1 0 rfl rfl (ki_in (by omega) (by omega)) dX5_laysNumbers_39 ?_
                refine lv_topi (fun y_17 ey_17 => ?_)
                have j_17 : y_17.toInt = (f i.toNatClampNeg).toInt := congrArg Int32.toInt ey_17
                refine lv_icmp_ne (tgt := 51) hx hb dX5_laysNumbers_40 (by decide) (fun c_18 => ?_) (fun c_18 => ?_)
                · have i_18 : ¬ y_16.toInt = y_17.toInt := kc_ne c_18
                  obtain ⟨x_19, ex_19⟩ : ∃ y : Int32, y = j + 1 := ⟨_, rfl⟩
                  have i_19 : x_19.toInt = j.toInt + 1 := ki_add ex_19 rfl rfl (by omega) (by omega)
                  refine lv_iinc (v := x_19) (lv' := [(4, .int x_19), (3, .int lk), (2, .int i), (1, .int nx), (0, .ref h0)]) hx hb dX5_laysNumbers_51 hl (k := 0) rfl (by rw [ex_19]; rfl) (by decide) rfl (fun ls hl => ?_)
                  refine lv_goto (tgt := 17) hx hb dX5_laysNumbers_54 (by decide) ?_
                  have n_20 := ki_nat x_19 rfl (by omega)
                  exact ih2 x_19 lk (by omega) (Or.inl ⟨(by omega), fun q hq => if h9 : q < j.toNatClampNeg then (by rcases LP2_h1 with h | h; exact h.2 q h9; exact absurd h.1 (by omega)) else (by rw [show q = j.toNatClampNeg by omega, ← ey_16, ← ey_17]; exact c_18)⟩) (by omega) (by omega) _ _ hP hD hS ls (lv_sub hl [0, 1, 2, 3, 4] rfl)
                · have i_18 : y_16.toInt = y_17.toInt := kc_eq c_18
                  refine lv_aload_n hx hb dX5_laysNumbers_43 rfl (lv_at hl 4 rfl) ?_
                  refine va_get (D := (dC, dI)) (ci := 5) (v := .ref g_which) (C := RX5) (T := TX5) (N := 30) hx hb hts hi_5 hown hK hP 0 rfl rfl 27 (by decide) hf_71 (fun _ h9 => h9) rfl dX5_laysNumbers_44 ?_
                  refine lv_iload hx hb dX5_laysNumbers_47 (lv_at hl 0 rfl) ?_
                  refine va_iald hx hb hK hP 2 0 rfl rfl (ki_in (by omega) (by omega)) dX5_laysNumbers_49 ?_
                  refine lv_topi (fun y_21 ey_21 => ?_)
                  have j_21 : y_21.toInt = (gw j.toNatClampNeg).toInt := congrArg Int32.toInt ey_21
                  have i_w := (LP1_h3.1 j.toNatClampNeg (by omega))
                  refine lv_istore_n (lv' := [(3, .int y_21), (4, .int j), (2, .int i), (1, .int nx), (0, .ref h0)]) hx hb dX5_laysNumbers_50 rfl hl (by decide) rfl (fun ls hl => ?_)
                  obtain ⟨x_22, ex_22⟩ : ∃ y : Int32, y = j + 1 := ⟨_, rfl⟩
                  have i_22 : x_22.toInt = j.toInt + 1 := ki_add ex_22 rfl rfl (by omega) (by omega)
                  refine lv_iinc (v := x_22) (lv' := [(4, .int x_22), (3, .int y_21), (2, .int i), (1, .int nx), (0, .ref h0)]) hx hb dX5_laysNumbers_51 hl (k := 1) rfl (by rw [ex_22]; rfl) (by decide) rfl (fun ls hl => ?_)
                  refine lv_goto (tgt := 17) hx hb dX5_laysNumbers_54 (by decide) ?_
                  have n_23 := ki_nat x_22 rfl (by omega)
                  exact ih2 x_22 y_21 (by omega) (Or.inr ⟨(by omega), j.toNatClampNeg, (by omega), (by rw [← ey_16, ← ey_17]; exact c_18), congrArg Int32.toInt ey_21⟩) (by omega) (by omega) _ _ hP hD hS ls (lv_sub hl [0, 1, 2, 3, 4] rfl)
        have k_24 : (0 : Int32).toInt = 0 := rfl
        have k_25 : ((-1) : Int32).toInt = -1 := rfl
        exact LP2 ((i.toInt - 0 : Int).toNat + 1) 0 (-1) (by omega) (Or.inl ⟨rfl, fun q hq => absurd hq (Nat.not_lt_zero q)⟩) (by omega) (Nat.lt_succ_self _) _ _ hP hD hS ls (lv_sub hl [0, 1, 2, 3, 4] rfl)
  have k_26 : (0 : Int32).toInt = 0 := rfl
  have k_27 : (0 : Int32).toInt = 0 := rfl
  exact LP1 ((m_n.toInt - 0 : Int).toNat + 1) 0 0 fw (by omega) (by omega) (by omega) (mj_wh_0 _ _ rfl) (by omega) (Nat.lt_succ_self _) _ _ hP hD hS ls (lv_sub hl [0, 1, 2] rfl)

set_option maxHeartbeats 4000000 in
set_option maxRecDepth 100000 in
theorem c_X5_begins_x (l : Launch) (dC : Nat → ClassId) (dI : Nat → Nat → Nat) (h0 : Nat) (g_row : Nat) (g_many : Nat) (g_loss : Nat) (g_less : Nat) (g_voteValue : Nat) (g_voteNumber : Nat) (g_allValue : Nat) (g_allNumber : Nat) (g_nodeL : Nat) (g_nodeR : Nat) (g_part : Nat) (g_wasMany : Nat) (g_wasLoss : Nat) (g_wasValue : Nat) (g_wasNumber : Nat) (g_path : Nat) (g_heavyValue : Nat) (g_heavyTimes : Nat) (g_fewest : Nat) (g_which : Nat) (g_met : Nat) (m_n : Int32) (m_slots : Int32) (m_thrown : Int32) (m_allMany : Int32) (m_nodes : Int32) (m_partMany : Int32) (m_pathMany : Int32) (m_heavyMany : Int32) (m_mostMet : Int32) (cyI : ClassId) (fq : Nat → Int32) (sz : Nat) (a0 : 0 ≤ m_n.toInt) (a1 : m_n.toInt ≤ 160) : Met l yX5_begins wsX5_begins ({ frames := 0, cells := 0, slots := 0, locals := 0 }) (va_Pc [.ref h0] (fun U => U.heap.size = sz ∧ va_P (dC, dI) vwCl [kx_5 h0 g_row m_n m_slots m_thrown g_many g_loss g_less g_voteValue g_voteNumber g_allValue g_allNumber m_allMany g_nodeL g_nodeR m_nodes g_part m_partMany g_wasMany g_wasLoss g_wasValue g_wasNumber g_path m_pathMany g_heavyValue g_heavyTimes m_heavyMany g_fewest g_which g_met m_mostMet, kx_a g_met cyI 160 fq] U.heap ∧ va_K (dC, dI) vwCl [(cyI, .int)] U ∧ va_D (fun _ => True) [kx_5 h0 g_row m_n m_slots m_thrown g_many g_loss g_less g_voteValue g_voteNumber g_allValue g_allNumber m_allMany g_nodeL g_nodeR m_nodes g_part m_partMany g_wasMany g_wasLoss g_wasValue g_wasNumber g_path m_pathMany g_heavyValue g_heavyTimes m_heavyMany g_fewest g_which g_met m_mostMet, kx_a g_met cyI 160 fq])) (va_Qv (fun u : (Nat → Int32) => ∀ k : Nat, k < m_n.toNatClampNeg → u k = 0) (fun (u : (Nat → Int32)) (t : State) => va_P (dC, dI) vwCl [kx_5 h0 g_row m_n m_slots m_thrown g_many g_loss g_less g_voteValue g_voteNumber g_allValue g_allNumber m_allMany g_nodeL g_nodeR m_nodes g_part m_partMany g_wasMany g_wasLoss g_wasValue g_wasNumber g_path m_pathMany g_heavyValue g_heavyTimes m_heavyMany g_fewest g_which g_met 0, kx_a g_met cyI 160 u] t.heap ∧ va_K (dC, dI) vwCl [(cyI, .int)] t ∧ va_D (va_A [kx_5 h0 g_row m_n m_slots m_thrown g_many g_loss g_less g_voteValue g_voteNumber g_allValue g_allNumber m_allMany g_nodeL g_nodeR m_nodes g_part m_partMany g_wasMany g_wasLoss g_wasValue g_wasNumber g_path m_pathMany g_heavyValue g_heavyTimes m_heavyMany g_fewest g_which g_met m_mostMet, kx_a g_met cyI 160 fq] sz) [kx_5 h0 g_row m_n m_slots m_thrown g_many g_loss g_less g_voteValue g_voteNumber g_allValue g_allNumber m_allMany g_nodeL g_nodeR m_nodes g_part m_partMany g_wasMany g_wasLoss g_wasValue g_wasNumber g_path m_pathMany g_heavyValue g_heavyTimes m_heavyMany g_fewest g_which g_met 0, kx_a g_met cyI 160 u]) (va_A [kx_5 h0 g_row m_n m_slots m_thrown g_many g_loss g_less g_voteValue g_voteNumber g_allValue g_allNumber m_allMany g_nodeL g_nodeR m_nodes g_part m_partMany g_wasMany g_wasLoss g_wasValue g_wasNumber g_path m_pathMany g_heavyValue g_heavyTimes m_heavyMany g_fewest g_which g_met m_mostMet, kx_a g_met cyI 160 fq] sz)) 0 0 (va_A [kx_5 h0 g_row m_n m_slots m_thrown g_many g_loss g_less g_voteValue g_voteNumber g_allValue g_allNumber m_allMany g_nodeL g_nodeR m_nodes g_part m_partMany g_wasMany g_wasLoss g_wasValue g_wasNumber g_path m_pathMany g_heavyValue g_heavyTimes m_heavyMany g_fewest g_which g_met m_mostMet, kx_a g_met cyI 160 fq] sz) := by
  refine Met.ofW (cc := cX5_begins) (maxL := 2) (ret := none) (by decide) rfl ?_
  intro p e s m args below meth c s₁ B hml hv
  obtain ⟨rfl, hsz, hP, hK, hD0⟩ := hv
  have hx := B.exec
  have hb := B.bytes
  have hr := B.returns
  have hts := atoms_spec (ws := wsX5_begins) B.pre
  have hown : s.vm.findClass RX5 = some m.cls := findClass_of_methodNamed B.named
  have hlocks := B.notSynchronized
  subst hsz
  have hD := hD0.self (sz := s.heap.size)
  generalize hAe : va_A [kx_5 h0 g_row m_n m_slots m_thrown g_many g_loss g_less g_voteValue g_voteNumber g_allValue g_allNumber m_allMany g_nodeL g_nodeR m_nodes g_part m_partMany g_wasMany g_wasLoss g_wasValue g_wasNumber g_path m_pathMany g_heavyValue g_heavyTimes m_heavyMany g_fewest g_which g_met m_mostMet, kx_a g_met cyI 160 fq] s.heap.size = A at hD ⊢
  have hA : ∀ q : Nat, s.heap.size ≤ q → A q := fun q h => by rw [← hAe]; exact Or.inr h
  have hS : va_S A s.heap s.heap [] := va_S.rf
  have hP : va_P (dC, dI) vwCl [kx_5 h0 g_row m_n m_slots m_thrown g_many g_loss g_less g_voteValue g_voteNumber g_allValue g_allNumber m_allMany g_nodeL g_nodeR m_nodes g_part m_partMany g_wasMany g_wasLoss g_wasValue g_wasNumber g_path m_pathMany g_heavyValue g_heavyTimes m_heavyMany g_fewest g_which g_met m_mostMet, kx_a g_met cyI 160 fq] s.heap := hP
  have hl := lv_entry ([.ref h0]) (n := 2) (Nat.le_of_ble_eq_true rfl)
  rw [lg_entry_eq]
  generalize (lg_sl ([.ref h0]) ++ List.replicate (2 - (lg_sl ([.ref h0])).length) Slot.unset).toArray = ls at hl ⊢
  have hl : lv_has ls 2 [(0, .ref h0)] := hl
  have hf_84 := hts (.fieldLink RX5 84 "MajorityIndexModel" "n" "I") (List.mem_of_getElem? (i := 1) rfl)
  have hi_5 : ∀ w ∈ u_ws RX5 TX5 30, w ∈ wsX5_begins := fun w h => List.mem_cons_of_mem _ (List.mem_append_right _ h)
  have hf_210 := hts (.fieldLink RX5 210 "MajorityIndexModel" "mostMet" "I") (List.mem_of_getElem? (i := 3) rfl)
  have hf_74 := hts (.fieldLink RX5 74 "MajorityIndexModel" "met" "[I") (List.mem_of_getElem? (i := 2) rfl)
  have n_l := ki_nat m_n rfl (by omega)
  refine lv_iconst (v := 0) hx hb dX5_begins_0 (by decide) ?_
  refine lv_istore_n (lv' := [(1, .int 0), (0, .ref h0)]) hx hb dX5_begins_1 rfl hl (by decide) rfl (fun ls hl => ?_)
  have LP1 : ∀ (n : Nat) (i : Int32) (gq : Nat → Int32), (0 ≤ i.toInt) → (∀ k : Nat, k < i.toNatClampNeg → gq k = 0) → (i.toInt ≤ m_n.toInt) → (m_n.toInt - i.toInt).toNat < n → ∀ (H : Heap) (locs : List Loc), va_P (dC, dI) vwCl [kx_5 h0 g_row m_n m_slots m_thrown g_many g_loss g_less g_voteValue g_voteNumber g_allValue g_allNumber m_allMany g_nodeL g_nodeR m_nodes g_part m_partMany g_wasMany g_wasLoss g_wasValue g_wasNumber g_path m_pathMany g_heavyValue g_heavyTimes m_heavyMany g_fewest g_which g_met m_mostMet, kx_a g_met cyI 160 gq] H → va_D A [kx_5 h0 g_row m_n m_slots m_thrown g_many g_loss g_less g_voteValue g_voteNumber g_allValue g_allNumber m_allMany g_nodeL g_nodeR m_nodes g_part m_partMany g_wasMany g_wasLoss g_wasValue g_wasNumber g_path m_pathMany g_heavyValue g_heavyTimes m_heavyMany g_fewest g_which g_met m_mostMet, kx_a g_met cyI 160 gq] → va_S A s.heap H locs → ∀ (ls : Array Slot), lv_has ls 2 [(1, .int i), (0, .ref h0)] → W p l e (headSpec wsX5_begins ({ frames := 0, cells := 0, slots := 0, locals := 0 })).room s m ([.ref h0] : List Value).toArray below meth c H locs 0 0 (MQ below (va_Qv (fun u : (Nat → Int32) => ∀ k : Nat, k < m_n.toNatClampNeg → u k = 0) (fun (u : (Nat → Int32)) (t : State) => va_P (dC, dI) vwCl [kx_5 h0 g_row m_n m_slots m_thrown g_many g_loss g_less g_voteValue g_voteNumber g_allValue g_allNumber m_allMany g_nodeL g_nodeR m_nodes g_part m_partMany g_wasMany g_wasLoss g_wasValue g_wasNumber g_path m_pathMany g_heavyValue g_heavyTimes m_heavyMany g_fewest g_which g_met 0, kx_a g_met cyI 160 u] t.heap ∧ va_K (dC, dI) vwCl [(cyI, .int)] t ∧ va_D A [kx_5 h0 g_row m_n m_slots m_thrown g_many g_loss g_less g_voteValue g_voteNumber g_allValue g_allNumber m_allMany g_nodeL g_nodeR m_nodes g_part m_partMany g_wasMany g_wasLoss g_wasValue g_wasNumber g_path m_pathMany g_heavyValue g_heavyTimes m_heavyMany g_fewest g_which g_met 0, kx_a g_met cyI 160 u]) A) ([.ref h0] : List Value).toArray s 0 0 A) (F0 m 2 ls []) := by
    intro n
    induction n with
    | zero => intro i gq LP1_h0 LP1_h1 LP1_h2 hn; exact absurd hn (Nat.not_lt_zero _)
    | succ n ih1 =>
      intro i gq LP1_h0 LP1_h1 LP1_h2 hn1 H locs hP hD hS ls hl
      have n_i := ki_nat i rfl (by omega)
      refine lv_iload_n hx hb dX5_begins_2 rfl (lv_at hl 0 rfl) ?_
      refine lv_aload_n hx hb dX5_begins_3 rfl (lv_at hl 1 rfl) ?_
      refine va_get (D := (dC, dI)) (ci := 5) (v := .int m_n) (C := RX5) (T := TX5) (N := 30) hx hb hts hi_5 hown hK hP 0 rfl rfl 1 (by decide) hf_84 (fun _ h9 => h9) rfl dX5_begins_4 ?_
      refine lv_icmp_ge (tgt := 23) hx hb dX5_begins_7 (by decide) (fun c_1 => ?_) (fun c_1 => ?_)
      · have i_1 : m_n.toInt ≤ i.toInt := kc_le c_1
        refine lv_aload_n hx hb dX5_begins_23 rfl (lv_at hl 1 rfl) ?_
        refine lv_iconst (v := 0) hx hb dX5_begins_24 (by decide) ?_
        refine va_put (D := (dC, dI)) (ci := 5) (v := .int 0) (ty := .int) (C := RX5) (T := TX5) (N := 30) hx hb hts hi_5 tyX5 tyX5_ok nmX5 hown hK hP hD hS 0 rfl rfl 29 (by decide) hf_210 (fun _ h9 => h9) rfl (by decide +kernel) rfl rfl (Nat.le_of_ble_eq_true rfl) dX5_begins_25 (fun H locs hP hD hS => ?_)
        have hP : va_P (dC, dI) vwCl [kx_5 h0 g_row m_n m_slots m_thrown g_many g_loss g_less g_voteValue g_voteNumber g_allValue g_allNumber m_allMany g_nodeL g_nodeR m_nodes g_part m_partMany g_wasMany g_wasLoss g_wasValue g_wasNumber g_path m_pathMany g_heavyValue g_heavyTimes m_heavyMany g_fewest g_which g_met 0, kx_a g_met cyI 160 gq] H := hP
        have hD : va_D A [kx_5 h0 g_row m_n m_slots m_thrown g_many g_loss g_less g_voteValue g_voteNumber g_allValue g_allNumber m_allMany g_nodeL g_nodeR m_nodes g_part m_partMany g_wasMany g_wasLoss g_wasValue g_wasNumber g_path m_pathMany g_heavyValue g_heavyTimes m_heavyMany g_fewest g_which g_met 0, kx_a g_met cyI 160 gq] := hD
        have hP9 := hP
        have hD9 := hD
        have hK9 := hK
        exact W.vret hx hb hr (fun t ht hW => ⟨⟨(gq), rfl, (fun k hk => LP1_h1 k (by (try dsimp only); omega)), by rw [ht]; exact hP9, va_K.moved hW.alike hK9, hD9⟩, hS.F ht⟩) hS.2.2 dX5_begins_28
      · have i_1 : i.toInt < m_n.toInt := kc_nle c_1
        refine lv_aload_n hx hb dX5_begins_10 rfl (lv_at hl 1 rfl) ?_
        refine va_get (D := (dC, dI)) (ci := 5) (v := .ref g_met) (C := RX5) (T := TX5) (N := 30) hx hb hts hi_5 hown hK hP 0 rfl rfl 28 (by decide) hf_74 (fun _ h9 => h9) rfl dX5_begins_11 ?_
        refine lv_iload_n hx hb dX5_begins_14 rfl (lv_at hl 0 rfl) ?_
        refine lv_iconst (v := 0) hx hb dX5_begins_15 (by decide) ?_
        refine va_iast hx hb hK hP hD hS 1 0 rfl rfl (ki_in (by omega) (by omega)) dX5_begins_16 (fun H locs hP hD hS => ?_)
        have hP : va_P (dC, dI) vwCl [kx_5 h0 g_row m_n m_slots m_thrown g_many g_loss g_less g_voteValue g_voteNumber g_allValue g_allNumber m_allMany g_nodeL g_nodeR m_nodes g_part m_partMany g_wasMany g_wasLoss g_wasValue g_wasNumber g_path m_pathMany g_heavyValue g_heavyTimes m_heavyMany g_fewest g_which g_met m_mostMet, kx_a g_met cyI 160 (upd gq i.toNatClampNeg 0)] H := hP
        have hD : va_D A [kx_5 h0 g_row m_n m_slots m_thrown g_many g_loss g_less g_voteValue g_voteNumber g_allValue g_allNumber m_allMany g_nodeL g_nodeR m_nodes g_part m_partMany g_wasMany g_wasLoss g_wasValue g_wasNumber g_path m_pathMany g_heavyValue g_heavyTimes m_heavyMany g_fewest g_which g_met m_mostMet, kx_a g_met cyI 160 (upd gq i.toNatClampNeg 0)] := hD
        obtain ⟨x_2, ex_2⟩ : ∃ y : Int32, y = i + 1 := ⟨_, rfl⟩
        have i_2 : x_2.toInt = i.toInt + 1 := ki_add ex_2 rfl rfl (by omega) (by omega)
        refine lv_iinc (v := x_2) (lv' := [(1, .int x_2), (0, .ref h0)]) hx hb dX5_begins_17 hl (k := 0) rfl (by rw [ex_2]; rfl) (by decide) rfl (fun ls hl => ?_)
        refine lv_goto (tgt := 2) hx hb dX5_begins_20 (by decide) ?_
        have n_3 := ki_nat x_2 rfl (by omega)
        exact ih1 x_2 (upd gq i.toNatClampNeg 0) (by omega) (fun k hk => by unfold upd; split <;> first | rfl | exact LP1_h1 k (by omega)) (by omega) (by omega) _ _ hP hD hS ls (lv_sub hl [0, 1] rfl)
  have k_4 : (0 : Int32).toInt = 0 := rfl
  exact LP1 ((m_n.toInt - 0 : Int).toNat + 1) 0 fq (by omega) (fun k hk => absurd hk (Nat.not_lt_zero k)) (by omega) (Nat.lt_succ_self _) _ _ hP hD hS ls (lv_sub hl [0, 1] rfl)

set_option maxHeartbeats 4000000 in
set_option maxRecDepth 100000 in
theorem c_X5_goesOn_x (l : Launch) (dC : Nat → ClassId) (dI : Nat → Nat → Nat) (h0 : Nat) (g_row : Nat) (g_many : Nat) (g_loss : Nat) (g_less : Nat) (g_voteValue : Nat) (g_voteNumber : Nat) (g_allValue : Nat) (g_allNumber : Nat) (g_nodeL : Nat) (g_nodeR : Nat) (g_part : Nat) (g_wasMany : Nat) (g_wasLoss : Nat) (g_wasValue : Nat) (g_wasNumber : Nat) (g_path : Nat) (g_heavyValue : Nat) (g_heavyTimes : Nat) (g_fewest : Nat) (g_which : Nat) (g_met : Nat) (m_n : Int32) (m_slots : Int32) (m_thrown : Int32) (m_allMany : Int32) (m_nodes : Int32) (m_partMany : Int32) (m_pathMany : Int32) (m_heavyMany : Int32) (m_mostMet : Int32) (cyI : ClassId) (fw : Nat → Int32) (fq : Nat → Int32) (f : Nat → Int32) (n9 : Nat) (x9 : Int) (m9 : Nat) (p0 : Int32) (p1 : Int32) (sz : Nat) (wh : mj_wh f fw n9 x9) (tl : mj_tl f (fun k => (fw k).toNatClampNeg) fq n9 p1.toNatClampNeg m9 m_mostMet.toInt) (b0 : 0 ≤ p1.toInt) (b1 : p0.toInt = p1.toInt + ((m9 : Nat) : Int) + 1) (b2 : p0.toInt ≤ (n9 : Int)) (b3 : n9 ≤ 160) (b4 : x9 ≤ (n9 : Int)) (o0 : 0 ≤ m_mostMet.toInt) (o1 : m_mostMet.toInt ≤ ((m9 : Nat) : Int)) : Met l yX5_goesOn wsX5_goesOn ({ frames := 0, cells := 0, slots := 0, locals := 0 }) (va_Pc [.ref h0, .int p0, .int p1] (fun U => U.heap.size = sz ∧ va_P (dC, dI) vwCl [kx_5 h0 g_row m_n m_slots m_thrown g_many g_loss g_less g_voteValue g_voteNumber g_allValue g_allNumber m_allMany g_nodeL g_nodeR m_nodes g_part m_partMany g_wasMany g_wasLoss g_wasValue g_wasNumber g_path m_pathMany g_heavyValue g_heavyTimes m_heavyMany g_fewest g_which g_met m_mostMet, kx_a g_which cyI 160 fw, kx_a g_met cyI 160 fq] U.heap ∧ va_K (dC, dI) vwCl [(cyI, .int)] U ∧ va_D (fun _ => True) [kx_5 h0 g_row m_n m_slots m_thrown g_many g_loss g_less g_voteValue g_voteNumber g_allValue g_allNumber m_allMany g_nodeL g_nodeR m_nodes g_part m_partMany g_wasMany g_wasLoss g_wasValue g_wasNumber g_path m_pathMany g_heavyValue g_heavyTimes m_heavyMany g_fewest g_which g_met m_mostMet, kx_a g_which cyI 160 fw, kx_a g_met cyI 160 fq])) (va_Qi (fun (r : Int32) (u : Int32 × (Nat → Int32)) => ((r = 1 ∧ mj_hm f p1.toNatClampNeg (m9 + 1)) ∨ (r = 0 ∧ ¬ mj_hm f p1.toNatClampNeg (m9 + 1))) ∧ mj_tl f (fun k => (fw k).toNatClampNeg) u.2 n9 p1.toNatClampNeg (m9 + 1) u.1.toInt ∧ 0 ≤ u.1.toInt ∧ u.1.toInt ≤ ((m9 : Nat) : Int) + 1) (fun (u : Int32 × (Nat → Int32)) (t : State) => va_P (dC, dI) vwCl [kx_5 h0 g_row m_n m_slots m_thrown g_many g_loss g_less g_voteValue g_voteNumber g_allValue g_allNumber m_allMany g_nodeL g_nodeR m_nodes g_part m_partMany g_wasMany g_wasLoss g_wasValue g_wasNumber g_path m_pathMany g_heavyValue g_heavyTimes m_heavyMany g_fewest g_which g_met u.1, kx_a g_which cyI 160 fw, kx_a g_met cyI 160 u.2] t.heap ∧ va_K (dC, dI) vwCl [(cyI, .int)] t ∧ va_D (va_A [kx_5 h0 g_row m_n m_slots m_thrown g_many g_loss g_less g_voteValue g_voteNumber g_allValue g_allNumber m_allMany g_nodeL g_nodeR m_nodes g_part m_partMany g_wasMany g_wasLoss g_wasValue g_wasNumber g_path m_pathMany g_heavyValue g_heavyTimes m_heavyMany g_fewest g_which g_met m_mostMet, kx_a g_which cyI 160 fw, kx_a g_met cyI 160 fq] sz) [kx_5 h0 g_row m_n m_slots m_thrown g_many g_loss g_less g_voteValue g_voteNumber g_allValue g_allNumber m_allMany g_nodeL g_nodeR m_nodes g_part m_partMany g_wasMany g_wasLoss g_wasValue g_wasNumber g_path m_pathMany g_heavyValue g_heavyTimes m_heavyMany g_fewest g_which g_met u.1, kx_a g_which cyI 160 fw, kx_a g_met cyI 160 u.2]) (va_A [kx_5 h0 g_row m_n m_slots m_thrown g_many g_loss g_less g_voteValue g_voteNumber g_allValue g_allNumber m_allMany g_nodeL g_nodeR m_nodes g_part m_partMany g_wasMany g_wasLoss g_wasValue g_wasNumber g_path m_pathMany g_heavyValue g_heavyTimes m_heavyMany g_fewest g_which g_met m_mostMet, kx_a g_which cyI 160 fw, kx_a g_met cyI 160 fq] sz)) 0 0 (va_A [kx_5 h0 g_row m_n m_slots m_thrown g_many g_loss g_less g_voteValue g_voteNumber g_allValue g_allNumber m_allMany g_nodeL g_nodeR m_nodes g_part m_partMany g_wasMany g_wasLoss g_wasValue g_wasNumber g_path m_pathMany g_heavyValue g_heavyTimes m_heavyMany g_fewest g_which g_met m_mostMet, kx_a g_which cyI 160 fw, kx_a g_met cyI 160 fq] sz) := by
  refine Met.ofW (cc := cX5_goesOn) (maxL := 4) (ret := (some .boolean)) (by decide) rfl ?_
  intro p e s m args below meth c s₁ B hml hv
  obtain ⟨rfl, hsz, hP, hK, hD0⟩ := hv
  have hx := B.exec
  have hb := B.bytes
  have hr := B.returns
  have hts := atoms_spec (ws := wsX5_goesOn) B.pre
  have hown : s.vm.findClass RX5 = some m.cls := findClass_of_methodNamed B.named
  have hlocks := B.notSynchronized
  subst hsz
  have hD := hD0.self (sz := s.heap.size)
  generalize hAe : va_A [kx_5 h0 g_row m_n m_slots m_thrown g_many g_loss g_less g_voteValue g_voteNumber g_allValue g_allNumber m_allMany g_nodeL g_nodeR m_nodes g_part m_partMany g_wasMany g_wasLoss g_wasValue g_wasNumber g_path m_pathMany g_heavyValue g_heavyTimes m_heavyMany g_fewest g_which g_met m_mostMet, kx_a g_which cyI 160 fw, kx_a g_met cyI 160 fq] s.heap.size = A at hD ⊢
  have hA : ∀ q : Nat, s.heap.size ≤ q → A q := fun q h => by rw [← hAe]; exact Or.inr h
  have hS : va_S A s.heap s.heap [] := va_S.rf
  have hP : va_P (dC, dI) vwCl [kx_5 h0 g_row m_n m_slots m_thrown g_many g_loss g_less g_voteValue g_voteNumber g_allValue g_allNumber m_allMany g_nodeL g_nodeR m_nodes g_part m_partMany g_wasMany g_wasLoss g_wasValue g_wasNumber g_path m_pathMany g_heavyValue g_heavyTimes m_heavyMany g_fewest g_which g_met m_mostMet, kx_a g_which cyI 160 fw, kx_a g_met cyI 160 fq] s.heap := hP
  have hl := lv_entry ([.ref h0, .int p0, .int p1]) (n := 4) (Nat.le_of_ble_eq_true rfl)
  rw [lg_entry_eq]
  generalize (lg_sl ([.ref h0, .int p0, .int p1]) ++ List.replicate (4 - (lg_sl ([.ref h0, .int p0, .int p1])).length) Slot.unset).toArray = ls at hl ⊢
  have hl : lv_has ls 4 [(0, .ref h0), (1, .int p0), (2, .int p1)] := hl
  have hf_71 := hts (.fieldLink RX5 71 "MajorityIndexModel" "which" "[I") (List.mem_of_getElem? (i := 1) rfl)
  have hi_5 : ∀ w ∈ u_ws RX5 TX5 30, w ∈ wsX5_goesOn := fun w h => List.mem_cons_of_mem _ (List.mem_append_right _ h)
  have hf_74 := hts (.fieldLink RX5 74 "MajorityIndexModel" "met" "[I") (List.mem_of_getElem? (i := 2) rfl)
  have hf_210 := hts (.fieldLink RX5 210 "MajorityIndexModel" "mostMet" "I") (List.mem_of_getElem? (i := 3) rfl)
  have n_p1 := ki_nat p1 rfl (by omega)
  refine lv_aload_n hx hb dX5_goesOn_0 rfl (lv_at hl 0 rfl) ?_
  refine va_get (D := (dC, dI)) (ci := 5) (v := .ref g_which) (C := RX5) (T := TX5) (N := 30) hx hb hts hi_5 hown hK hP 0 rfl rfl 27 (by decide) hf_71 (fun _ h9 => h9) rfl dX5_goesOn_1 ?_
  refine lv_iload_n hx hb dX5_goesOn_4 rfl (lv_at hl 1 rfl) ?_
  refine lv_iconst (v := 1) hx hb dX5_goesOn_5 (by decide) ?_
  refine lv_isub hx hb dX5_goesOn_6 ?_
  refine lv_topi (fun y_1 ey_1 => ?_)
  have i_1 : y_1.toInt = p0.toInt - 1 := ki_sub ey_1 rfl rfl (by omega) (by omega)
  refine va_iald hx hb hK hP 1 0 rfl rfl (ki_in (by omega) (by omega)) dX5_goesOn_7 ?_
  refine lv_topi (fun y_2 ey_2 => ?_)
  have j_2 : y_2.toInt = (fw y_1.toNatClampNeg).toInt := congrArg Int32.toInt ey_2
  have n_6 := ki_nat y_1 rfl (by omega)
  have q_6 : y_1.toNatClampNeg = p1.toNatClampNeg + m9 := by omega
  have q_w := wh.1 (p1.toNatClampNeg + m9) (by omega)
  have q_7 : y_2 = fw (p1.toNatClampNeg + m9) := by rw [ey_2, q_6]
  have i_7 : 0 ≤ y_2.toInt ∧ y_2.toInt < x9 := by rw [q_7]; exact q_w
  refine lv_istore_n (lv' := [(3, .int y_2), (0, .ref h0), (1, .int p0), (2, .int p1)]) hx hb dX5_goesOn_8 rfl hl (by decide) rfl (fun ls hl => ?_)
  refine lv_aload_n hx hb dX5_goesOn_9 rfl (lv_at hl 1 rfl) ?_
  refine va_get (D := (dC, dI)) (ci := 5) (v := .ref g_met) (C := RX5) (T := TX5) (N := 30) hx hb hts hi_5 hown hK hP 0 rfl rfl 28 (by decide) hf_74 (fun _ h9 => h9) rfl dX5_goesOn_10 ?_
  refine lv_iload_n hx hb dX5_goesOn_13 rfl (lv_at hl 0 rfl) ?_
  refine lv_dup2_11 hx hb dX5_goesOn_14 rfl rfl ?_
  refine va_iald hx hb hK hP 2 0 rfl rfl (ki_in (by omega) (by omega)) dX5_goesOn_15 ?_
  refine lv_topi (fun y_3 ey_3 => ?_)
  have j_3 : y_3.toInt = (fq y_2.toNatClampNeg).toInt := congrArg Int32.toInt ey_3
  have q_15 : y_3.toInt = (cnt f (f (p1.toNatClampNeg + m9)) p1.toNatClampNeg m9 : Int) := by rw [ey_3, q_7]; exact tl.1 _ (by omega)
  have q_le := cnt_le f (f (p1.toNatClampNeg + m9)) p1.toNatClampNeg m9
  refine lv_iconst (v := 1) hx hb dX5_goesOn_16 (by decide) ?_
  refine lv_iadd hx hb dX5_goesOn_17 ?_
  refine lv_topi (fun y_4 ey_4 => ?_)
  have i_4 : y_4.toInt = y_3.toInt + 1 := ki_add ey_4 rfl rfl (by omega) (by omega)
  refine va_iast hx hb hK hP hD hS 2 0 rfl rfl (ki_in (by omega) (by omega)) dX5_goesOn_18 (fun H locs hP hD hS => ?_)
  have hP : va_P (dC, dI) vwCl [kx_5 h0 g_row m_n m_slots m_thrown g_many g_loss g_less g_voteValue g_voteNumber g_allValue g_allNumber m_allMany g_nodeL g_nodeR m_nodes g_part m_partMany g_wasMany g_wasLoss g_wasValue g_wasNumber g_path m_pathMany g_heavyValue g_heavyTimes m_heavyMany g_fewest g_which g_met m_mostMet, kx_a g_which cyI 160 fw, kx_a g_met cyI 160 (upd fq y_2.toNatClampNeg y_4)] H := hP
  have hD : va_D A [kx_5 h0 g_row m_n m_slots m_thrown g_many g_loss g_less g_voteValue g_voteNumber g_allValue g_allNumber m_allMany g_nodeL g_nodeR m_nodes g_part m_partMany g_wasMany g_wasLoss g_wasValue g_wasNumber g_path m_pathMany g_heavyValue g_heavyTimes m_heavyMany g_fewest g_which g_met m_mostMet, kx_a g_which cyI 160 fw, kx_a g_met cyI 160 (upd fq y_2.toNatClampNeg y_4)] := hD
  refine lv_aload_n hx hb dX5_goesOn_19 rfl (lv_at hl 1 rfl) ?_
  refine va_get (D := (dC, dI)) (ci := 5) (v := .ref g_met) (C := RX5) (T := TX5) (N := 30) hx hb hts hi_5 hown hK hP 0 rfl rfl 28 (by decide) hf_74 (fun _ h9 => h9) rfl dX5_goesOn_20 ?_
  refine lv_iload_n hx hb dX5_goesOn_23 rfl (lv_at hl 0 rfl) ?_
  refine va_iald hx hb hK hP 2 0 rfl rfl (ki_in (by omega) (by omega)) dX5_goesOn_24 ?_
  refine lv_topi (fun y_5 ey_5 => ?_)
  have j_5 : y_5.toInt = ((upd fq y_2.toNatClampNeg y_4) y_2.toNatClampNeg).toInt := congrArg Int32.toInt ey_5
  have qy_5 : y_5.toInt = y_4.toInt := by rw [ey_5, upd_at]
  refine lv_aload_n hx hb dX5_goesOn_25 rfl (lv_at hl 1 rfl) ?_
  refine va_get (D := (dC, dI)) (ci := 5) (v := .int m_mostMet) (C := RX5) (T := TX5) (N := 30) hx hb hts hi_5 hown hK hP 0 rfl rfl 29 (by decide) hf_210 (fun _ h9 => h9) rfl dX5_goesOn_26 ?_
  refine lv_icmp_le (tgt := 42) hx hb dX5_goesOn_29 (by decide) (fun c_6 => ?_) (fun c_6 => ?_)
  · have i_6 : y_5.toInt ≤ m_mostMet.toInt := kc_le c_6
    refine lv_iconst (v := 2) hx hb dX5_goesOn_42 (by decide) ?_
    refine lv_aload_n hx hb dX5_goesOn_43 rfl (lv_at hl 1 rfl) ?_
    refine va_get (D := (dC, dI)) (ci := 5) (v := .int m_mostMet) (C := RX5) (T := TX5) (N := 30) hx hb hts hi_5 hown hK hP 0 rfl rfl 29 (by decide) hf_210 (fun _ h9 => h9) rfl dX5_goesOn_44 ?_
    refine lv_imul hx hb dX5_goesOn_47 ?_
    refine lv_topi (fun y_7 ey_7 => ?_)
    have i_7 : y_7.toInt = 2 * m_mostMet.toInt := ki_mul ey_7 rfl rfl (by omega) (by omega)
    refine lv_iload_n hx hb dX5_goesOn_48 rfl (lv_at hl 2 rfl) ?_
    refine lv_iload_n hx hb dX5_goesOn_49 rfl (lv_at hl 3 rfl) ?_
    refine lv_isub hx hb dX5_goesOn_50 ?_
    refine lv_topi (fun y_8 ey_8 => ?_)
    have i_8 : y_8.toInt = p0.toInt - p1.toInt := ki_sub ey_8 rfl rfl (by omega) (by omega)
    refine lv_icmp_le (tgt := 58) hx hb dX5_goesOn_51 (by decide) (fun c_9 => ?_) (fun c_9 => ?_)
    · have i_9 : y_7.toInt ≤ y_8.toInt := kc_le c_9
      refine lv_iconst (v := 0) hx hb dX5_goesOn_58 (by decide) ?_
      have hP9 := hP
      have hD9 := hD
      have hK9 := hK
      have t_e : (fq ((fun k => (fw k).toNatClampNeg) (p1.toNatClampNeg + m9))).toInt = (cnt f (f (p1.toNatClampNeg + m9)) p1.toNatClampNeg m9 : Int) := tl.1 _ (by omega)
      have t_b : (fq ((fun k => (fw k).toNatClampNeg) (p1.toNatClampNeg + m9))).toInt = (fq (fw (p1.toNatClampNeg + m9)).toNatClampNeg).toInt := rfl
      have t_n : mj_tl f (fun k => (fw k).toNatClampNeg) (upd fq ((fun k => (fw k).toNatClampNeg) (p1.toNatClampNeg + m9)) y_4) n9 p1.toNatClampNeg (m9 + 1) m_mostMet.toInt := mj_tl_take (mj_ka_wh wh) tl rfl (by omega) rfl (by omega) (Or.inr ⟨(by omega), rfl⟩)
      have hmi := mj_tl_hm t_n (by omega)
      exact W.zret (v := 0) hx hb hr (by decide) (fun t ht hW => ⟨⟨0, (m_mostMet, (upd fq y_2.toNatClampNeg y_4)), rfl, ⟨Or.inr ⟨rfl, fun h => by have := hmi.mpr h; omega⟩, (by (try dsimp only); rw [q_7]; exact t_n), (by (try dsimp only); omega), (by (try dsimp only); omega)⟩, by rw [ht]; exact hP9, va_K.moved hW.alike hK9, hD9⟩, hS.F ht⟩) hS.2.2 dX5_goesOn_59
    · have i_9 : y_8.toInt < y_7.toInt := kc_nle c_9
      refine lv_iconst (v := 1) hx hb dX5_goesOn_54 (by decide) ?_
      refine lv_goto (tgt := 59) hx hb dX5_goesOn_55 (by decide) ?_
      have hP9 := hP
      have hD9 := hD
      have hK9 := hK
      have t_e : (fq ((fun k => (fw k).toNatClampNeg) (p1.toNatClampNeg + m9))).toInt = (cnt f (f (p1.toNatClampNeg + m9)) p1.toNatClampNeg m9 : Int) := tl.1 _ (by omega)
      have t_b : (fq ((fun k => (fw k).toNatClampNeg) (p1.toNatClampNeg + m9))).toInt = (fq (fw (p1.toNatClampNeg + m9)).toNatClampNeg).toInt := rfl
      have t_n : mj_tl f (fun k => (fw k).toNatClampNeg) (upd fq ((fun k => (fw k).toNatClampNeg) (p1.toNatClampNeg + m9)) y_4) n9 p1.toNatClampNeg (m9 + 1) m_mostMet.toInt := mj_tl_take (mj_ka_wh wh) tl rfl (by omega) rfl (by omega) (Or.inr ⟨(by omega), rfl⟩)
      have hmi := mj_tl_hm t_n (by omega)
      exact W.zret (v := 1) hx hb hr (by decide) (fun t ht hW => ⟨⟨1, (m_mostMet, (upd fq y_2.toNatClampNeg y_4)), rfl, ⟨Or.inl ⟨rfl, hmi.mp (by omega)⟩, (by (try dsimp only); rw [q_7]; exact t_n), (by (try dsimp only); omega), (by (try dsimp only); omega)⟩, by rw [ht]; exact hP9, va_K.moved hW.alike hK9, hD9⟩, hS.F ht⟩) hS.2.2 dX5_goesOn_59
  · have i_6 : m_mostMet.toInt < y_5.toInt := kc_nle c_6
    refine lv_aload_n hx hb dX5_goesOn_32 rfl (lv_at hl 1 rfl) ?_
    refine lv_aload_n hx hb dX5_goesOn_33 rfl (lv_at hl 1 rfl) ?_
    refine va_get (D := (dC, dI)) (ci := 5) (v := .ref g_met) (C := RX5) (T := TX5) (N := 30) hx hb hts hi_5 hown hK hP 0 rfl rfl 28 (by decide) hf_74 (fun _ h9 => h9) rfl dX5_goesOn_34 ?_
    refine lv_iload_n hx hb dX5_goesOn_37 rfl (lv_at hl 0 rfl) ?_
    refine va_iald hx hb hK hP 2 0 rfl rfl (ki_in (by omega) (by omega)) dX5_goesOn_38 ?_
    refine lv_topi (fun y_10 ey_10 => ?_)
    have j_10 : y_10.toInt = ((upd fq y_2.toNatClampNeg y_4) y_2.toNatClampNeg).toInt := congrArg Int32.toInt ey_10
    have qy_10 : y_10.toInt = y_4.toInt := by rw [ey_10, upd_at]
    refine va_put (D := (dC, dI)) (ci := 5) (v := .int y_10) (ty := .int) (C := RX5) (T := TX5) (N := 30) hx hb hts hi_5 tyX5 tyX5_ok nmX5 hown hK hP hD hS 0 rfl rfl 29 (by decide) hf_210 (fun _ h9 => h9) rfl (by decide +kernel) rfl rfl (Nat.le_of_ble_eq_true rfl) dX5_goesOn_39 (fun H locs hP hD hS => ?_)
    have hP : va_P (dC, dI) vwCl [kx_5 h0 g_row m_n m_slots m_thrown g_many g_loss g_less g_voteValue g_voteNumber g_allValue g_allNumber m_allMany g_nodeL g_nodeR m_nodes g_part m_partMany g_wasMany g_wasLoss g_wasValue g_wasNumber g_path m_pathMany g_heavyValue g_heavyTimes m_heavyMany g_fewest g_which g_met y_10, kx_a g_which cyI 160 fw, kx_a g_met cyI 160 (upd fq y_2.toNatClampNeg y_4)] H := hP
    have hD : va_D A [kx_5 h0 g_row m_n m_slots m_thrown g_many g_loss g_less g_voteValue g_voteNumber g_allValue g_allNumber m_allMany g_nodeL g_nodeR m_nodes g_part m_partMany g_wasMany g_wasLoss g_wasValue g_wasNumber g_path m_pathMany g_heavyValue g_heavyTimes m_heavyMany g_fewest g_which g_met y_10, kx_a g_which cyI 160 fw, kx_a g_met cyI 160 (upd fq y_2.toNatClampNeg y_4)] := hD
    refine lv_iconst (v := 2) hx hb dX5_goesOn_42 (by decide) ?_
    refine lv_aload_n hx hb dX5_goesOn_43 rfl (lv_at hl 1 rfl) ?_
    refine va_get (D := (dC, dI)) (ci := 5) (v := .int y_10) (C := RX5) (T := TX5) (N := 30) hx hb hts hi_5 hown hK hP 0 rfl rfl 29 (by decide) hf_210 (fun _ h9 => h9) rfl dX5_goesOn_44 ?_
    refine lv_imul hx hb dX5_goesOn_47 ?_
    refine lv_topi (fun y_11 ey_11 => ?_)
    have i_11 : y_11.toInt = 2 * y_10.toInt := ki_mul ey_11 rfl rfl (by omega) (by omega)
    refine lv_iload_n hx hb dX5_goesOn_48 rfl (lv_at hl 2 rfl) ?_
    refine lv_iload_n hx hb dX5_goesOn_49 rfl (lv_at hl 3 rfl) ?_
    refine lv_isub hx hb dX5_goesOn_50 ?_
    refine lv_topi (fun y_12 ey_12 => ?_)
    have i_12 : y_12.toInt = p0.toInt - p1.toInt := ki_sub ey_12 rfl rfl (by omega) (by omega)
    refine lv_icmp_le (tgt := 58) hx hb dX5_goesOn_51 (by decide) (fun c_13 => ?_) (fun c_13 => ?_)
    · have i_13 : y_11.toInt ≤ y_12.toInt := kc_le c_13
      refine lv_iconst (v := 0) hx hb dX5_goesOn_58 (by decide) ?_
      have hP9 := hP
      have hD9 := hD
      have hK9 := hK
      have t_e : (fq ((fun k => (fw k).toNatClampNeg) (p1.toNatClampNeg + m9))).toInt = (cnt f (f (p1.toNatClampNeg + m9)) p1.toNatClampNeg m9 : Int) := tl.1 _ (by omega)
      have t_b : (fq ((fun k => (fw k).toNatClampNeg) (p1.toNatClampNeg + m9))).toInt = (fq (fw (p1.toNatClampNeg + m9)).toNatClampNeg).toInt := rfl
      have t_n : mj_tl f (fun k => (fw k).toNatClampNeg) (upd fq ((fun k => (fw k).toNatClampNeg) (p1.toNatClampNeg + m9)) y_4) n9 p1.toNatClampNeg (m9 + 1) y_10.toInt := mj_tl_take (mj_ka_wh wh) tl rfl (by omega) rfl (by omega) (Or.inl ⟨(by omega), (by omega)⟩)
      have hmi := mj_tl_hm t_n (by omega)
      exact W.zret (v := 0) hx hb hr (by decide) (fun t ht hW => ⟨⟨0, (y_10, (upd fq y_2.toNatClampNeg y_4)), rfl, ⟨Or.inr ⟨rfl, fun h => by have := hmi.mpr h; omega⟩, (by (try dsimp only); rw [q_7]; exact t_n), (by (try dsimp only); omega), (by (try dsimp only); omega)⟩, by rw [ht]; exact hP9, va_K.moved hW.alike hK9, hD9⟩, hS.F ht⟩) hS.2.2 dX5_goesOn_59
    · have i_13 : y_12.toInt < y_11.toInt := kc_nle c_13
      refine lv_iconst (v := 1) hx hb dX5_goesOn_54 (by decide) ?_
      refine lv_goto (tgt := 59) hx hb dX5_goesOn_55 (by decide) ?_
      have hP9 := hP
      have hD9 := hD
      have hK9 := hK
      have t_e : (fq ((fun k => (fw k).toNatClampNeg) (p1.toNatClampNeg + m9))).toInt = (cnt f (f (p1.toNatClampNeg + m9)) p1.toNatClampNeg m9 : Int) := tl.1 _ (by omega)
      have t_b : (fq ((fun k => (fw k).toNatClampNeg) (p1.toNatClampNeg + m9))).toInt = (fq (fw (p1.toNatClampNeg + m9)).toNatClampNeg).toInt := rfl
      have t_n : mj_tl f (fun k => (fw k).toNatClampNeg) (upd fq ((fun k => (fw k).toNatClampNeg) (p1.toNatClampNeg + m9)) y_4) n9 p1.toNatClampNeg (m9 + 1) y_10.toInt := mj_tl_take (mj_ka_wh wh) tl rfl (by omega) rfl (by omega) (Or.inl ⟨(by omega), (by omega)⟩)
      have hmi := mj_tl_hm t_n (by omega)
      exact W.zret (v := 1) hx hb hr (by decide) (fun t ht hW => ⟨⟨1, (y_10, (upd fq y_2.toNatClampNeg y_4)), rfl, ⟨Or.inl ⟨rfl, hmi.mp (by omega)⟩, (by (try dsimp only); rw [q_7]; exact t_n), (by (try dsimp only); omega), (by (try dsimp only); omega)⟩, by rw [ht]; exact hP9, va_K.moved hW.alike hK9, hD9⟩, hS.F ht⟩) hS.2.2 dX5_goesOn_59

set_option maxHeartbeats 4000000 in
set_option maxRecDepth 100000 in
theorem c_X5_majorities_x (l : Launch) (dC : Nat → ClassId) (dI : Nat → Nat → Nat) (h0 : Nat) (g_row : Nat) (g_many : Nat) (g_loss : Nat) (g_less : Nat) (g_voteValue : Nat) (g_voteNumber : Nat) (g_allValue : Nat) (g_allNumber : Nat) (g_nodeL : Nat) (g_nodeR : Nat) (g_part : Nat) (g_wasMany : Nat) (g_wasLoss : Nat) (g_wasValue : Nat) (g_wasNumber : Nat) (g_path : Nat) (g_heavyValue : Nat) (g_heavyTimes : Nat) (g_fewest : Nat) (g_which : Nat) (g_met : Nat) (m_n : Int32) (m_slots : Int32) (m_thrown : Int32) (m_allMany : Int32) (m_nodes : Int32) (m_partMany : Int32) (m_pathMany : Int32) (m_heavyMany : Int32) (m_mostMet : Int32) (cyI : ClassId) (f : Nat → Int32) (fw : Nat → Int32) (fq : Nat → Int32) (sz : Nat) (a0 : 0 ≤ m_n.toInt) (a1 : m_n.toInt ≤ 160) : Met l yX5_majorities wsX5_majorities ({ frames := 1, cells := 0, slots := 0, locals := 45 }) (va_Pc [.ref h0] (fun U => U.heap.size = sz ∧ va_P (dC, dI) vwCl [kx_5 h0 g_row m_n m_slots m_thrown g_many g_loss g_less g_voteValue g_voteNumber g_allValue g_allNumber m_allMany g_nodeL g_nodeR m_nodes g_part m_partMany g_wasMany g_wasLoss g_wasValue g_wasNumber g_path m_pathMany g_heavyValue g_heavyTimes m_heavyMany g_fewest g_which g_met m_mostMet, kx_a g_row cyI 160 f, kx_a g_which cyI 160 fw, kx_a g_met cyI 160 fq] U.heap ∧ va_K (dC, dI) vwCl [(cyI, .int)] U ∧ va_D (fun _ => True) [kx_5 h0 g_row m_n m_slots m_thrown g_many g_loss g_less g_voteValue g_voteNumber g_allValue g_allNumber m_allMany g_nodeL g_nodeR m_nodes g_part m_partMany g_wasMany g_wasLoss g_wasValue g_wasNumber g_path m_pathMany g_heavyValue g_heavyTimes m_heavyMany g_fewest g_which g_met m_mostMet, kx_a g_row cyI 160 f, kx_a g_which cyI 160 fw, kx_a g_met cyI 160 fq])) (va_Qi (fun (r : Int32) (u : Int32 × (Nat → Int32) × (Nat → Int32)) => r.toInt = (mj_ms f m_n.toNatClampNeg m_n.toNatClampNeg : Int)) (fun (u : Int32 × (Nat → Int32) × (Nat → Int32)) (t : State) => va_P (dC, dI) vwCl [kx_5 h0 g_row m_n m_slots 0 g_many g_loss g_less g_voteValue g_voteNumber g_allValue g_allNumber m_allMany g_nodeL g_nodeR m_nodes g_part m_partMany g_wasMany g_wasLoss g_wasValue g_wasNumber g_path m_pathMany g_heavyValue g_heavyTimes m_heavyMany g_fewest g_which g_met u.1, kx_a g_row cyI 160 f, kx_a g_which cyI 160 u.2.1, kx_a g_met cyI 160 u.2.2] t.heap ∧ va_K (dC, dI) vwCl [(cyI, .int)] t ∧ va_D (va_A [kx_5 h0 g_row m_n m_slots m_thrown g_many g_loss g_less g_voteValue g_voteNumber g_allValue g_allNumber m_allMany g_nodeL g_nodeR m_nodes g_part m_partMany g_wasMany g_wasLoss g_wasValue g_wasNumber g_path m_pathMany g_heavyValue g_heavyTimes m_heavyMany g_fewest g_which g_met m_mostMet, kx_a g_row cyI 160 f, kx_a g_which cyI 160 fw, kx_a g_met cyI 160 fq] sz) [kx_5 h0 g_row m_n m_slots 0 g_many g_loss g_less g_voteValue g_voteNumber g_allValue g_allNumber m_allMany g_nodeL g_nodeR m_nodes g_part m_partMany g_wasMany g_wasLoss g_wasValue g_wasNumber g_path m_pathMany g_heavyValue g_heavyTimes m_heavyMany g_fewest g_which g_met u.1, kx_a g_row cyI 160 f, kx_a g_which cyI 160 u.2.1, kx_a g_met cyI 160 u.2.2]) (va_A [kx_5 h0 g_row m_n m_slots m_thrown g_many g_loss g_less g_voteValue g_voteNumber g_allValue g_allNumber m_allMany g_nodeL g_nodeR m_nodes g_part m_partMany g_wasMany g_wasLoss g_wasValue g_wasNumber g_path m_pathMany g_heavyValue g_heavyTimes m_heavyMany g_fewest g_which g_met m_mostMet, kx_a g_row cyI 160 f, kx_a g_which cyI 160 fw, kx_a g_met cyI 160 fq] sz)) 0 0 (va_A [kx_5 h0 g_row m_n m_slots m_thrown g_many g_loss g_less g_voteValue g_voteNumber g_allValue g_allNumber m_allMany g_nodeL g_nodeR m_nodes g_part m_partMany g_wasMany g_wasLoss g_wasValue g_wasNumber g_path m_pathMany g_heavyValue g_heavyTimes m_heavyMany g_fewest g_which g_met m_mostMet, kx_a g_row cyI 160 f, kx_a g_which cyI 160 fw, kx_a g_met cyI 160 fq] sz) := by
  refine Met.ofW (cc := cX5_majorities) (maxL := 4) (ret := (some .int)) (by decide) rfl ?_
  intro p e s m args below meth c s₁ B hml hv
  obtain ⟨rfl, hsz, hP, hK, hD0⟩ := hv
  have hx := B.exec
  have hb := B.bytes
  have hr := B.returns
  have hts := atoms_spec (ws := wsX5_majorities) B.pre
  have hown : s.vm.findClass RX5 = some m.cls := findClass_of_methodNamed B.named
  have hlocks := B.notSynchronized
  subst hsz
  have hD := hD0.self (sz := s.heap.size)
  generalize hAe : va_A [kx_5 h0 g_row m_n m_slots m_thrown g_many g_loss g_less g_voteValue g_voteNumber g_allValue g_allNumber m_allMany g_nodeL g_nodeR m_nodes g_part m_partMany g_wasMany g_wasLoss g_wasValue g_wasNumber g_path m_pathMany g_heavyValue g_heavyTimes m_heavyMany g_fewest g_which g_met m_mostMet, kx_a g_row cyI 160 f, kx_a g_which cyI 160 fw, kx_a g_met cyI 160 fq] s.heap.size = A at hD ⊢
  have hA : ∀ q : Nat, s.heap.size ≤ q → A q := fun q h => by rw [← hAe]; exact Or.inr h
  have hS : va_S A s.heap s.heap [] := va_S.rf
  have hP : va_P (dC, dI) vwCl [kx_5 h0 g_row m_n m_slots m_thrown g_many g_loss g_less g_voteValue g_voteNumber g_allValue g_allNumber m_allMany g_nodeL g_nodeR m_nodes g_part m_partMany g_wasMany g_wasLoss g_wasValue g_wasNumber g_path m_pathMany g_heavyValue g_heavyTimes m_heavyMany g_fewest g_which g_met m_mostMet, kx_a g_row cyI 160 f, kx_a g_which cyI 160 fw, kx_a g_met cyI 160 fq] s.heap := hP
  have hl := lv_entry ([.ref h0]) (n := 4) (Nat.le_of_ble_eq_true rfl)
  rw [lg_entry_eq]
  generalize (lg_sl ([.ref h0]) ++ List.replicate (4 - (lg_sl ([.ref h0])).length) Slot.unset).toArray = ls at hl ⊢
  have hl : lv_has ls 4 [(0, .ref h0)] := hl
  have hf_77 := hts (.fieldLink RX5 77 "MajorityIndexModel" "thrown" "I") (List.mem_of_getElem? (i := 1) rfl)
  have hi_5 : ∀ w ∈ u_ws RX5 TX5 30, w ∈ wsX5_majorities := fun w h => List.mem_cons_of_mem _ (List.mem_append_right _ h)
  have hf_84 := hts (.fieldLink RX5 84 "MajorityIndexModel" "n" "I") (List.mem_of_getElem? (i := 2) rfl)
  have n_l := ki_nat m_n rfl (by omega)
  refine lv_aload_n hx hb dX5_majorities_0 rfl (lv_at hl 0 rfl) ?_
  refine lv_iconst (v := 0) hx hb dX5_majorities_1 (by decide) ?_
  refine va_put (D := (dC, dI)) (ci := 5) (v := .int 0) (ty := .int) (C := RX5) (T := TX5) (N := 30) hx hb hts hi_5 tyX5 tyX5_ok nmX5 hown hK hP hD hS 0 rfl rfl 3 (by decide) hf_77 (fun _ h9 => h9) rfl (by decide +kernel) rfl rfl (Nat.le_of_ble_eq_true rfl) dX5_majorities_2 (fun H locs hP hD hS => ?_)
  have hP : va_P (dC, dI) vwCl [kx_5 h0 g_row m_n m_slots 0 g_many g_loss g_less g_voteValue g_voteNumber g_allValue g_allNumber m_allMany g_nodeL g_nodeR m_nodes g_part m_partMany g_wasMany g_wasLoss g_wasValue g_wasNumber g_path m_pathMany g_heavyValue g_heavyTimes m_heavyMany g_fewest g_which g_met m_mostMet, kx_a g_row cyI 160 f, kx_a g_which cyI 160 fw, kx_a g_met cyI 160 fq] H := hP
  have hD : va_D A [kx_5 h0 g_row m_n m_slots 0 g_many g_loss g_less g_voteValue g_voteNumber g_allValue g_allNumber m_allMany g_nodeL g_nodeR m_nodes g_part m_partMany g_wasMany g_wasLoss g_wasValue g_wasNumber g_path m_pathMany g_heavyValue g_heavyTimes m_heavyMany g_fewest g_which g_met m_mostMet, kx_a g_row cyI 160 f, kx_a g_which cyI 160 fw, kx_a g_met cyI 160 fq] := hD
  refine lv_aload_n hx hb dX5_majorities_5 rfl (lv_at hl 0 rfl) ?_
  have hPc := hP.sub (ws' := [kx_5 h0 g_row m_n m_slots 0 g_many g_loss g_less g_voteValue g_voteNumber g_allValue g_allNumber m_allMany g_nodeL g_nodeR m_nodes g_part m_partMany g_wasMany g_wasLoss g_wasValue g_wasNumber g_path m_pathMany g_heavyValue g_heavyTimes m_heavyMany g_fewest g_which g_met m_mostMet, kx_a g_row cyI 160 f, kx_a g_which cyI 160 fw]) [0, 1, 2] rfl
  have hKc := hK
  have hDc := hD.sub (ws' := [kx_5 h0 g_row m_n m_slots 0 g_many g_loss g_less g_voteValue g_voteNumber g_allValue g_allNumber m_allMany g_nodeL g_nodeR m_nodes g_part m_partMany g_wasMany g_wasLoss g_wasValue g_wasNumber g_path m_pathMany g_heavyValue g_heavyTimes m_heavyMany g_fewest g_which g_met m_mostMet, kx_a g_row cyI 160 f, kx_a g_which cyI 160 fw]) [0, 1, 2] (by decide) rfl
  have hFc := va_free (wc := [kx_5 h0 g_row m_n m_slots 0 g_many g_loss g_less g_voteValue g_voteNumber g_allValue g_allNumber m_allMany g_nodeL g_nodeR m_nodes g_part m_partMany g_wasMany g_wasLoss g_wasValue g_wasNumber g_path m_pathMany g_heavyValue g_heavyTimes m_heavyMany g_fewest g_which g_met m_mostMet, kx_a g_row cyI 160 f, kx_a g_which cyI 160 fw]) hD hS hA [0, 1, 2] rfl
  refine va_callv (va_runV (As := []) (rest := []) ⟨hx, hb, hml, hown, hts⟩ (c_X5_laysNumbers_x l dC dI h0 g_row g_many g_loss g_less g_voteValue g_voteNumber g_allValue g_allNumber g_nodeL g_nodeR g_part g_wasMany g_wasLoss g_wasValue g_wasNumber g_path g_heavyValue g_heavyTimes g_fewest g_which g_met m_n m_slots 0 m_allMany m_nodes m_partMany m_pathMany m_heavyMany m_mostMet cyI f fw H.size a0 a1) (cwV 0 hts gX5_majorities_X5_laysNumbers rfl rfl rfl (by decide +kernel) ⟨Nat.le_of_ble_eq_true rfl, Nat.le_of_ble_eq_true rfl⟩) ⟨fun a U g mk q => by obtain ⟨q0, q1, qP, qK, qD⟩ := q; exact ⟨q0, q1, qP, va_K.moved (u := U) (U := U.calling g mk a) (Vm.Alike.refl U.vm) qK, qD⟩, va_recv hKc hPc (ci := 5) (q0 := 0) rfl rfl, fun U hU hW => ⟨rfl, by rw [hU], by rw [hU]; exact hPc, va_K.moved hW.alike hKc, hDc.weaken (fun _ _ _ _ => trivial)⟩⟩ rfl rfl hl.1 rfl (lv_room (Nat.le_of_ble_eq_true rfl)) dX5_majorities_6 ⟨Nat.le_of_ble_eq_true rfl, Nat.le_of_ble_eq_true rfl⟩) hS (fun q _ h => hFc q h) hFc (fun u t H1 locs ht hvm w_1 hB hz1 hk1 hS => ?_)
  obtain ⟨o_2, o_3⟩ := u
  dsimp only at w_1 hB
  obtain ⟨hP1, hK1, hD1⟩ := hB
  rw [ht] at hP1
  have hK1 := va_K.moved hvm.symm hK1
  obtain ⟨hP, hD⟩ := va_join (wr := [kx_a g_met cyI 160 fq]) (w1 := [kx_5 h0 g_row m_n m_slots 0 g_many g_loss g_less g_voteValue g_voteNumber g_allValue g_allNumber m_allMany g_nodeL g_nodeR m_nodes g_part m_partMany g_wasMany g_wasLoss g_wasValue g_wasNumber g_path m_pathMany g_heavyValue g_heavyTimes m_heavyMany g_fewest g_which g_met m_mostMet, kx_a g_row cyI 160 f, kx_a g_which cyI 160 o_2]) hP hD [0, 1, 2] [3] rfl rfl (by decide) (by decide) hk1 hFc hP1 hD1
  clear hP1 hD1 hK1 hk1 hz1 hFc hDc hPc hKc
  generalize H1 = H at hP hS ⊢
  have hP : va_P (dC, dI) vwCl [kx_a g_met cyI 160 fq, kx_5 h0 g_row m_n m_slots 0 g_many g_loss g_less g_voteValue g_voteNumber g_allValue g_allNumber m_allMany g_nodeL g_nodeR m_nodes g_part m_partMany g_wasMany g_wasLoss g_wasValue g_wasNumber g_path m_pathMany g_heavyValue g_heavyTimes m_heavyMany g_fewest g_which g_met m_mostMet, kx_a g_row cyI 160 f, kx_a g_which cyI 160 o_2] H := hP
  have hD : va_D A [kx_a g_met cyI 160 fq, kx_5 h0 g_row m_n m_slots 0 g_many g_loss g_less g_voteValue g_voteNumber g_allValue g_allNumber m_allMany g_nodeL g_nodeR m_nodes g_part m_partMany g_wasMany g_wasLoss g_wasValue g_wasNumber g_path m_pathMany g_heavyValue g_heavyTimes m_heavyMany g_fewest g_which g_met m_mostMet, kx_a g_row cyI 160 f, kx_a g_which cyI 160 o_2] := hD
  have w_1 : mj_wh f o_2 m_n.toNatClampNeg o_3 ∧ o_3 ≤ m_n.toInt := w_1
  refine lv_iconst (v := 0) hx hb dX5_majorities_9 (by decide) ?_
  refine lv_istore_n (lv' := [(1, .int 0), (0, .ref h0)]) hx hb dX5_majorities_10 rfl hl (by decide) rfl (fun ls hl => ?_)
  refine lv_iconst (v := 0) hx hb dX5_majorities_11 (by decide) ?_
  refine lv_istore_n (lv' := [(2, .int 0), (1, .int 0), (0, .ref h0)]) hx hb dX5_majorities_12 rfl hl (by decide) rfl (fun ls hl => ?_)
  have LP1 : ∀ (n : Nat) (i : Int32) (sm : Int32) (y_mm : Int32) (y_q : Nat → Int32), (0 ≤ i.toInt) → (i.toInt ≤ m_n.toInt) → (sm.toInt = (mj_ms f m_n.toNatClampNeg i.toNatClampNeg : Int)) → (m_n.toInt - i.toInt).toNat < n → ∀ (H : Heap) (locs : List Loc), va_P (dC, dI) vwCl [kx_a g_met cyI 160 y_q, kx_5 h0 g_row m_n m_slots 0 g_many g_loss g_less g_voteValue g_voteNumber g_allValue g_allNumber m_allMany g_nodeL g_nodeR m_nodes g_part m_partMany g_wasMany g_wasLoss g_wasValue g_wasNumber g_path m_pathMany g_heavyValue g_heavyTimes m_heavyMany g_fewest g_which g_met y_mm, kx_a g_row cyI 160 f, kx_a g_which cyI 160 o_2] H → va_D A [kx_a g_met cyI 160 y_q, kx_5 h0 g_row m_n m_slots 0 g_many g_loss g_less g_voteValue g_voteNumber g_allValue g_allNumber m_allMany g_nodeL g_nodeR m_nodes g_part m_partMany g_wasMany g_wasLoss g_wasValue g_wasNumber g_path m_pathMany g_heavyValue g_heavyTimes m_heavyMany g_fewest g_which g_met y_mm, kx_a g_row cyI 160 f, kx_a g_which cyI 160 o_2] → va_S A s.heap H locs → ∀ (ls : Array Slot), lv_has ls 4 [(2, .int i), (1, .int sm), (0, .ref h0)] → W p l e (headSpec wsX5_majorities ({ frames := 1, cells := 0, slots := 0, locals := 45 })).room s m ([.ref h0] : List Value).toArray below meth c H locs 0 0 (MQ below (va_Qi (fun (r : Int32) (u : Int32 × (Nat → Int32) × (Nat → Int32)) => r.toInt = (mj_ms f m_n.toNatClampNeg m_n.toNatClampNeg : Int)) (fun (u : Int32 × (Nat → Int32) × (Nat → Int32)) (t : State) => va_P (dC, dI) vwCl [kx_5 h0 g_row m_n m_slots 0 g_many g_loss g_less g_voteValue g_voteNumber g_allValue g_allNumber m_allMany g_nodeL g_nodeR m_nodes g_part m_partMany g_wasMany g_wasLoss g_wasValue g_wasNumber g_path m_pathMany g_heavyValue g_heavyTimes m_heavyMany g_fewest g_which g_met u.1, kx_a g_row cyI 160 f, kx_a g_which cyI 160 u.2.1, kx_a g_met cyI 160 u.2.2] t.heap ∧ va_K (dC, dI) vwCl [(cyI, .int)] t ∧ va_D A [kx_5 h0 g_row m_n m_slots 0 g_many g_loss g_less g_voteValue g_voteNumber g_allValue g_allNumber m_allMany g_nodeL g_nodeR m_nodes g_part m_partMany g_wasMany g_wasLoss g_wasValue g_wasNumber g_path m_pathMany g_heavyValue g_heavyTimes m_heavyMany g_fewest g_which g_met u.1, kx_a g_row cyI 160 f, kx_a g_which cyI 160 u.2.1, kx_a g_met cyI 160 u.2.2]) A) ([.ref h0] : List Value).toArray s 0 0 A) (F0 m 13 ls []) := by
    intro n
    induction n with
    | zero => intro i sm y_mm y_q LP1_h0 LP1_h1 LP1_h2 hn; exact absurd hn (Nat.not_lt_zero _)
    | succ n ih1 =>
      intro i sm y_mm y_q LP1_h0 LP1_h1 LP1_h2 hn1 H locs hP hD hS ls hl
      have n_i := ki_nat i rfl (by omega)
      have hle := mj_ms_b (f := f) (n := m_n.toNatClampNeg) (l := i.toNatClampNeg) (by omega) (by omega)
      refine lv_iload_n hx hb dX5_majorities_13 rfl (lv_at hl 0 rfl) ?_
      refine lv_aload_n hx hb dX5_majorities_14 rfl (lv_at hl 2 rfl) ?_
      refine va_get (D := (dC, dI)) (ci := 5) (v := .int m_n) (C := RX5) (T := TX5) (N := 30) hx hb hts hi_5 hown hK hP 1 rfl rfl 1 (by decide) hf_84 (fun _ h9 => h9) rfl dX5_majorities_15 ?_
      refine lv_icmp_ge (tgt := 61) hx hb dX5_majorities_18 (by decide) (fun c_4 => ?_) (fun c_4 => ?_)
      · have i_4 : m_n.toInt ≤ i.toInt := kc_le c_4
        refine lv_iload_n hx hb dX5_majorities_61 rfl (lv_at hl 1 rfl) ?_
        have hP9 := hP.sub (ws' := [kx_5 h0 g_row m_n m_slots 0 g_many g_loss g_less g_voteValue g_voteNumber g_allValue g_allNumber m_allMany g_nodeL g_nodeR m_nodes g_part m_partMany g_wasMany g_wasLoss g_wasValue g_wasNumber g_path m_pathMany g_heavyValue g_heavyTimes m_heavyMany g_fewest g_which g_met y_mm, kx_a g_row cyI 160 f, kx_a g_which cyI 160 o_2, kx_a g_met cyI 160 y_q]) [1, 2, 3, 0] rfl
        have hD9 := hD.sub (ws' := [kx_5 h0 g_row m_n m_slots 0 g_many g_loss g_less g_voteValue g_voteNumber g_allValue g_allNumber m_allMany g_nodeL g_nodeR m_nodes g_part m_partMany g_wasMany g_wasLoss g_wasValue g_wasNumber g_path m_pathMany g_heavyValue g_heavyTimes m_heavyMany g_fewest g_which g_met y_mm, kx_a g_row cyI 160 f, kx_a g_which cyI 160 o_2, kx_a g_met cyI 160 y_q]) [1, 2, 3, 0] (by decide) rfl
        have hK9 := hK
        exact W.iret (v := sm) hx hb hr (fun t ht hW => ⟨⟨sm, (y_mm, o_2, y_q), rfl, (by (try dsimp only); rw [LP1_h2, show m_n.toNatClampNeg = i.toNatClampNeg by omega]), by rw [ht]; exact hP9, va_K.moved hW.alike hK9, hD9⟩, hS.F ht⟩) hS.2.2 dX5_majorities_62
      · have i_4 : i.toInt < m_n.toInt := kc_nle c_4
        refine lv_aload_n hx hb dX5_majorities_21 rfl (lv_at hl 2 rfl) ?_
        have hPc := hP.sub (ws' := [kx_5 h0 g_row m_n m_slots 0 g_many g_loss g_less g_voteValue g_voteNumber g_allValue g_allNumber m_allMany g_nodeL g_nodeR m_nodes g_part m_partMany g_wasMany g_wasLoss g_wasValue g_wasNumber g_path m_pathMany g_heavyValue g_heavyTimes m_heavyMany g_fewest g_which g_met y_mm, kx_a g_met cyI 160 y_q]) [1, 0] rfl
        have hKc := hK
        have hDc := hD.sub (ws' := [kx_5 h0 g_row m_n m_slots 0 g_many g_loss g_less g_voteValue g_voteNumber g_allValue g_allNumber m_allMany g_nodeL g_nodeR m_nodes g_part m_partMany g_wasMany g_wasLoss g_wasValue g_wasNumber g_path m_pathMany g_heavyValue g_heavyTimes m_heavyMany g_fewest g_which g_met y_mm, kx_a g_met cyI 160 y_q]) [1, 0] (by decide) rfl
        have hFc := va_free (wc := [kx_5 h0 g_row m_n m_slots 0 g_many g_loss g_less g_voteValue g_voteNumber g_allValue g_allNumber m_allMany g_nodeL g_nodeR m_nodes g_part m_partMany g_wasMany g_wasLoss g_wasValue g_wasNumber g_path m_pathMany g_heavyValue g_heavyTimes m_heavyMany g_fewest g_which g_met y_mm, kx_a g_met cyI 160 y_q]) hD hS hA [1, 0] rfl
        refine va_callv (va_runV (As := []) (rest := []) ⟨hx, hb, hml, hown, hts⟩ (c_X5_begins_x l dC dI h0 g_row g_many g_loss g_less g_voteValue g_voteNumber g_allValue g_allNumber g_nodeL g_nodeR g_part g_wasMany g_wasLoss g_wasValue g_wasNumber g_path g_heavyValue g_heavyTimes g_fewest g_which g_met m_n m_slots 0 m_allMany m_nodes m_partMany m_pathMany m_heavyMany y_mm cyI y_q H.size a0 a1) (cwV 0 hts gX5_majorities_X5_begins rfl rfl rfl (by decide +kernel) ⟨Nat.le_of_ble_eq_true rfl, Nat.le_of_ble_eq_true rfl⟩) ⟨fun a U g mk q => by obtain ⟨q0, q1, qP, qK, qD⟩ := q; exact ⟨q0, q1, qP, va_K.moved (u := U) (U := U.calling g mk a) (Vm.Alike.refl U.vm) qK, qD⟩, va_recv hKc hPc (ci := 5) (q0 := 0) rfl rfl, fun U hU hW => ⟨rfl, by rw [hU], by rw [hU]; exact hPc, va_K.moved hW.alike hKc, hDc.weaken (fun _ _ _ _ => trivial)⟩⟩ rfl rfl hl.1 rfl (lv_room (Nat.le_of_ble_eq_true rfl)) dX5_majorities_22 ⟨Nat.le_of_ble_eq_true rfl, Nat.le_of_ble_eq_true rfl⟩) hS (fun q _ h => hFc q h) hFc (fun u t H1 locs ht hvm w_5 hB hz1 hk1 hS => ?_)
        obtain ⟨o_6, rfl⟩ : ∃ z, z = u := ⟨_, rfl⟩
        obtain ⟨hP1, hK1, hD1⟩ := hB
        rw [ht] at hP1
        have hK1 := va_K.moved hvm.symm hK1
        obtain ⟨hP, hD⟩ := va_join (wr := [kx_a g_row cyI 160 f, kx_a g_which cyI 160 o_2]) (w1 := [kx_5 h0 g_row m_n m_slots 0 g_many g_loss g_less g_voteValue g_voteNumber g_allValue g_allNumber m_allMany g_nodeL g_nodeR m_nodes g_part m_partMany g_wasMany g_wasLoss g_wasValue g_wasNumber g_path m_pathMany g_heavyValue g_heavyTimes m_heavyMany g_fewest g_which g_met 0, kx_a g_met cyI 160 o_6]) hP hD [1, 0] [2, 3] rfl rfl (by decide) (by decide) hk1 hFc hP1 hD1
        clear hP1 hD1 hK1 hk1 hz1 hFc hDc hPc hKc
        generalize H1 = H at hP hS ⊢
        have hP : va_P (dC, dI) vwCl [kx_a g_row cyI 160 f, kx_a g_which cyI 160 o_2, kx_5 h0 g_row m_n m_slots 0 g_many g_loss g_less g_voteValue g_voteNumber g_allValue g_allNumber m_allMany g_nodeL g_nodeR m_nodes g_part m_partMany g_wasMany g_wasLoss g_wasValue g_wasNumber g_path m_pathMany g_heavyValue g_heavyTimes m_heavyMany g_fewest g_which g_met 0, kx_a g_met cyI 160 o_6] H := hP
        have hD : va_D A [kx_a g_row cyI 160 f, kx_a g_which cyI 160 o_2, kx_5 h0 g_row m_n m_slots 0 g_many g_loss g_less g_voteValue g_voteNumber g_allValue g_allNumber m_allMany g_nodeL g_nodeR m_nodes g_part m_partMany g_wasMany g_wasLoss g_wasValue g_wasNumber g_path m_pathMany g_heavyValue g_heavyTimes m_heavyMany g_fewest g_which g_met 0, kx_a g_met cyI 160 o_6] := hD
        have w_5 : ∀ k : Nat, k < m_n.toNatClampNeg → o_6 k = 0 := w_5
        refine lv_iload_n hx hb dX5_majorities_25 rfl (lv_at hl 0 rfl) ?_
        refine lv_iconst (v := 1) hx hb dX5_majorities_26 (by decide) ?_
        refine lv_iadd hx hb dX5_majorities_27 ?_
        refine lv_topi (fun y_7 ey_7 => ?_)
        have i_7 : y_7.toInt = i.toInt + 1 := ki_add ey_7 rfl rfl (by omega) (by omega)
        refine lv_istore_n (lv' := [(3, .int y_7), (2, .int i), (1, .int sm), (0, .ref h0)]) hx hb dX5_majorities_28 rfl hl (by decide) rfl (fun ls hl => ?_)
        have n_y := ki_nat y_7 rfl (by omega)
        have LP2 : ∀ (n : Nat) (j : Int32) (sm2 : Int32) (z_mm : Int32) (z_q : Nat → Int32), (i.toInt + 1 ≤ j.toInt) → (j.toInt ≤ m_n.toInt + 1) → (sm2.toInt = (mj_ms f m_n.toNatClampNeg i.toNatClampNeg : Int) + (mj_mc f i.toNatClampNeg (j.toNatClampNeg - 1 - i.toNatClampNeg) : Int)) → (mj_tl f (fun k => (o_2 k).toNatClampNeg) z_q m_n.toNatClampNeg i.toNatClampNeg (j.toNatClampNeg - 1 - i.toNatClampNeg) z_mm.toInt) → (0 ≤ z_mm.toInt) → (z_mm.toInt ≤ j.toInt - 1 - i.toInt) → (m_n.toInt + 1 - j.toInt).toNat < n → ∀ (H : Heap) (locs : List Loc), va_P (dC, dI) vwCl [kx_a g_row cyI 160 f, kx_a g_which cyI 160 o_2, kx_5 h0 g_row m_n m_slots 0 g_many g_loss g_less g_voteValue g_voteNumber g_allValue g_allNumber m_allMany g_nodeL g_nodeR m_nodes g_part m_partMany g_wasMany g_wasLoss g_wasValue g_wasNumber g_path m_pathMany g_heavyValue g_heavyTimes m_heavyMany g_fewest g_which g_met z_mm, kx_a g_met cyI 160 z_q] H → va_D A [kx_a g_row cyI 160 f, kx_a g_which cyI 160 o_2, kx_5 h0 g_row m_n m_slots 0 g_many g_loss g_less g_voteValue g_voteNumber g_allValue g_allNumber m_allMany g_nodeL g_nodeR m_nodes g_part m_partMany g_wasMany g_wasLoss g_wasValue g_wasNumber g_path m_pathMany g_heavyValue g_heavyTimes m_heavyMany g_fewest g_which g_met z_mm, kx_a g_met cyI 160 z_q] → va_S A s.heap H locs → ∀ (ls : Array Slot), lv_has ls 4 [(3, .int j), (2, .int i), (1, .int sm2), (0, .ref h0)] → W p l e (headSpec wsX5_majorities ({ frames := 1, cells := 0, slots := 0, locals := 45 })).room s m ([.ref h0] : List Value).toArray below meth c H locs 0 0 (MQ below (va_Qi (fun (r : Int32) (u : Int32 × (Nat → Int32) × (Nat → Int32)) => r.toInt = (mj_ms f m_n.toNatClampNeg m_n.toNatClampNeg : Int)) (fun (u : Int32 × (Nat → Int32) × (Nat → Int32)) (t : State) => va_P (dC, dI) vwCl [kx_5 h0 g_row m_n m_slots 0 g_many g_loss g_less g_voteValue g_voteNumber g_allValue g_allNumber m_allMany g_nodeL g_nodeR m_nodes g_part m_partMany g_wasMany g_wasLoss g_wasValue g_wasNumber g_path m_pathMany g_heavyValue g_heavyTimes m_heavyMany g_fewest g_which g_met u.1, kx_a g_row cyI 160 f, kx_a g_which cyI 160 u.2.1, kx_a g_met cyI 160 u.2.2] t.heap ∧ va_K (dC, dI) vwCl [(cyI, .int)] t ∧ va_D A [kx_5 h0 g_row m_n m_slots 0 g_many g_loss g_less g_voteValue g_voteNumber g_allValue g_allNumber m_allMany g_nodeL g_nodeR m_nodes g_part m_partMany g_wasMany g_wasLoss g_wasValue g_wasNumber g_path m_pathMany g_heavyValue g_heavyTimes m_heavyMany g_fewest g_which g_met u.1, kx_a g_row cyI 160 f, kx_a g_which cyI 160 u.2.1, kx_a g_met cyI 160 u.2.2]) A) ([.ref h0] : List Value).toArray s 0 0 A) (F0 m 29 ls []) := by
          intro n
          induction n with
          | zero => intro j sm2 z_mm z_q LP2_h0 LP2_h1 LP2_h2 LP2_h3 LP2_h4 LP2_h5 hn; exact absurd hn (Nat.not_lt_zero _)
          | succ n ih2 =>
            intro j sm2 z_mm z_q LP2_h0 LP2_h1 LP2_h2 LP2_h3 LP2_h4 LP2_h5 hn2 H locs hP hD hS ls hl
            have n_j := ki_nat j rfl (by omega)
            have hle2 := mj_mc_le f i.toNatClampNeg (j.toNatClampNeg - 1 - i.toNatClampNeg)
            refine lv_iload_n hx hb dX5_majorities_29 rfl (lv_at hl 0 rfl) ?_
            refine lv_aload_n hx hb dX5_majorities_30 rfl (lv_at hl 3 rfl) ?_
            refine va_get (D := (dC, dI)) (ci := 5) (v := .int m_n) (C := RX5) (T := TX5) (N := 30) hx hb hts hi_5 hown hK hP 2 rfl rfl 1 (by decide) hf_84 (fun _ h9 => h9) rfl dX5_majorities_31 ?_
            refine lv_icmp_gt (tgt := 55) hx hb dX5_majorities_34 (by decide) (fun c_8 => ?_) (fun c_8 => ?_)
            · have i_8 : m_n.toInt < j.toInt := kc_lt c_8
              obtain ⟨x_9, ex_9⟩ : ∃ y : Int32, y = i + 1 := ⟨_, rfl⟩
              have i_9 : x_9.toInt = i.toInt + 1 := ki_add ex_9 rfl rfl (by omega) (by omega)
              refine lv_iinc (v := x_9) (lv' := [(2, .int x_9), (3, .int j), (1, .int sm2), (0, .ref h0)]) hx hb dX5_majorities_55 hl (k := 1) rfl (by rw [ex_9]; rfl) (by decide) rfl (fun ls hl => ?_)
              refine lv_goto (tgt := 13) hx hb dX5_majorities_58 (by decide) ?_
              have hP : va_P (dC, dI) vwCl [kx_a g_met cyI 160 z_q, kx_5 h0 g_row m_n m_slots 0 g_many g_loss g_less g_voteValue g_voteNumber g_allValue g_allNumber m_allMany g_nodeL g_nodeR m_nodes g_part m_partMany g_wasMany g_wasLoss g_wasValue g_wasNumber g_path m_pathMany g_heavyValue g_heavyTimes m_heavyMany g_fewest g_which g_met z_mm, kx_a g_row cyI 160 f, kx_a g_which cyI 160 o_2] _ := hP.sub [3, 2, 0, 1] rfl
              have hD : va_D A [kx_a g_met cyI 160 z_q, kx_5 h0 g_row m_n m_slots 0 g_many g_loss g_less g_voteValue g_voteNumber g_allValue g_allNumber m_allMany g_nodeL g_nodeR m_nodes g_part m_partMany g_wasMany g_wasLoss g_wasValue g_wasNumber g_path m_pathMany g_heavyValue g_heavyTimes m_heavyMany g_fewest g_which g_met z_mm, kx_a g_row cyI 160 f, kx_a g_which cyI 160 o_2] := hD.sub [3, 2, 0, 1] (by decide) rfl
              have n_10 := ki_nat x_9 rfl (by omega)
              have q_s : mj_ms f m_n.toNatClampNeg x_9.toNatClampNeg = mj_ms f m_n.toNatClampNeg i.toNatClampNeg + mj_mc f i.toNatClampNeg (m_n.toNatClampNeg - i.toNatClampNeg) := by rw [show x_9.toNatClampNeg = i.toNatClampNeg + 1 by omega]; rfl
              have q_j : j.toNatClampNeg - 1 - i.toNatClampNeg = m_n.toNatClampNeg - i.toNatClampNeg := by omega
              have h_2 := LP2_h2
              rw [q_j] at h_2
              exact ih1 x_9 sm2 z_mm z_q (by omega) (by omega) (by rw [q_s]; omega) (by omega) _ _ hP hD hS ls (lv_sub hl [0, 2, 3] rfl)
            · have i_8 : j.toInt ≤ m_n.toInt := kc_nlt c_8
              refine lv_aload_n hx hb dX5_majorities_37 rfl (lv_at hl 3 rfl) ?_
              refine lv_iload_n hx hb dX5_majorities_38 rfl (lv_at hl 0 rfl) ?_
              refine lv_iload_n hx hb dX5_majorities_39 rfl (lv_at hl 1 rfl) ?_
              have hPc := hP.sub (ws' := [kx_5 h0 g_row m_n m_slots 0 g_many g_loss g_less g_voteValue g_voteNumber g_allValue g_allNumber m_allMany g_nodeL g_nodeR m_nodes g_part m_partMany g_wasMany g_wasLoss g_wasValue g_wasNumber g_path m_pathMany g_heavyValue g_heavyTimes m_heavyMany g_fewest g_which g_met z_mm, kx_a g_which cyI 160 o_2, kx_a g_met cyI 160 z_q]) [2, 1, 3] rfl
              have hKc := hK
              have hDc := hD.sub (ws' := [kx_5 h0 g_row m_n m_slots 0 g_many g_loss g_less g_voteValue g_voteNumber g_allValue g_allNumber m_allMany g_nodeL g_nodeR m_nodes g_part m_partMany g_wasMany g_wasLoss g_wasValue g_wasNumber g_path m_pathMany g_heavyValue g_heavyTimes m_heavyMany g_fewest g_which g_met z_mm, kx_a g_which cyI 160 o_2, kx_a g_met cyI 160 z_q]) [2, 1, 3] (by decide) rfl
              have hFc := va_free (wc := [kx_5 h0 g_row m_n m_slots 0 g_many g_loss g_less g_voteValue g_voteNumber g_allValue g_allNumber m_allMany g_nodeL g_nodeR m_nodes g_part m_partMany g_wasMany g_wasLoss g_wasValue g_wasNumber g_path m_pathMany g_heavyValue g_heavyTimes m_heavyMany g_fewest g_which g_met z_mm, kx_a g_which cyI 160 o_2, kx_a g_met cyI 160 z_q]) hD hS hA [2, 1, 3] rfl
              refine va_calli (va_runV (As := [.int j, .int i]) (rest := []) ⟨hx, hb, hml, hown, hts⟩ (c_X5_goesOn_x l dC dI h0 g_row g_many g_loss g_less g_voteValue g_voteNumber g_allValue g_allNumber g_nodeL g_nodeR g_part g_wasMany g_wasLoss g_wasValue g_wasNumber g_path g_heavyValue g_heavyTimes g_fewest g_which g_met m_n m_slots 0 m_allMany m_nodes m_partMany m_pathMany m_heavyMany z_mm cyI o_2 z_q f m_n.toNatClampNeg o_3 (j.toNatClampNeg - 1 - i.toNatClampNeg) j i H.size w_1.1 LP2_h3 (by omega) (by omega) (by omega) (by omega) (by omega) (by omega) (by omega)) (cwV 2 hts gX5_majorities_X5_goesOn rfl rfl rfl (by decide +kernel) ⟨Nat.le_of_ble_eq_true rfl, Nat.le_of_ble_eq_true rfl⟩) ⟨fun a U g mk q => by obtain ⟨q0, q1, qP, qK, qD⟩ := q; exact ⟨q0, q1, qP, va_K.moved (u := U) (U := U.calling g mk a) (Vm.Alike.refl U.vm) qK, qD⟩, va_recv hKc hPc (ci := 5) (q0 := 0) rfl rfl, fun U hU hW => ⟨rfl, by rw [hU], by rw [hU]; exact hPc, va_K.moved hW.alike hKc, hDc.weaken (fun _ _ _ _ => trivial)⟩⟩ rfl rfl hl.1 rfl (lv_room (Nat.le_of_ble_eq_true rfl)) dX5_majorities_40 ⟨Nat.le_of_ble_eq_true rfl, Nat.le_of_ble_eq_true rfl⟩) hS (fun q _ h => hFc q h) hFc (fun r_11 u t H1 locs ht hvm w_11 hB hz1 hk1 hS => ?_)
              obtain ⟨o_12, o_13⟩ := u
              dsimp only at w_11 hB
              obtain ⟨hP1, hK1, hD1⟩ := hB
              rw [ht] at hP1
              have hK1 := va_K.moved hvm.symm hK1
              obtain ⟨hP, hD⟩ := va_join (wr := [kx_a g_row cyI 160 f]) (w1 := [kx_5 h0 g_row m_n m_slots 0 g_many g_loss g_less g_voteValue g_voteNumber g_allValue g_allNumber m_allMany g_nodeL g_nodeR m_nodes g_part m_partMany g_wasMany g_wasLoss g_wasValue g_wasNumber g_path m_pathMany g_heavyValue g_heavyTimes m_heavyMany g_fewest g_which g_met o_12, kx_a g_which cyI 160 o_2, kx_a g_met cyI 160 o_13]) hP hD [2, 1, 3] [0] rfl rfl (by decide) (by decide) hk1 hFc hP1 hD1
              clear hP1 hD1 hK1 hk1 hz1 hFc hDc hPc hKc
              generalize H1 = H at hP hS ⊢
              have hP : va_P (dC, dI) vwCl [kx_a g_row cyI 160 f, kx_5 h0 g_row m_n m_slots 0 g_many g_loss g_less g_voteValue g_voteNumber g_allValue g_allNumber m_allMany g_nodeL g_nodeR m_nodes g_part m_partMany g_wasMany g_wasLoss g_wasValue g_wasNumber g_path m_pathMany g_heavyValue g_heavyTimes m_heavyMany g_fewest g_which g_met o_12, kx_a g_which cyI 160 o_2, kx_a g_met cyI 160 o_13] H := hP
              have hD : va_D A [kx_a g_row cyI 160 f, kx_5 h0 g_row m_n m_slots 0 g_many g_loss g_less g_voteValue g_voteNumber g_allValue g_allNumber m_allMany g_nodeL g_nodeR m_nodes g_part m_partMany g_wasMany g_wasLoss g_wasValue g_wasNumber g_path m_pathMany g_heavyValue g_heavyTimes m_heavyMany g_fewest g_which g_met o_12, kx_a g_which cyI 160 o_2, kx_a g_met cyI 160 o_13] := hD
              have w_11 : ((r_11 = 1 ∧ mj_hm f i.toNatClampNeg ((j.toNatClampNeg - 1 - i.toNatClampNeg) + 1)) ∨ (r_11 = 0 ∧ ¬ mj_hm f i.toNatClampNeg ((j.toNatClampNeg - 1 - i.toNatClampNeg) + 1))) ∧ mj_tl f (fun k => (o_2 k).toNatClampNeg) o_13 m_n.toNatClampNeg i.toNatClampNeg ((j.toNatClampNeg - 1 - i.toNatClampNeg) + 1) o_12.toInt ∧ 0 ≤ o_12.toInt ∧ o_12.toInt ≤ (((j.toNatClampNeg - 1 - i.toNatClampNeg) : Nat) : Int) + 1 := w_11
              refine lv_if_eq (tgt := 49) hx hb dX5_majorities_43 (by decide) (fun c_14 => ?_) (fun c_14 => ?_)
              · have i_14 : r_11.toInt = 0 := kc_eq c_14
                obtain ⟨x_15, ex_15⟩ : ∃ y : Int32, y = j + 1 := ⟨_, rfl⟩
                have i_15 : x_15.toInt = j.toInt + 1 := ki_add ex_15 rfl rfl (by omega) (by omega)
                refine lv_iinc (v := x_15) (lv' := [(3, .int x_15), (2, .int i), (1, .int sm2), (0, .ref h0)]) hx hb dX5_majorities_49 hl (k := 0) rfl (by rw [ex_15]; rfl) (by decide) rfl (fun ls hl => ?_)
                refine lv_goto (tgt := 29) hx hb dX5_majorities_52 (by decide) ?_
                have hP : va_P (dC, dI) vwCl [kx_a g_row cyI 160 f, kx_a g_which cyI 160 o_2, kx_5 h0 g_row m_n m_slots 0 g_many g_loss g_less g_voteValue g_voteNumber g_allValue g_allNumber m_allMany g_nodeL g_nodeR m_nodes g_part m_partMany g_wasMany g_wasLoss g_wasValue g_wasNumber g_path m_pathMany g_heavyValue g_heavyTimes m_heavyMany g_fewest g_which g_met o_12, kx_a g_met cyI 160 o_13] _ := hP.sub [0, 2, 1, 3] rfl
                have hD : va_D A [kx_a g_row cyI 160 f, kx_a g_which cyI 160 o_2, kx_5 h0 g_row m_n m_slots 0 g_many g_loss g_less g_voteValue g_voteNumber g_allValue g_allNumber m_allMany g_nodeL g_nodeR m_nodes g_part m_partMany g_wasMany g_wasLoss g_wasValue g_wasNumber g_path m_pathMany g_heavyValue g_heavyTimes m_heavyMany g_fewest g_which g_met o_12, kx_a g_met cyI 160 o_13] := hD.sub [0, 2, 1, 3] (by decide) rfl
                have n_16 := ki_nat x_15 rfl (by omega)
                have q_m : mj_mc f i.toNatClampNeg (x_15.toNatClampNeg - 1 - i.toNatClampNeg) = mj_mc f i.toNatClampNeg (j.toNatClampNeg - 1 - i.toNatClampNeg) + mj_hN f i.toNatClampNeg (j.toNatClampNeg - 1 - i.toNatClampNeg + 1) := by rw [show x_15.toNatClampNeg - 1 - i.toNatClampNeg = j.toNatClampNeg - 1 - i.toNatClampNeg + 1 by omega]; rfl
                have q_h := mj_hN_no (by rcases w_11.1 with h | h; exact absurd (congrArg Int32.toInt h.1) (by have k1 : (1 : Int32).toInt = 1 := rfl; omega); exact h.2 : ¬ mj_hm f i.toNatClampNeg (j.toNatClampNeg - 1 - i.toNatClampNeg + 1))
                exact ih2 x_15 sm2 o_12 o_13 (by omega) (by omega) (by rw [q_m, q_h]; omega) (by rw [show x_15.toNatClampNeg - 1 - i.toNatClampNeg = j.toNatClampNeg - 1 - i.toNatClampNeg + 1 by omega]; exact w_11.2.1) (by omega) (by omega) (by omega) _ _ hP hD hS ls (lv_sub hl [0, 1, 2, 3] rfl)
              · have i_14 : ¬ r_11.toInt = 0 := kc_ne c_14
                obtain ⟨x_17, ex_17⟩ : ∃ y : Int32, y = sm2 + 1 := ⟨_, rfl⟩
                have i_17 : x_17.toInt = sm2.toInt + 1 := ki_add ex_17 rfl rfl (by omega) (by omega)
                refine lv_iinc (v := x_17) (lv' := [(1, .int x_17), (3, .int j), (2, .int i), (0, .ref h0)]) hx hb dX5_majorities_46 hl (k := 2) rfl (by rw [ex_17]; rfl) (by decide) rfl (fun ls hl => ?_)
                obtain ⟨x_18, ex_18⟩ : ∃ y : Int32, y = j + 1 := ⟨_, rfl⟩
                have i_18 : x_18.toInt = j.toInt + 1 := ki_add ex_18 rfl rfl (by omega) (by omega)
                refine lv_iinc (v := x_18) (lv' := [(3, .int x_18), (1, .int x_17), (2, .int i), (0, .ref h0)]) hx hb dX5_majorities_49 hl (k := 1) rfl (by rw [ex_18]; rfl) (by decide) rfl (fun ls hl => ?_)
                refine lv_goto (tgt := 29) hx hb dX5_majorities_52 (by decide) ?_
                have hP : va_P (dC, dI) vwCl [kx_a g_row cyI 160 f, kx_a g_which cyI 160 o_2, kx_5 h0 g_row m_n m_slots 0 g_many g_loss g_less g_voteValue g_voteNumber g_allValue g_allNumber m_allMany g_nodeL g_nodeR m_nodes g_part m_partMany g_wasMany g_wasLoss g_wasValue g_wasNumber g_path m_pathMany g_heavyValue g_heavyTimes m_heavyMany g_fewest g_which g_met o_12, kx_a g_met cyI 160 o_13] _ := hP.sub [0, 2, 1, 3] rfl
                have hD : va_D A [kx_a g_row cyI 160 f, kx_a g_which cyI 160 o_2, kx_5 h0 g_row m_n m_slots 0 g_many g_loss g_less g_voteValue g_voteNumber g_allValue g_allNumber m_allMany g_nodeL g_nodeR m_nodes g_part m_partMany g_wasMany g_wasLoss g_wasValue g_wasNumber g_path m_pathMany g_heavyValue g_heavyTimes m_heavyMany g_fewest g_which g_met o_12, kx_a g_met cyI 160 o_13] := hD.sub [0, 2, 1, 3] (by decide) rfl
                have n_19 := ki_nat x_18 rfl (by omega)
                have q_m : mj_mc f i.toNatClampNeg (x_18.toNatClampNeg - 1 - i.toNatClampNeg) = mj_mc f i.toNatClampNeg (j.toNatClampNeg - 1 - i.toNatClampNeg) + mj_hN f i.toNatClampNeg (j.toNatClampNeg - 1 - i.toNatClampNeg + 1) := by rw [show x_18.toNatClampNeg - 1 - i.toNatClampNeg = j.toNatClampNeg - 1 - i.toNatClampNeg + 1 by omega]; rfl
                have q_h := mj_hN_yes (by rcases w_11.1 with h | h; exact h.2; exact absurd (congrArg Int32.toInt h.1) (by have k1 : (0 : Int32).toInt = 0 := rfl; omega) : mj_hm f i.toNatClampNeg (j.toNatClampNeg - 1 - i.toNatClampNeg + 1))
                exact ih2 x_18 x_17 o_12 o_13 (by omega) (by omega) (by rw [q_m, q_h]; omega) (by rw [show x_18.toNatClampNeg - 1 - i.toNatClampNeg = j.toNatClampNeg - 1 - i.toNatClampNeg + 1 by omega]; exact w_11.2.1) (by omega) (by omega) (by omega) _ _ hP hD hS ls (lv_sub hl [0, 2, 1, 3] rfl)
        have k_20 : (0 : Int32).toInt = 0 := rfl
        exact LP2 ((m_n.toInt + 1 - y_7.toInt : Int).toNat + 1) y_7 sm 0 o_6 (by omega) (by omega) (by rw [show y_7.toNatClampNeg - 1 - i.toNatClampNeg = 0 by omega]; show _ = _ + ((0 : Nat) : Int); omega) (mj_tl_0 _ _ _ _ (by omega) (fun k hk => w_5 _ (by have := w_1.1.1 k hk; have := ki_nat _ rfl this.1; have := w_1.2; omega))) (by omega) (by omega) (Nat.lt_succ_self _) _ _ hP hD hS ls (lv_sub hl [0, 1, 2, 3] rfl)
  have k_21 : (0 : Int32).toInt = 0 := rfl
  have k_22 : (0 : Int32).toInt = 0 := rfl
  exact LP1 ((m_n.toInt - 0 : Int).toNat + 1) 0 0 m_mostMet fq (by omega) (by omega) rfl (Nat.lt_succ_self _) _ _ hP hD hS ls (lv_sub hl [0, 1, 2] rfl)


