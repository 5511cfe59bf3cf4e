set_option maxHeartbeats 4000000 in
set_option maxRecDepth 100000 in
theorem c_X4_parts_x (l : Launch) (dC : Nat → ClassId) (dI : Nat → Nat → Nat) (m_ : Nat) (q_row : Nat) (q_t : Nat) (t_ : Nat) (h0 : Nat) (k0 : Nat) (w_ : Nat) (z_ : Nat) (slots : Int32) (old : Int32) (q_joined : Nat) (q_from : Nat) (q_to : Nat) (q_size : Nat) (q_lossOf : Nat) (q_lessBy : Nat) (q_value : Nat) (q_number : Nat) (nodes : Int32) (here : Int32) (q_cell : Nat) (cyI : ClassId) (len : Int32) (f : Nat → Int32) (ff : Nat → Int32) (ft : Nat → Int32) (fs : Nat → Int32) (fo : Nat → Int32) (uv : Nat → Int32) (un : Nat → Int32) (fe : Nat → Int32) (j_v : Nat) (j_n : Nat) (js : Int32) (jl : Int32) (je : Int32) (jv : Nat → Int32) (jn : Nat → Int32) (p0 : Int32) (p1 : Int32) (sz : Nat) (a0 : 0 ≤ len.toInt) (a1 : len.toInt ≤ 160) (s0 : sixes fs) (sl0 : 1 ≤ slots.toInt) (sl1 : slots.toInt ≤ 6) (l0 : laidX old slots here f ff ft fs fo fe uv un nodes len) : kx_MQ l (dC, dI) yX4_parts wsX4_parts ({ frames := 6, cells := 0, slots := 0, locals := 270 }) [.ref m_, .int p0, .int p1] [kx_4 m_ q_row q_t t_ h0 k0 w_ z_ slots old, kx_2 q_t q_row q_joined q_from q_to q_size q_lossOf q_lessBy q_value q_number nodes here, kx_0 q_row q_cell len, kx_a q_cell cyI 160 f, kx_a q_from cyI 319 ff, kx_a q_to cyI 319 ft, kx_a q_size cyI 319 fs, kx_a q_lossOf cyI 319 fo, kx_a q_lessBy cyI 319 fe, kx_a q_value cyI 1914 uv, kx_a q_number cyI 1914 un, kx_3 q_joined j_v j_n js jl je, kx_a j_v cyI 12 jv, kx_a j_n cyI 12 jn] [(cyI, .int)] sz (fun A => va_Qi (fun (r : Int32) (u : Int32 × Int32 × Int32 × (Nat → Int32) × (Nat → Int32) × (Nat → Int32) × (Nat → Int32) × (Nat → Int32) × (Nat → Int32) × (Nat → Int32) × Int32 × Int32 × Int32 × (Nat → Int32) × (Nat → Int32)) => (((0 ≤ p0.toInt ∧ p0.toInt < p1.toInt ∧ p1.toInt ≤ len.toInt) ∧ u.1.toInt = 0 ∧ r.toInt = (mj_pq u.2.2.2.1 u.2.2.2.2.1 p0.toInt p1.toInt u.2.1.toNatClampNeg : Int)) ∨ ((p0.toInt < 0 ∨ p1.toInt ≤ p0.toInt ∨ len.toInt < p1.toInt) ∧ r = -1)) ∧ laidX u.1 slots u.2.2.1 f u.2.2.2.1 u.2.2.2.2.1 u.2.2.2.2.2.1 u.2.2.2.2.2.2.1 u.2.2.2.2.2.2.2.1 u.2.2.2.2.2.2.2.2.1 u.2.2.2.2.2.2.2.2.2.1 u.2.1 len ∧ sixes u.2.2.2.2.2.1) (fun (u : Int32 × Int32 × Int32 × (Nat → Int32) × (Nat → Int32) × (Nat → Int32) × (Nat → Int32) × (Nat → Int32) × (Nat → Int32) × (Nat → Int32) × Int32 × Int32 × Int32 × (Nat → Int32) × (Nat → Int32)) (t : State) => va_P (dC, dI) vwCl [kx_4 m_ q_row q_t t_ h0 k0 w_ z_ slots u.1, kx_2 q_t q_row q_joined q_from q_to q_size q_lossOf q_lessBy q_value q_number u.2.1 u.2.2.1, kx_0 q_row q_cell len, kx_a q_cell cyI 160 f, kx_a q_from cyI 319 u.2.2.2.1, kx_a q_to cyI 319 u.2.2.2.2.1, kx_a q_size cyI 319 u.2.2.2.2.2.1, kx_a q_lossOf cyI 319 u.2.2.2.2.2.2.1, kx_a q_lessBy cyI 319 u.2.2.2.2.2.2.2.1, kx_a q_value cyI 1914 u.2.2.2.2.2.2.2.2.1, kx_a q_number cyI 1914 u.2.2.2.2.2.2.2.2.2.1, kx_3 q_joined j_v j_n u.2.2.2.2.2.2.2.2.2.2.1 u.2.2.2.2.2.2.2.2.2.2.2.1 u.2.2.2.2.2.2.2.2.2.2.2.2.1, kx_a j_v cyI 12 u.2.2.2.2.2.2.2.2.2.2.2.2.2.1, kx_a j_n cyI 12 u.2.2.2.2.2.2.2.2.2.2.2.2.2.2] t.heap ∧ va_K (dC, dI) vwCl [(cyI, .int)] t ∧ va_D A [kx_4 m_ q_row q_t t_ h0 k0 w_ z_ slots u.1, kx_2 q_t q_row q_joined q_from q_to q_size q_lossOf q_lessBy q_value q_number u.2.1 u.2.2.1, kx_0 q_row q_cell len, kx_a q_cell cyI 160 f, kx_a q_from cyI 319 u.2.2.2.1, kx_a q_to cyI 319 u.2.2.2.2.1, kx_a q_size cyI 319 u.2.2.2.2.2.1, kx_a q_lossOf cyI 319 u.2.2.2.2.2.2.1, kx_a q_lessBy cyI 319 u.2.2.2.2.2.2.2.1, kx_a q_value cyI 1914 u.2.2.2.2.2.2.2.2.1, kx_a q_number cyI 1914 u.2.2.2.2.2.2.2.2.2.1, kx_3 q_joined j_v j_n u.2.2.2.2.2.2.2.2.2.2.1 u.2.2.2.2.2.2.2.2.2.2.2.1 u.2.2.2.2.2.2.2.2.2.2.2.2.1, kx_a j_v cyI 12 u.2.2.2.2.2.2.2.2.2.2.2.2.2.1, kx_a j_n cyI 12 u.2.2.2.2.2.2.2.2.2.2.2.2.2.2]) A) := by
  refine kx_stQ (ws := wsX4_parts) (cc := cX4_parts) (maxL := 7) (ret := (some .int)) (by decide) rfl (Nat.le_of_ble_eq_true rfl) ?_
  intro p e s m below meth c A ls hx hb hr hlocks hts hown hml hA hS hP hK hD hl
  have hown : s.vm.findClass RX4 = some m.cls := hown
  have hl : lv_has ls 7 [(0, .ref m_), (1, .int p0), (2, .int p1)] := hl
  have hf_12 := hts (.fieldLink RX4 12 "MajorityIndex" "row" "LMajorityIndex$Row;") (List.mem_of_getElem? (i := 1) rfl)
  have hi_4 : ∀ w ∈ u_ws RX4 TX4 9, w ∈ wsX4_parts := fun w h => List.mem_cons_of_mem _ (List.mem_append_left _ (List.mem_append_left _ (List.mem_append_left _ (List.mem_append_right _ h))))
  have hf_163 := hts (.fieldLink RX4 163 "MajorityIndex$Tree" "nodes" "I") (List.mem_of_getElem? (i := 2) rfl)
  have hi_2 : ∀ w ∈ u_ws RX2 TX2 11, w ∈ wsX4_parts := fun w h => List.mem_cons_of_mem _ (List.mem_append_left _ (List.mem_append_left _ (List.mem_append_right _ h)))
  have hf_154 := hts (.fieldLink RX4 154 "MajorityIndex$Tree" "to" "[I") (List.mem_of_getElem? (i := 3) rfl)
  refine lv_aload_n hx hb dX4_parts_0 rfl (lv_at hl 0 rfl) ?_
  refine va_get (D := (dC, dI)) (ci := 4) (v := .ref q_row) (C := RX4) (T := TX4) (N := 9) hx hb hts hi_4 hown hK hP 0 rfl rfl 0 (by decide) hf_12 (fun _ h9 => h9) rfl dX4_parts_1 ?_
  refine lv_iload_n hx hb dX4_parts_4 rfl (lv_at hl 1 rfl) ?_
  refine lv_iload_n hx hb dX4_parts_5 rfl (lv_at hl 2 rfl) ?_
  have hPc := hP.sub (ws' := [kx_0 q_row q_cell len]) [2] rfl
  have hKc := hK.sub (tys' := []) [] rfl
  refine vp_callSi (W.runV (As := [.int p0, .int p1]) (rest := []) ⟨hx, hb, hml, hown, hts⟩ (c_X0_hasRange l dC dI q_row q_cell len p0 p1) (cwV 2 hts gX4_parts_X0_hasRange rfl rfl rfl (by decide +kernel) ⟨Nat.le_of_ble_eq_true rfl, Nat.le_of_ble_eq_true rfl⟩) ⟨fun a U g mk q => by obtain ⟨q0, qP, qK⟩ := q; exact ⟨q0, qP, va_K.moved (u := U) (U := U.calling g mk a) (Vm.Alike.refl U.vm) qK⟩, kx_rc0 hKc hPc (q0 := 0) rfl, fun U hU hW => ⟨rfl, by rw [hU]; exact hPc, va_K.moved hW.alike hKc⟩⟩ rfl rfl hl.1 rfl (lv_room (Nat.le_of_ble_eq_true rfl)) dX4_parts_6 ⟨Nat.le_of_ble_eq_true rfl, Nat.le_of_ble_eq_true rfl⟩) (fun r_1 w_1 => ?_)
  rcases w_1 with ⟨rfl, w_1⟩ | ⟨rfl, w_1⟩
  · have w_1 : (0 ≤ p0.toInt ∧ p0.toInt < p1.toInt ∧ p1.toInt ≤ len.toInt) := w_1
    refine lv_if_ne (tgt := 14) hx hb dX4_parts_9 (by decide) (fun c_2 => ?_) (fun c_2 => ?_)
    · refine lv_aload_n hx hb dX4_parts_14 rfl (lv_at hl 0 rfl) ?_
      have hPc := hP
      have hKc := hK
      have hDc := hD
      have hFc := kx_free hD hS hA
      refine va_callr (va_runV (As := []) (rest := []) ⟨hx, hb, hml, hown, hts⟩ (kx_un (c_X4_laidTree_x l dC dI m_ q_row q_t t_ h0 k0 w_ z_ slots old q_joined q_from q_to q_size q_lossOf q_lessBy q_value q_number nodes here q_cell cyI len f ff ft fs fo uv un fe j_v j_n js jl je jv jn s.heap.size a0 a1 s0 sl0 sl1 l0)) (cwV 0 hts gX4_parts_X4_laidTree rfl rfl rfl (by decide +kernel) ⟨Nat.le_of_ble_eq_true rfl, Nat.le_of_ble_eq_true rfl⟩) ⟨fun a U g mk q => by obtain ⟨q0, q1, qP, qK, qD⟩ := q; exact ⟨q0, q1, qP, va_K.moved (u := U) (U := U.calling g mk a) (Vm.Alike.refl U.vm) qK, qD⟩, kx_rc4 hKc hPc (q0 := 0) rfl, fun U hU hW => ⟨rfl, by rw [hU], by rw [hU]; exact hPc, va_K.moved hW.alike hKc, hDc.weaken (fun _ _ _ _ => trivial)⟩⟩ rfl rfl hl.1 rfl (lv_room (Nat.le_of_ble_eq_true rfl)) dX4_parts_15 ⟨Nat.le_of_ble_eq_true rfl, Nat.le_of_ble_eq_true rfl⟩) hS (fun q _ h => hFc q h) hFc (fun u ra t H1 locs ht hvm w_3 hB hz1 hk1 hS => ?_)
      obtain ⟨o_4, o_5, o_6, o_7, o_8, o_9, o_10, o_11, o_12, o_13, o_14, o_15, o_16, o_17, o_18⟩ := u
      dsimp only at w_3 hB
      obtain ⟨er, hP1, hK1, hD1⟩ := hB
      rw [ht] at hP1
      have hK1 := va_K.moved hvm.symm hK1
      have hD := hD1.weaken (fun _ q _ h => hFc q.1 h)
      have hP := hP1
      clear hP1 hD1 hK1 hk1 hz1 hFc hDc hPc hKc
      generalize H1 = H at hP hS ⊢
      have w_3 : o_4.toInt = 0 ∧ o_6 = slots ∧ sixes o_9 ∧ mj_C slots.toNatClampNeg f o_7 o_8 o_9 o_10 o_11 o_12 o_13 o_5.toInt len.toInt ∧ 0 ≤ o_5.toInt ∧ o_5.toInt ≤ 319 ∧ treeOk o_7 o_8 o_5.toInt len.toInt := w_3
      rw [er]
      have i_hs := congrArg Int32.toInt w_3.2.1
      refine lv_astore_n (lv' := [(3, .ref q_t), (0, .ref m_), (1, .int p0), (2, .int p1)]) hx hb dX4_parts_18 rfl hl (by decide) rfl (fun ls hl => ?_)
      refine lv_iconst (v := 0) hx hb dX4_parts_19 (by decide) ?_
      refine lv_istore (lv' := [(4, .int 0), (3, .ref q_t), (0, .ref m_), (1, .int p0), (2, .int p1)]) hx hb dX4_parts_20 hl (by decide) rfl (fun ls hl => ?_)
      refine lv_iload_n hx hb dX4_parts_22 rfl (lv_at hl 3 rfl) ?_
      refine lv_istore (lv' := [(5, .int p0), (4, .int 0), (3, .ref q_t), (0, .ref m_), (1, .int p0), (2, .int p1)]) hx hb dX4_parts_23 hl (by decide) rfl (fun ls hl => ?_)
      refine lv_iconst (v := 0) hx hb dX4_parts_25 (by decide) ?_
      refine lv_istore (lv' := [(6, .int 0), (5, .int p0), (4, .int 0), (3, .ref q_t), (0, .ref m_), (1, .int p0), (2, .int p1)]) hx hb dX4_parts_26 hl (by decide) rfl (fun ls hl => ?_)
      have LP1 : ∀ (n : Nat) (i : Int32) (many : Int32) (nxt : Int32), (0 ≤ i.toInt) → (i.toInt ≤ o_5.toInt) → (nxt.toInt = mj_pb o_7 o_8 p0.toInt p1.toInt i.toNatClampNeg) → (many.toInt = (mj_pq o_7 o_8 p0.toInt p1.toInt i.toNatClampNeg : Int)) → (o_5.toInt - i.toInt).toNat < n → ∀ (H : Heap) (locs : List Loc), va_P (dC, dI) vwCl [kx_4 m_ q_row q_t t_ h0 k0 w_ z_ slots o_4, kx_2 q_t q_row q_joined q_from q_to q_size q_lossOf q_lessBy q_value q_number o_5 o_6, kx_0 q_row q_cell len, kx_a q_cell cyI 160 f, kx_a q_from cyI 319 o_7, kx_a q_to cyI 319 o_8, kx_a q_size cyI 319 o_9, kx_a q_lossOf cyI 319 o_10, kx_a q_lessBy cyI 319 o_11, kx_a q_value cyI 1914 o_12, kx_a q_number cyI 1914 o_13, kx_3 q_joined j_v j_n o_14 o_15 o_16, kx_a j_v cyI 12 o_17, kx_a j_n cyI 12 o_18] H → va_D A [kx_4 m_ q_row q_t t_ h0 k0 w_ z_ slots o_4, kx_2 q_t q_row q_joined q_from q_to q_size q_lossOf q_lessBy q_value q_number o_5 o_6, kx_0 q_row q_cell len, kx_a q_cell cyI 160 f, kx_a q_from cyI 319 o_7, kx_a q_to cyI 319 o_8, kx_a q_size cyI 319 o_9, kx_a q_lossOf cyI 319 o_10, kx_a q_lessBy cyI 319 o_11, kx_a q_value cyI 1914 o_12, kx_a q_number cyI 1914 o_13, kx_3 q_joined j_v j_n o_14 o_15 o_16, kx_a j_v cyI 12 o_17, kx_a j_n cyI 12 o_18] → va_S A s.heap H locs → ∀ (ls : Array Slot), lv_has ls 7 [(6, .int i), (5, .int nxt), (4, .int many), (3, .ref q_t), (0, .ref m_), (1, .int p0), (2, .int p1)] → W p l e (headSpec wsX4_parts ({ frames := 6, cells := 0, slots := 0, locals := 270 })).room s m ([.ref m_, .int p0, .int p1] : List Value).toArray below meth c H locs 0 0 (MQ below (va_Qi (fun (r : Int32) (u : Int32 × Int32 × Int32 × (Nat → Int32) × (Nat → Int32) × (Nat → Int32) × (Nat → Int32) × (Nat → Int32) × (Nat → Int32) × (Nat → Int32) × Int32 × Int32 × Int32 × (Nat → Int32) × (Nat → Int32)) => (((0 ≤ p0.toInt ∧ p0.toInt < p1.toInt ∧ p1.toInt ≤ len.toInt) ∧ u.1.toInt = 0 ∧ r.toInt = (mj_pq u.2.2.2.1 u.2.2.2.2.1 p0.toInt p1.toInt u.2.1.toNatClampNeg : Int)) ∨ ((p0.toInt < 0 ∨ p1.toInt ≤ p0.toInt ∨ len.toInt < p1.toInt) ∧ r = -1)) ∧ laidX u.1 slots u.2.2.1 f u.2.2.2.1 u.2.2.2.2.1 u.2.2.2.2.2.1 u.2.2.2.2.2.2.1 u.2.2.2.2.2.2.2.1 u.2.2.2.2.2.2.2.2.1 u.2.2.2.2.2.2.2.2.2.1 u.2.1 len ∧ sixes u.2.2.2.2.2.1) (fun (u : Int32 × Int32 × Int32 × (Nat → Int32) × (Nat → Int32) × (Nat → Int32) × (Nat → Int32) × (Nat → Int32) × (Nat → Int32) × (Nat → Int32) × Int32 × Int32 × Int32 × (Nat → Int32) × (Nat → Int32)) (t : State) => va_P (dC, dI) vwCl [kx_4 m_ q_row q_t t_ h0 k0 w_ z_ slots u.1, kx_2 q_t q_row q_joined q_from q_to q_size q_lossOf q_lessBy q_value q_number u.2.1 u.2.2.1, kx_0 q_row q_cell len, kx_a q_cell cyI 160 f, kx_a q_from cyI 319 u.2.2.2.1, kx_a q_to cyI 319 u.2.2.2.2.1, kx_a q_size cyI 319 u.2.2.2.2.2.1, kx_a q_lossOf cyI 319 u.2.2.2.2.2.2.1, kx_a q_lessBy cyI 319 u.2.2.2.2.2.2.2.1, kx_a q_value cyI 1914 u.2.2.2.2.2.2.2.2.1, kx_a q_number cyI 1914 u.2.2.2.2.2.2.2.2.2.1, kx_3 q_joined j_v j_n u.2.2.2.2.2.2.2.2.2.2.1 u.2.2.2.2.2.2.2.2.2.2.2.1 u.2.2.2.2.2.2.2.2.2.2.2.2.1, kx_a j_v cyI 12 u.2.2.2.2.2.2.2.2.2.2.2.2.2.1, kx_a j_n cyI 12 u.2.2.2.2.2.2.2.2.2.2.2.2.2.2] t.heap ∧ va_K (dC, dI) vwCl [(cyI, .int)] t ∧ va_D A [kx_4 m_ q_row q_t t_ h0 k0 w_ z_ slots u.1, kx_2 q_t q_row q_joined q_from q_to q_size q_lossOf q_lessBy q_value q_number u.2.1 u.2.2.1, kx_0 q_row q_cell len, kx_a q_cell cyI 160 f, kx_a q_from cyI 319 u.2.2.2.1, kx_a q_to cyI 319 u.2.2.2.2.1, kx_a q_size cyI 319 u.2.2.2.2.2.1, kx_a q_lossOf cyI 319 u.2.2.2.2.2.2.1, kx_a q_lessBy cyI 319 u.2.2.2.2.2.2.2.1, kx_a q_value cyI 1914 u.2.2.2.2.2.2.2.2.1, kx_a q_number cyI 1914 u.2.2.2.2.2.2.2.2.2.1, kx_3 q_joined j_v j_n u.2.2.2.2.2.2.2.2.2.2.1 u.2.2.2.2.2.2.2.2.2.2.2.1 u.2.2.2.2.2.2.2.2.2.2.2.2.1, kx_a j_v cyI 12 u.2.2.2.2.2.2.2.2.2.2.2.2.2.1, kx_a j_n cyI 12 u.2.2.2.2.2.2.2.2.2.2.2.2.2.2]) A) ([.ref m_, .int p0, .int p1] : List Value).toArray s 0 0 A) (F0 m 28 ls []) := by
        intro n
        induction n with
        | zero => intro i many nxt LP1_h0 LP1_h1 LP1_h2 LP1_h3 hn; exact absurd hn (Nat.not_lt_zero _)
        | succ n ih1 =>
          intro i many nxt LP1_h0 LP1_h1 LP1_h2 LP1_h3 hn1 H locs hP hD hS ls hl
          have n_i := ki_nat i rfl (om_10 LP1_h0)
          have hle := mj_pq_le o_7 o_8 p0.toInt p1.toInt i.toNatClampNeg
          refine lv_iload hx hb dX4_parts_28 (lv_at hl 0 rfl) ?_
          refine lv_aload_n hx hb dX4_parts_30 rfl (lv_at hl 3 rfl) ?_
          refine va_get (D := (dC, dI)) (ci := 2) (v := .int o_5) (C := RX2) (T := TX2) (N := 11) hx hb hts hi_2 hown hK hP 1 rfl rfl 9 (by decide) hf_163 (fun _ h9 => h9) rfl dX4_parts_31 ?_
          refine lv_icmp_ge (tgt := 67) hx hb dX4_parts_34 (by decide) (fun c_19 => ?_) (fun c_19 => ?_)
          · have i_19 : o_5.toInt ≤ i.toInt := kc_le c_19
            refine lv_iload hx hb dX4_parts_67 (lv_at hl 2 rfl) ?_
            have hP9 := hP
            have hD9 := hD
            have hK9 := hK
            have n_nd := ki_nat o_5 rfl (om_10 w_3.2.2.2.2.1)
            exact W.iret (v := many) hx hb hr (hlocks := hlocks) (fun t ht hW => ⟨⟨many, (o_4, o_5, o_6, o_7, o_8, o_9, o_10, o_11, o_12, o_13, o_14, o_15, o_16, o_17, o_18), rfl, ⟨Or.inl ⟨(by (try dsimp only); omega), w_3.1, (by (try dsimp only); rw [LP1_h3, show i.toNatClampNeg = o_5.toNatClampNeg by omega])⟩, (fun _ => ⟨w_3.2.1, w_3.2.2.2.1⟩), w_3.2.2.1⟩, by rw [ht]; exact hP9, va_K.moved hW.alike hK9, hD9⟩, hS.F ht⟩) hS.2.2 dX4_parts_69
          · have i_19 : i.toInt < o_5.toInt := kc_nle c_19
            refine lv_aload_n hx hb dX4_parts_37 rfl (lv_at hl 3 rfl) ?_
            refine lv_iload hx hb dX4_parts_38 (lv_at hl 0 rfl) ?_
            refine lv_iload hx hb dX4_parts_40 (lv_at hl 1 rfl) ?_
            refine lv_iload_n hx hb dX4_parts_42 rfl (lv_at hl 6 rfl) ?_
            have hPc := hP.sub (ws' := [kx_2 q_t q_row q_joined q_from q_to q_size q_lossOf q_lessBy q_value q_number o_5 o_6, kx_a q_from cyI 319 o_7, kx_a q_to cyI 319 o_8]) [1, 4, 5] rfl
            have hKc := hK
            refine vp_callSi (W.runV (As := [.int i, .int nxt, .int p1]) (rest := []) ⟨hx, hb, hml, hown, hts⟩ (c_X2_isPart l dC dI q_t q_row q_joined q_from q_to q_size q_lossOf q_lessBy q_value q_number o_5 o_6 cyI o_7 o_8 i nxt p1 LP1_h0 (om_122 w_3.2.2.2.2.2.1 i_19)) (cwV 3 hts gX4_parts_X2_isPart rfl rfl rfl (by decide +kernel) ⟨Nat.le_of_ble_eq_true rfl, Nat.le_of_ble_eq_true rfl⟩) ⟨fun a U g mk q => by obtain ⟨q0, qP, qK⟩ := q; exact ⟨q0, qP, va_K.moved (u := U) (U := U.calling g mk a) (Vm.Alike.refl U.vm) qK⟩, kx_rc2 hKc hPc (q0 := 0) rfl, fun U hU hW => ⟨rfl, by rw [hU]; exact hPc, va_K.moved hW.alike hKc⟩⟩ rfl rfl hl.1 rfl (lv_room (Nat.le_of_ble_eq_true rfl)) dX4_parts_43 ⟨Nat.le_of_ble_eq_true rfl, Nat.le_of_ble_eq_true rfl⟩) (fun r_20 w_20 => ?_)
            rcases w_20 with ⟨rfl, w_20⟩ | ⟨rfl, w_20⟩
            · have w_20 : ((o_7 i.toNatClampNeg).toInt = nxt.toInt ∧ (o_8 i.toNatClampNeg).toInt ≤ p1.toInt) := w_20
              refine lv_if_eq (tgt := 61) hx hb dX4_parts_46 (by decide) (fun c_21 => ?_) (fun c_21 => ?_)
              · exact absurd c_21 (by decide)
              · refine lv_aload_n hx hb dX4_parts_49 rfl (lv_at hl 3 rfl) ?_
                refine va_get (D := (dC, dI)) (ci := 2) (v := .ref q_to) (C := RX2) (T := TX2) (N := 11) hx hb hts hi_2 hown hK hP 1 rfl rfl 3 (by decide) hf_154 (fun _ h9 => h9) rfl dX4_parts_50 ?_
                refine lv_iload hx hb dX4_parts_53 (lv_at hl 0 rfl) ?_
                refine va_iald hx hb hK hP 5 0 rfl rfl (ki_in (om_10 LP1_h0) (om_115 w_3.2.2.2.2.2.1 i_19)) dX4_parts_55 ?_
                refine lv_topi (fun y_22 ey_22 => ?_)
                have j_22 : y_22.toInt = (o_8 i.toNatClampNeg).toInt := congrArg Int32.toInt ey_22
                refine lv_istore (lv' := [(5, .int y_22), (6, .int i), (4, .int many), (3, .ref q_t), (0, .ref m_), (1, .int p0), (2, .int p1)]) hx hb dX4_parts_56 hl (by decide) rfl (fun ls hl => ?_)
                obtain ⟨x_23, ex_23⟩ : ∃ y : Int32, y = many + 1 := ⟨_, rfl⟩
                have i_23 : x_23.toInt = many.toInt + 1 := ki_add ex_23 rfl rfl (by omega) (by omega)
                refine lv_iinc (v := x_23) (lv' := [(4, .int x_23), (5, .int y_22), (6, .int i), (3, .ref q_t), (0, .ref m_), (1, .int p0), (2, .int p1)]) hx hb dX4_parts_58 hl (k := 2) rfl (by rw [ex_23]; rfl) (by decide) rfl (fun ls hl => ?_)
                obtain ⟨x_24, ex_24⟩ : ∃ y : Int32, y = i + 1 := ⟨_, rfl⟩
                have i_24 : x_24.toInt = i.toInt + 1 := ki_add ex_24 rfl rfl (om_13 LP1_h0) (om_370 w_3.2.2.2.2.2.1 LP1_h1)
                refine lv_iinc (v := x_24) (lv' := [(6, .int x_24), (4, .int x_23), (5, .int y_22), (3, .ref q_t), (0, .ref m_), (1, .int p0), (2, .int p1)]) hx hb dX4_parts_61 hl (k := 2) rfl (by rw [ex_24]; rfl) (by decide) rfl (fun ls hl => ?_)
                refine lv_goto (tgt := 28) hx hb dX4_parts_64 (by decide) ?_
                have n_25 := ki_nat x_24 rfl (om_34 LP1_h0 i_24)
                have st2 := mj_pbq_yes (nl := o_7) (nr := o_8) (l := p0.toInt) (r := p1.toInt) (k := i.toNatClampNeg) (k2 := x_24.toNatClampNeg) (by unfold mj_isp; omega) (by omega)
                exact ih1 x_24 x_23 y_22 (om_34 LP1_h0 i_24) (om_54 i_19 i_24) (by rw [st2.1]; omega) (by rw [st2.2]; omega) (om_mu hn1 (om_5 i_24) (om_6 i_19)) _ _ hP hD hS ls (lv_sub hl [0, 2, 1, 3, 4, 5, 6] rfl)
            · have w_20 : (¬ (o_7 i.toNatClampNeg).toInt = nxt.toInt ∨ p1.toInt < (o_8 i.toNatClampNeg).toInt) := w_20
              refine lv_if_eq (tgt := 61) hx hb dX4_parts_46 (by decide) (fun c_26 => ?_) (fun c_26 => ?_)
              · obtain ⟨x_27, ex_27⟩ : ∃ y : Int32, y = i + 1 := ⟨_, rfl⟩
                have i_27 : x_27.toInt = i.toInt + 1 := ki_add ex_27 rfl rfl (om_13 LP1_h0) (om_370 w_3.2.2.2.2.2.1 LP1_h1)
                refine lv_iinc (v := x_27) (lv' := [(6, .int x_27), (5, .int nxt), (4, .int many), (3, .ref q_t), (0, .ref m_), (1, .int p0), (2, .int p1)]) hx hb dX4_parts_61 hl (k := 0) rfl (by rw [ex_27]; rfl) (by decide) rfl (fun ls hl => ?_)
                refine lv_goto (tgt := 28) hx hb dX4_parts_64 (by decide) ?_
                have n_28 := ki_nat x_27 rfl (om_34 LP1_h0 i_27)
                have st2 := mj_pbq_no (nl := o_7) (nr := o_8) (l := p0.toInt) (r := p1.toInt) (k := i.toNatClampNeg) (k2 := x_27.toNatClampNeg) (fun h => by unfold mj_isp at h; omega) (by omega)
                exact ih1 x_27 many nxt (om_34 LP1_h0 i_27) (om_54 i_19 i_27) (by rw [st2.1]; omega) (by rw [st2.2]; omega) (om_mu hn1 (om_5 i_27) (om_6 i_19)) _ _ hP hD hS ls (lv_sub hl [0, 1, 2, 3, 4, 5, 6] rfl)
              · exact absurd c_26 (by decide)
      have k_29 : (0 : Int32).toInt = 0 := rfl
      have k_30 : (0 : Int32).toInt = 0 := rfl
      exact LP1 ((o_5.toInt - 0 : Int).toNat + 1) 0 0 p0 om_35 (om_10 w_3.2.2.2.2.1) rfl rfl (Nat.lt_succ_self _) _ _ hP hD hS ls (lv_sub hl [0, 1, 2, 3, 4, 5, 6] rfl)
    · exact absurd c_2 (by decide)
  · have w_1 : (p0.toInt < 0 ∨ p1.toInt ≤ p0.toInt ∨ len.toInt < p1.toInt) := w_1
    refine lv_if_ne (tgt := 14) hx hb dX4_parts_9 (by decide) (fun c_31 => ?_) (fun c_31 => ?_)
    · exact absurd c_31 (by decide)
    · refine lv_iconst (v := (-1)) hx hb dX4_parts_12 (by decide) ?_
      have hP9 := hP
      have hD9 := hD
      have hK9 := hK
      exact W.iret (v := (-1)) hx hb hr (hlocks := hlocks) (fun t ht hW => ⟨⟨(-1), (old, nodes, here, ff, ft, fs, fo, fe, uv, un, js, jl, je, jv, jn), rfl, ⟨Or.inr ⟨(by (try dsimp only); omega), rfl⟩, l0, s0⟩, by rw [ht]; exact hP9, va_K.moved hW.alike hK9, hD9⟩, hS.F ht⟩) hS.2.2 dX4_parts_13

set_option maxHeartbeats 4000000 in
set_option maxRecDepth 100000 in
theorem c_X4_part_x (l : Launch) (dC : Nat → ClassId) (dI : Nat → Nat → Nat) (m_ : Nat) (q_row : Nat) (q_t : Nat) (t_ : Nat) (h0 : Nat) (k0 : Nat) (w_ : Nat) (z_ : Nat) (slots : Int32) (old : Int32) (q_joined : Nat) (q_from : Nat) (q_to : Nat) (q_size : Nat) (q_lossOf : Nat) (q_lessBy : Nat) (q_value : Nat) (q_number : Nat) (nodes : Int32) (here : Int32) (q_cell : Nat) (cyI : ClassId) (len : Int32) (f : Nat → Int32) (ff : Nat → Int32) (ft : Nat → Int32) (fs : Nat → Int32) (fo : Nat → Int32) (uv : Nat → Int32) (un : Nat → Int32) (fe : Nat → Int32) (j_v : Nat) (j_n : Nat) (js : Int32) (jl : Int32) (je : Int32) (jv : Nat → Int32) (jn : Nat → Int32) (p0 : Int32) (p1 : Int32) (p2 : Int32) (p3 : Int32) (sz : Nat) (a0 : 0 ≤ len.toInt) (a1 : len.toInt ≤ 160) (s0 : sixes fs) (sl0 : 1 ≤ slots.toInt) (sl1 : slots.toInt ≤ 6) (l0 : laidX old slots here f ff ft fs fo fe uv un nodes len) : kx_MQ l (dC, dI) yX4_part wsX4_part ({ frames := 6, cells := 0, slots := 0, locals := 270 }) [.ref m_, .int p0, .int p1, .int p2, .int p3] [kx_4 m_ q_row q_t t_ h0 k0 w_ z_ slots old, kx_2 q_t q_row q_joined q_from q_to q_size q_lossOf q_lessBy q_value q_number nodes here, kx_0 q_row q_cell len, kx_a q_cell cyI 160 f, kx_a q_from cyI 319 ff, kx_a q_to cyI 319 ft, kx_a q_size cyI 319 fs, kx_a q_lossOf cyI 319 fo, kx_a q_lessBy cyI 319 fe, kx_a q_value cyI 1914 uv, kx_a q_number cyI 1914 un, kx_3 q_joined j_v j_n js jl je, kx_a j_v cyI 12 jv, kx_a j_n cyI 12 jn] [(cyI, .int)] sz (fun A => va_Qi (fun (r : Int32) (u : Int32 × Int32 × Int32 × (Nat → Int32) × (Nat → Int32) × (Nat → Int32) × (Nat → Int32) × (Nat → Int32) × (Nat → Int32) × (Nat → Int32) × Int32 × Int32 × Int32 × (Nat → Int32) × (Nat → Int32)) => laidX u.1 slots u.2.2.1 f u.2.2.2.1 u.2.2.2.2.1 u.2.2.2.2.2.1 u.2.2.2.2.2.2.1 u.2.2.2.2.2.2.2.1 u.2.2.2.2.2.2.2.2.1 u.2.2.2.2.2.2.2.2.2.1 u.2.1 len ∧ sixes u.2.2.2.2.2.1) (fun (u : Int32 × Int32 × Int32 × (Nat → Int32) × (Nat → Int32) × (Nat → Int32) × (Nat → Int32) × (Nat → Int32) × (Nat → Int32) × (Nat → Int32) × Int32 × Int32 × Int32 × (Nat → Int32) × (Nat → Int32)) (t : State) => va_P (dC, dI) vwCl [kx_4 m_ q_row q_t t_ h0 k0 w_ z_ slots u.1, kx_2 q_t q_row q_joined q_from q_to q_size q_lossOf q_lessBy q_value q_number u.2.1 u.2.2.1, kx_0 q_row q_cell len, kx_a q_cell cyI 160 f, kx_a q_from cyI 319 u.2.2.2.1, kx_a q_to cyI 319 u.2.2.2.2.1, kx_a q_size cyI 319 u.2.2.2.2.2.1, kx_a q_lossOf cyI 319 u.2.2.2.2.2.2.1, kx_a q_lessBy cyI 319 u.2.2.2.2.2.2.2.1, kx_a q_value cyI 1914 u.2.2.2.2.2.2.2.2.1, kx_a q_number cyI 1914 u.2.2.2.2.2.2.2.2.2.1, kx_3 q_joined j_v j_n u.2.2.2.2.2.2.2.2.2.2.1 u.2.2.2.2.2.2.2.2.2.2.2.1 u.2.2.2.2.2.2.2.2.2.2.2.2.1, kx_a j_v cyI 12 u.2.2.2.2.2.2.2.2.2.2.2.2.2.1, kx_a j_n cyI 12 u.2.2.2.2.2.2.2.2.2.2.2.2.2.2] t.heap ∧ va_K (dC, dI) vwCl [(cyI, .int)] t ∧ va_D A [kx_4 m_ q_row q_t t_ h0 k0 w_ z_ slots u.1, kx_2 q_t q_row q_joined q_from q_to q_size q_lossOf q_lessBy q_value q_number u.2.1 u.2.2.1, kx_0 q_row q_cell len, kx_a q_cell cyI 160 f, kx_a q_from cyI 319 u.2.2.2.1, kx_a q_to cyI 319 u.2.2.2.2.1, kx_a q_size cyI 319 u.2.2.2.2.2.1, kx_a q_lossOf cyI 319 u.2.2.2.2.2.2.1, kx_a q_lessBy cyI 319 u.2.2.2.2.2.2.2.1, kx_a q_value cyI 1914 u.2.2.2.2.2.2.2.2.1, kx_a q_number cyI 1914 u.2.2.2.2.2.2.2.2.2.1, kx_3 q_joined j_v j_n u.2.2.2.2.2.2.2.2.2.2.1 u.2.2.2.2.2.2.2.2.2.2.2.1 u.2.2.2.2.2.2.2.2.2.2.2.2.1, kx_a j_v cyI 12 u.2.2.2.2.2.2.2.2.2.2.2.2.2.1, kx_a j_n cyI 12 u.2.2.2.2.2.2.2.2.2.2.2.2.2.2]) A) := by
  refine kx_stQ (ws := wsX4_part) (cc := cX4_part) (maxL := 9) (ret := (some .int)) (by decide) rfl (Nat.le_of_ble_eq_true rfl) ?_
  intro p e s m below meth c A ls hx hb hr hlocks hts hown hml hA hS hP hK hD hl
  have hown : s.vm.findClass RX4 = some m.cls := hown
  have hl : lv_has ls 9 [(0, .ref m_), (1, .int p0), (2, .int p1), (3, .int p2), (4, .int p3)] := hl
  have hf_12 := hts (.fieldLink RX4 12 "MajorityIndex" "row" "LMajorityIndex$Row;") (List.mem_of_getElem? (i := 1) rfl)
  have hi_4 : ∀ w ∈ u_ws RX4 TX4 9, w ∈ wsX4_part := fun w h => List.mem_cons_of_mem _ (List.mem_append_left _ (List.mem_append_left _ (List.mem_append_left _ (List.mem_append_right _ h))))
  have hf_163 := hts (.fieldLink RX4 163 "MajorityIndex$Tree" "nodes" "I") (List.mem_of_getElem? (i := 2) rfl)
  have hi_2 : ∀ w ∈ u_ws RX2 TX2 11, w ∈ wsX4_part := fun w h => List.mem_cons_of_mem _ (List.mem_append_left _ (List.mem_append_left _ (List.mem_append_right _ h)))
  have hf_154 := hts (.fieldLink RX4 154 "MajorityIndex$Tree" "to" "[I") (List.mem_of_getElem? (i := 4) rfl)
  have hf_151 := hts (.fieldLink RX4 151 "MajorityIndex$Tree" "from" "[I") (List.mem_of_getElem? (i := 3) rfl)
  refine lv_aload_n hx hb dX4_part_0 rfl (lv_at hl 0 rfl) ?_
  refine va_get (D := (dC, dI)) (ci := 4) (v := .ref q_row) (C := RX4) (T := TX4) (N := 9) hx hb hts hi_4 hown hK hP 0 rfl rfl 0 (by decide) hf_12 (fun _ h9 => h9) rfl dX4_part_1 ?_
  refine lv_iload_n hx hb dX4_part_4 rfl (lv_at hl 1 rfl) ?_
  refine lv_iload_n hx hb dX4_part_5 rfl (lv_at hl 2 rfl) ?_
  have hPc := hP.sub (ws' := [kx_0 q_row q_cell len]) [2] rfl
  have hKc := hK.sub (tys' := []) [] rfl
  refine vp_callSi (W.runV (As := [.int p0, .int p1]) (rest := []) ⟨hx, hb, hml, hown, hts⟩ (c_X0_hasRange l dC dI q_row q_cell len p0 p1) (cwV 2 hts gX4_part_X0_hasRange rfl rfl rfl (by decide +kernel) ⟨Nat.le_of_ble_eq_true rfl, Nat.le_of_ble_eq_true rfl⟩) ⟨fun a U g mk q => by obtain ⟨q0, qP, qK⟩ := q; exact ⟨q0, qP, va_K.moved (u := U) (U := U.calling g mk a) (Vm.Alike.refl U.vm) qK⟩, kx_rc0 hKc hPc (q0 := 0) rfl, fun U hU hW => ⟨rfl, by rw [hU]; exact hPc, va_K.moved hW.alike hKc⟩⟩ rfl rfl hl.1 rfl (lv_room (Nat.le_of_ble_eq_true rfl)) dX4_part_6 ⟨Nat.le_of_ble_eq_true rfl, Nat.le_of_ble_eq_true rfl⟩) (fun r_1 w_1 => ?_)
  rcases w_1 with ⟨rfl, w_1⟩ | ⟨rfl, w_1⟩
  · have w_1 : (0 ≤ p0.toInt ∧ p0.toInt < p1.toInt ∧ p1.toInt ≤ len.toInt) := w_1
    refine lv_if_eq (tgt := 27) hx hb dX4_part_9 (by decide) (fun c_2 => ?_) (fun c_2 => ?_)
    · exact absurd c_2 (by decide)
    · refine lv_iload_n hx hb dX4_part_12 rfl (lv_at hl 3 rfl) ?_
      refine lv_if_lt (tgt := 27) hx hb dX4_part_13 (by decide) (fun c_3 => ?_) (fun c_3 => ?_)
      · have i_3 : p2.toInt < 0 := kc_lt c_3
        refine lv_iconst (v := (-1)) hx hb dX4_part_27 (by decide) ?_
        have hP9 := hP
        have hD9 := hD
        have hK9 := hK
        exact W.iret (v := (-1)) hx hb hr (hlocks := hlocks) (fun t ht hW => ⟨⟨(-1), (old, nodes, here, ff, ft, fs, fo, fe, uv, un, js, jl, je, jv, jn), rfl, ⟨l0, s0⟩, by rw [ht]; exact hP9, va_K.moved hW.alike hK9, hD9⟩, hS.F ht⟩) hS.2.2 dX4_part_28
      · have i_3 : 0 ≤ p2.toInt := kc_nlt c_3
        refine lv_iload hx hb dX4_part_16 (lv_at hl 4 rfl) ?_
        refine lv_if_lt (tgt := 27) hx hb dX4_part_18 (by decide) (fun c_4 => ?_) (fun c_4 => ?_)
        · have i_4 : p3.toInt < 0 := kc_lt c_4
          refine lv_iconst (v := (-1)) hx hb dX4_part_27 (by decide) ?_
          have hP9 := hP
          have hD9 := hD
          have hK9 := hK
          exact W.iret (v := (-1)) hx hb hr (hlocks := hlocks) (fun t ht hW => ⟨⟨(-1), (old, nodes, here, ff, ft, fs, fo, fe, uv, un, js, jl, je, jv, jn), rfl, ⟨l0, s0⟩, by rw [ht]; exact hP9, va_K.moved hW.alike hK9, hD9⟩, hS.F ht⟩) hS.2.2 dX4_part_28
        · have i_4 : 0 ≤ p3.toInt := kc_nlt c_4
          refine lv_iload hx hb dX4_part_21 (lv_at hl 4 rfl) ?_
          refine lv_iconst (v := 1) hx hb dX4_part_23 (by decide) ?_
          refine lv_icmp_le (tgt := 29) hx hb dX4_part_24 (by decide) (fun c_5 => ?_) (fun c_5 => ?_)
          · have i_5 : p3.toInt ≤ 1 := kc_le c_5
            refine lv_aload_n hx hb dX4_part_29 rfl (lv_at hl 0 rfl) ?_
            have hPc := hP
            have hKc := hK
            have hDc := hD
            have hFc := kx_free hD hS hA
            refine va_callr (va_runV (As := []) (rest := []) ⟨hx, hb, hml, hown, hts⟩ (kx_un (c_X4_laidTree_x l dC dI m_ q_row q_t t_ h0 k0 w_ z_ slots old q_joined q_from q_to q_size q_lossOf q_lessBy q_value q_number nodes here q_cell cyI len f ff ft fs fo uv un fe j_v j_n js jl je jv jn s.heap.size a0 a1 s0 sl0 sl1 l0)) (cwV 0 hts gX4_part_X4_laidTree rfl rfl rfl (by decide +kernel) ⟨Nat.le_of_ble_eq_true rfl, Nat.le_of_ble_eq_true rfl⟩) ⟨fun a U g mk q => by obtain ⟨q0, q1, qP, qK, qD⟩ := q; exact ⟨q0, q1, qP, va_K.moved (u := U) (U := U.calling g mk a) (Vm.Alike.refl U.vm) qK, qD⟩, kx_rc4 hKc hPc (q0 := 0) rfl, fun U hU hW => ⟨rfl, by rw [hU], by rw [hU]; exact hPc, va_K.moved hW.alike hKc, hDc.weaken (fun _ _ _ _ => trivial)⟩⟩ rfl rfl hl.1 rfl (lv_room (Nat.le_of_ble_eq_true rfl)) dX4_part_30 ⟨Nat.le_of_ble_eq_true rfl, Nat.le_of_ble_eq_true rfl⟩) hS (fun q _ h => hFc q h) hFc (fun u ra t H1 locs ht hvm w_6 hB hz1 hk1 hS => ?_)
            obtain ⟨o_7, o_8, o_9, o_10, o_11, o_12, o_13, o_14, o_15, o_16, o_17, o_18, o_19, o_20, o_21⟩ := u
            dsimp only at w_6 hB
            obtain ⟨er, hP1, hK1, hD1⟩ := hB
            rw [ht] at hP1
            have hK1 := va_K.moved hvm.symm hK1
            have hD := hD1.weaken (fun _ q _ h => hFc q.1 h)
            have hP := hP1
            clear hP1 hD1 hK1 hk1 hz1 hFc hDc hPc hKc
            generalize H1 = H at hP hS ⊢
            have w_6 : o_7.toInt = 0 ∧ o_9 = slots ∧ sixes o_12 ∧ mj_C slots.toNatClampNeg f o_10 o_11 o_12 o_13 o_14 o_15 o_16 o_8.toInt len.toInt ∧ 0 ≤ o_8.toInt ∧ o_8.toInt ≤ 319 ∧ treeOk o_10 o_11 o_8.toInt len.toInt := w_6
            rw [er]
            have i_hs := congrArg Int32.toInt w_6.2.1
            refine lv_astore (lv' := [(5, .ref q_t), (0, .ref m_), (1, .int p0), (2, .int p1), (3, .int p2), (4, .int p3)]) hx hb dX4_part_33 hl (by decide) rfl (fun ls hl => ?_)
            refine lv_iconst (v := 0) hx hb dX4_part_35 (by decide) ?_
            refine lv_istore (lv' := [(6, .int 0), (5, .ref q_t), (0, .ref m_), (1, .int p0), (2, .int p1), (3, .int p2), (4, .int p3)]) hx hb dX4_part_36 hl (by decide) rfl (fun ls hl => ?_)
            refine lv_iload_n hx hb dX4_part_38 rfl (lv_at hl 3 rfl) ?_
            refine lv_istore (lv' := [(7, .int p0), (6, .int 0), (5, .ref q_t), (0, .ref m_), (1, .int p0), (2, .int p1), (3, .int p2), (4, .int p3)]) hx hb dX4_part_39 hl (by decide) rfl (fun ls hl => ?_)
            refine lv_iconst (v := 0) hx hb dX4_part_41 (by decide) ?_
            refine lv_istore (lv' := [(8, .int 0), (7, .int p0), (6, .int 0), (5, .ref q_t), (0, .ref m_), (1, .int p0), (2, .int p1), (3, .int p2), (4, .int p3)]) hx hb dX4_part_42 hl (by decide) rfl (fun ls hl => ?_)
            have LP1 : ∀ (n : Nat) (i : Int32) (seen : Int32) (nxt : Int32), (0 ≤ i.toInt) → (o_8.toInt - i.toInt).toNat < n → ∀ (H : Heap) (locs : List Loc), va_P (dC, dI) vwCl [kx_4 m_ q_row q_t t_ h0 k0 w_ z_ slots o_7, kx_2 q_t q_row q_joined q_from q_to q_size q_lossOf q_lessBy q_value q_number o_8 o_9, kx_0 q_row q_cell len, kx_a q_cell cyI 160 f, kx_a q_from cyI 319 o_10, kx_a q_to cyI 319 o_11, kx_a q_size cyI 319 o_12, kx_a q_lossOf cyI 319 o_13, kx_a q_lessBy cyI 319 o_14, kx_a q_value cyI 1914 o_15, kx_a q_number cyI 1914 o_16, kx_3 q_joined j_v j_n o_17 o_18 o_19, kx_a j_v cyI 12 o_20, kx_a j_n cyI 12 o_21] H → va_D A [kx_4 m_ q_row q_t t_ h0 k0 w_ z_ slots o_7, kx_2 q_t q_row q_joined q_from q_to q_size q_lossOf q_lessBy q_value q_number o_8 o_9, kx_0 q_row q_cell len, kx_a q_cell cyI 160 f, kx_a q_from cyI 319 o_10, kx_a q_to cyI 319 o_11, kx_a q_size cyI 319 o_12, kx_a q_lossOf cyI 319 o_13, kx_a q_lessBy cyI 319 o_14, kx_a q_value cyI 1914 o_15, kx_a q_number cyI 1914 o_16, kx_3 q_joined j_v j_n o_17 o_18 o_19, kx_a j_v cyI 12 o_20, kx_a j_n cyI 12 o_21] → va_S A s.heap H locs → ∀ (ls : Array Slot), lv_has ls 9 [(8, .int i), (7, .int nxt), (6, .int seen), (5, .ref q_t), (0, .ref m_), (1, .int p0), (2, .int p1), (3, .int p2), (4, .int p3)] → W p l e (headSpec wsX4_part ({ frames := 6, cells := 0, slots := 0, locals := 270 })).room s m ([.ref m_, .int p0, .int p1, .int p2, .int p3] : List Value).toArray below meth c H locs 0 0 (MQ below (va_Qi (fun (r : Int32) (u : Int32 × Int32 × Int32 × (Nat → Int32) × (Nat → Int32) × (Nat → Int32) × (Nat → Int32) × (Nat → Int32) × (Nat → Int32) × (Nat → Int32) × Int32 × Int32 × Int32 × (Nat → Int32) × (Nat → Int32)) => laidX u.1 slots u.2.2.1 f u.2.2.2.1 u.2.2.2.2.1 u.2.2.2.2.2.1 u.2.2.2.2.2.2.1 u.2.2.2.2.2.2.2.1 u.2.2.2.2.2.2.2.2.1 u.2.2.2.2.2.2.2.2.2.1 u.2.1 len ∧ sixes u.2.2.2.2.2.1) (fun (u : Int32 × Int32 × Int32 × (Nat → Int32) × (Nat → Int32) × (Nat → Int32) × (Nat → Int32) × (Nat → Int32) × (Nat → Int32) × (Nat → Int32) × Int32 × Int32 × Int32 × (Nat → Int32) × (Nat → Int32)) (t : State) => va_P (dC, dI) vwCl [kx_4 m_ q_row q_t t_ h0 k0 w_ z_ slots u.1, kx_2 q_t q_row q_joined q_from q_to q_size q_lossOf q_lessBy q_value q_number u.2.1 u.2.2.1, kx_0 q_row q_cell len, kx_a q_cell cyI 160 f, kx_a q_from cyI 319 u.2.2.2.1, kx_a q_to cyI 319 u.2.2.2.2.1, kx_a q_size cyI 319 u.2.2.2.2.2.1, kx_a q_lossOf cyI 319 u.2.2.2.2.2.2.1, kx_a q_lessBy cyI 319 u.2.2.2.2.2.2.2.1, kx_a q_value cyI 1914 u.2.2.2.2.2.2.2.2.1, kx_a q_number cyI 1914 u.2.2.2.2.2.2.2.2.2.1, kx_3 q_joined j_v j_n u.2.2.2.2.2.2.2.2.2.2.1 u.2.2.2.2.2.2.2.2.2.2.2.1 u.2.2.2.2.2.2.2.2.2.2.2.2.1, kx_a j_v cyI 12 u.2.2.2.2.2.2.2.2.2.2.2.2.2.1, kx_a j_n cyI 12 u.2.2.2.2.2.2.2.2.2.2.2.2.2.2] t.heap ∧ va_K (dC, dI) vwCl [(cyI, .int)] t ∧ va_D A [kx_4 m_ q_row q_t t_ h0 k0 w_ z_ slots u.1, kx_2 q_t q_row q_joined q_from q_to q_size q_lossOf q_lessBy q_value q_number u.2.1 u.2.2.1, kx_0 q_row q_cell len, kx_a q_cell cyI 160 f, kx_a q_from cyI 319 u.2.2.2.1, kx_a q_to cyI 319 u.2.2.2.2.1, kx_a q_size cyI 319 u.2.2.2.2.2.1, kx_a q_lossOf cyI 319 u.2.2.2.2.2.2.1, kx_a q_lessBy cyI 319 u.2.2.2.2.2.2.2.1, kx_a q_value cyI 1914 u.2.2.2.2.2.2.2.2.1, kx_a q_number cyI 1914 u.2.2.2.2.2.2.2.2.2.1, kx_3 q_joined j_v j_n u.2.2.2.2.2.2.2.2.2.2.1 u.2.2.2.2.2.2.2.2.2.2.2.1 u.2.2.2.2.2.2.2.2.2.2.2.2.1, kx_a j_v cyI 12 u.2.2.2.2.2.2.2.2.2.2.2.2.2.1, kx_a j_n cyI 12 u.2.2.2.2.2.2.2.2.2.2.2.2.2.2]) A) ([.ref m_, .int p0, .int p1, .int p2, .int p3] : List Value).toArray s 0 0 A) (F0 m 44 ls []) := by
              intro n
              induction n with
              | zero => intro i seen nxt LP1_h0 hn; exact absurd hn (Nat.not_lt_zero _)
              | succ n ih1 =>
                intro i seen nxt LP1_h0 hn1 H locs hP hD hS ls hl
                refine lv_iload hx hb dX4_part_44 (lv_at hl 0 rfl) ?_
                refine lv_aload hx hb dX4_part_46 (lv_at hl 3 rfl) ?_
                refine va_get (D := (dC, dI)) (ci := 2) (v := .int o_8) (C := RX2) (T := TX2) (N := 11) hx hb hts hi_2 hown hK hP 1 rfl rfl 9 (by decide) hf_163 (fun _ h9 => h9) rfl dX4_part_48 ?_
                refine lv_icmp_ge (tgt := 117) hx hb dX4_part_51 (by decide) (fun c_22 => ?_) (fun c_22 => ?_)
                · have i_22 : o_8.toInt ≤ i.toInt := kc_le c_22
                  refine lv_iconst (v := (-1)) hx hb dX4_part_117 (by decide) ?_
                  have hP9 := hP
                  have hD9 := hD
                  have hK9 := hK
                  exact W.iret (v := (-1)) hx hb hr (hlocks := hlocks) (fun t ht hW => ⟨⟨(-1), (o_7, o_8, o_9, o_10, o_11, o_12, o_13, o_14, o_15, o_16, o_17, o_18, o_19, o_20, o_21), rfl, ⟨(fun _ => ⟨w_6.2.1, w_6.2.2.2.1⟩), w_6.2.2.1⟩, by rw [ht]; exact hP9, va_K.moved hW.alike hK9, hD9⟩, hS.F ht⟩) hS.2.2 dX4_part_118
                · have i_22 : i.toInt < o_8.toInt := kc_nle c_22
                  refine lv_aload hx hb dX4_part_54 (lv_at hl 3 rfl) ?_
                  refine lv_iload hx hb dX4_part_56 (lv_at hl 0 rfl) ?_
                  refine lv_iload hx hb dX4_part_58 (lv_at hl 1 rfl) ?_
                  refine lv_iload_n hx hb dX4_part_60 rfl (lv_at hl 6 rfl) ?_
                  have hPc := hP.sub (ws' := [kx_2 q_t q_row q_joined q_from q_to q_size q_lossOf q_lessBy q_value q_number o_8 o_9, kx_a q_from cyI 319 o_10, kx_a q_to cyI 319 o_11]) [1, 4, 5] rfl
                  have hKc := hK
                  refine vp_callSi (W.runV (As := [.int i, .int nxt, .int p1]) (rest := []) ⟨hx, hb, hml, hown, hts⟩ (c_X2_isPart l dC dI q_t q_row q_joined q_from q_to q_size q_lossOf q_lessBy q_value q_number o_8 o_9 cyI o_10 o_11 i nxt p1 LP1_h0 (om_122 w_6.2.2.2.2.2.1 i_22)) (cwV 3 hts gX4_part_X2_isPart rfl rfl rfl (by decide +kernel) ⟨Nat.le_of_ble_eq_true rfl, Nat.le_of_ble_eq_true rfl⟩) ⟨fun a U g mk q => by obtain ⟨q0, qP, qK⟩ := q; exact ⟨q0, qP, va_K.moved (u := U) (U := U.calling g mk a) (Vm.Alike.refl U.vm) qK⟩, kx_rc2 hKc hPc (q0 := 0) rfl, fun U hU hW => ⟨rfl, by rw [hU]; exact hPc, va_K.moved hW.alike hKc⟩⟩ rfl rfl hl.1 rfl (lv_room (Nat.le_of_ble_eq_true rfl)) dX4_part_61 ⟨Nat.le_of_ble_eq_true rfl, Nat.le_of_ble_eq_true rfl⟩) (fun r_23 w_23 => ?_)
                  rcases w_23 with ⟨rfl, w_23⟩ | ⟨rfl, w_23⟩
                  · have w_23 : ((o_10 i.toNatClampNeg).toInt = nxt.toInt ∧ (o_11 i.toNatClampNeg).toInt ≤ p1.toInt) := w_23
                    refine lv_if_eq (tgt := 111) hx hb dX4_part_64 (by decide) (fun c_24 => ?_) (fun c_24 => ?_)
                    · exact absurd c_24 (by decide)
                    · refine lv_iload hx hb dX4_part_67 (lv_at hl 2 rfl) ?_
                      refine lv_iload_n hx hb dX4_part_69 rfl (lv_at hl 7 rfl) ?_
                      refine lv_icmp_ne (tgt := 98) hx hb dX4_part_70 (by decide) (fun c_25 => ?_) (fun c_25 => ?_)
                      · have i_25 : ¬ seen.toInt = p2.toInt := kc_ne c_25
                        refine lv_aload hx hb dX4_part_98 (lv_at hl 3 rfl) ?_
                        refine va_get (D := (dC, dI)) (ci := 2) (v := .ref q_to) (C := RX2) (T := TX2) (N := 11) hx hb hts hi_2 hown hK hP 1 rfl rfl 3 (by decide) hf_154 (fun _ h9 => h9) rfl dX4_part_100 ?_
                        refine lv_iload hx hb dX4_part_103 (lv_at hl 0 rfl) ?_
                        refine va_iald hx hb hK hP 5 0 rfl rfl (ki_in (om_10 LP1_h0) (om_115 w_6.2.2.2.2.2.1 i_22)) dX4_part_105 ?_
                        refine lv_topi (fun y_26 ey_26 => ?_)
                        have j_26 : y_26.toInt = (o_11 i.toNatClampNeg).toInt := congrArg Int32.toInt ey_26
                        refine lv_istore (lv' := [(7, .int y_26), (8, .int i), (6, .int seen), (5, .ref q_t), (0, .ref m_), (1, .int p0), (2, .int p1), (3, .int p2), (4, .int p3)]) hx hb dX4_part_106 hl (by decide) rfl (fun ls hl => ?_)
                        obtain ⟨x_27, ex_27⟩ : ∃ y : Int32, y = seen + 1 := ⟨_, rfl⟩
                        refine lv_iinc (v := x_27) (lv' := [(6, .int x_27), (7, .int y_26), (8, .int i), (5, .ref q_t), (0, .ref m_), (1, .int p0), (2, .int p1), (3, .int p2), (4, .int p3)]) hx hb dX4_part_108 hl (k := 2) rfl (by rw [ex_27]; rfl) (by decide) rfl (fun ls hl => ?_)
                        obtain ⟨x_28, ex_28⟩ : ∃ y : Int32, y = i + 1 := ⟨_, rfl⟩
                        have i_28 : x_28.toInt = i.toInt + 1 := ki_add ex_28 rfl rfl (om_13 LP1_h0) (om_125 w_6.2.2.2.2.2.1 i_22)
                        refine lv_iinc (v := x_28) (lv' := [(8, .int x_28), (6, .int x_27), (7, .int y_26), (5, .ref q_t), (0, .ref m_), (1, .int p0), (2, .int p1), (3, .int p2), (4, .int p3)]) hx hb dX4_part_111 hl (k := 2) rfl (by rw [ex_28]; rfl) (by decide) rfl (fun ls hl => ?_)
                        refine lv_goto (tgt := 44) hx hb dX4_part_114 (by decide) ?_
                        exact ih1 x_28 x_27 y_26 (om_34 LP1_h0 i_28) (om_mu hn1 (om_5 i_28) (om_6 i_22)) _ _ hP hD hS ls (lv_sub hl [0, 2, 1, 3, 4, 5, 6, 7, 8] rfl)
                      · have i_25 : seen.toInt = p2.toInt := kc_eq c_25
                        refine lv_iload hx hb dX4_part_73 (lv_at hl 8 rfl) ?_
                        refine lv_if_ne (tgt := 89) hx hb dX4_part_75 (by decide) (fun c_29 => ?_) (fun c_29 => ?_)
                        · have i_29 : ¬ p3.toInt = 0 := kc_ne c_29
                          refine lv_aload hx hb dX4_part_89 (lv_at hl 3 rfl) ?_
                          refine va_get (D := (dC, dI)) (ci := 2) (v := .ref q_to) (C := RX2) (T := TX2) (N := 11) hx hb hts hi_2 hown hK hP 1 rfl rfl 3 (by decide) hf_154 (fun _ h9 => h9) rfl dX4_part_91 ?_
                          refine lv_iload hx hb dX4_part_94 (lv_at hl 0 rfl) ?_
                          refine va_iald hx hb hK hP 5 0 rfl rfl (ki_in (om_10 LP1_h0) (om_115 w_6.2.2.2.2.2.1 i_22)) dX4_part_96 ?_
                          refine lv_topi (fun y_30 ey_30 => ?_)
                          have j_30 : y_30.toInt = (o_11 i.toNatClampNeg).toInt := congrArg Int32.toInt ey_30
                          have hP9 := hP
                          have hD9 := hD
                          have hK9 := hK
                          exact W.iret (v := y_30) hx hb hr (hlocks := hlocks) (fun t ht hW => ⟨⟨y_30, (o_7, o_8, o_9, o_10, o_11, o_12, o_13, o_14, o_15, o_16, o_17, o_18, o_19, o_20, o_21), rfl, ⟨(fun _ => ⟨w_6.2.1, w_6.2.2.2.1⟩), w_6.2.2.1⟩, by rw [ht]; exact hP9, va_K.moved hW.alike hK9, hD9⟩, hS.F ht⟩) hS.2.2 dX4_part_97
                        · have i_29 : p3.toInt = 0 := kc_eq c_29
                          refine lv_aload hx hb dX4_part_78 (lv_at hl 3 rfl) ?_
                          refine va_get (D := (dC, dI)) (ci := 2) (v := .ref q_from) (C := RX2) (T := TX2) (N := 11) hx hb hts hi_2 hown hK hP 1 rfl rfl 2 (by decide) hf_151 (fun _ h9 => h9) rfl dX4_part_80 ?_
                          refine lv_iload hx hb dX4_part_83 (lv_at hl 0 rfl) ?_
                          refine va_iald hx hb hK hP 4 0 rfl rfl (ki_in (om_10 LP1_h0) (om_115 w_6.2.2.2.2.2.1 i_22)) dX4_part_85 ?_
                          refine lv_topi (fun y_31 ey_31 => ?_)
                          have j_31 : y_31.toInt = (o_10 i.toNatClampNeg).toInt := congrArg Int32.toInt ey_31
                          refine lv_goto (tgt := 97) hx hb dX4_part_86 (by decide) ?_
                          have hP9 := hP
                          have hD9 := hD
                          have hK9 := hK
                          exact W.iret (v := y_31) hx hb hr (hlocks := hlocks) (fun t ht hW => ⟨⟨y_31, (o_7, o_8, o_9, o_10, o_11, o_12, o_13, o_14, o_15, o_16, o_17, o_18, o_19, o_20, o_21), rfl, ⟨(fun _ => ⟨w_6.2.1, w_6.2.2.2.1⟩), w_6.2.2.1⟩, by rw [ht]; exact hP9, va_K.moved hW.alike hK9, hD9⟩, hS.F ht⟩) hS.2.2 dX4_part_97
                  · have w_23 : (¬ (o_10 i.toNatClampNeg).toInt = nxt.toInt ∨ p1.toInt < (o_11 i.toNatClampNeg).toInt) := w_23
                    refine lv_if_eq (tgt := 111) hx hb dX4_part_64 (by decide) (fun c_32 => ?_) (fun c_32 => ?_)
                    · obtain ⟨x_33, ex_33⟩ : ∃ y : Int32, y = i + 1 := ⟨_, rfl⟩
                      have i_33 : x_33.toInt = i.toInt + 1 := ki_add ex_33 rfl rfl (om_13 LP1_h0) (om_125 w_6.2.2.2.2.2.1 i_22)
                      refine lv_iinc (v := x_33) (lv' := [(8, .int x_33), (7, .int nxt), (6, .int seen), (5, .ref q_t), (0, .ref m_), (1, .int p0), (2, .int p1), (3, .int p2), (4, .int p3)]) hx hb dX4_part_111 hl (k := 0) rfl (by rw [ex_33]; rfl) (by decide) rfl (fun ls hl => ?_)
                      refine lv_goto (tgt := 44) hx hb dX4_part_114 (by decide) ?_
                      exact ih1 x_33 seen nxt (om_34 LP1_h0 i_33) (om_mu hn1 (om_5 i_33) (om_6 i_22)) _ _ hP hD hS ls (lv_sub hl [0, 1, 2, 3, 4, 5, 6, 7, 8] rfl)
                    · exact absurd c_32 (by decide)
            have k_34 : (0 : Int32).toInt = 0 := rfl
            have k_35 : (0 : Int32).toInt = 0 := rfl
            exact LP1 ((o_8.toInt - 0 : Int).toNat + 1) 0 0 p0 om_35 (Nat.lt_succ_self _) _ _ hP hD hS ls (lv_sub hl [0, 1, 2, 3, 4, 5, 6, 7, 8] rfl)
          · have i_5 : 1 < p3.toInt := kc_nle c_5
            refine lv_iconst (v := (-1)) hx hb dX4_part_27 (by decide) ?_
            have hP9 := hP
            have hD9 := hD
            have hK9 := hK
            exact W.iret (v := (-1)) hx hb hr (hlocks := hlocks) (fun t ht hW => ⟨⟨(-1), (old, nodes, here, ff, ft, fs, fo, fe, uv, un, js, jl, je, jv, jn), rfl, ⟨l0, s0⟩, by rw [ht]; exact hP9, va_K.moved hW.alike hK9, hD9⟩, hS.F ht⟩) hS.2.2 dX4_part_28
  · have w_1 : (p0.toInt < 0 ∨ p1.toInt ≤ p0.toInt ∨ len.toInt < p1.toInt) := w_1
    refine lv_if_eq (tgt := 27) hx hb dX4_part_9 (by decide) (fun c_36 => ?_) (fun c_36 => ?_)
    · refine lv_iconst (v := (-1)) hx hb dX4_part_27 (by decide) ?_
      have hP9 := hP
      have hD9 := hD
      have hK9 := hK
      exact W.iret (v := (-1)) hx hb hr (hlocks := hlocks) (fun t ht hW => ⟨⟨(-1), (old, nodes, here, ff, ft, fs, fo, fe, uv, un, js, jl, je, jv, jn), rfl, ⟨l0, s0⟩, by rw [ht]; exact hP9, va_K.moved hW.alike hK9, hD9⟩, hS.F ht⟩) hS.2.2 dX4_part_28
    · exact absurd c_36 (by decide)

set_option maxHeartbeats 4000000 in
set_option maxRecDepth 100000 in
theorem c_X4_above_x (l : Launch) (dC : Nat → ClassId) (dI : Nat → Nat → Nat) (m_ : Nat) (q_row : Nat) (q_t : Nat) (t_ : Nat) (h0 : Nat) (k0 : Nat) (w_ : Nat) (z_ : Nat) (slots : Int32) (old : Int32) (q_joined : Nat) (q_from : Nat) (q_to : Nat) (q_size : Nat) (q_lossOf : Nat) (q_lessBy : Nat) (q_value : Nat) (q_number : Nat) (nodes : Int32) (here : Int32) (q_cell : Nat) (cyI : ClassId) (len : Int32) (f : Nat → Int32) (ff : Nat → Int32) (ft : Nat → Int32) (fs : Nat → Int32) (fo : Nat → Int32) (uv : Nat → Int32) (un : Nat → Int32) (fe : Nat → Int32) (j_v : Nat) (j_n : Nat) (js : Int32) (jl : Int32) (je : Int32) (jv : Nat → Int32) (jn : Nat → Int32) (p0 : Int32) (p1 : Int32) (p2 : Int32) (sz : Nat) (a0 : 0 ≤ len.toInt) (a1 : len.toInt ≤ 160) (s0 : sixes fs) (sl0 : 1 ≤ slots.toInt) (sl1 : slots.toInt ≤ 6) (l0 : laidX old slots here f ff ft fs fo fe uv un nodes len) : kx_MQ l (dC, dI) yX4_above wsX4_above ({ frames := 6, cells := 0, slots := 0, locals := 270 }) [.ref m_, .int p0, .int p1, .int p2] [kx_4 m_ q_row q_t t_ h0 k0 w_ z_ slots old, kx_2 q_t q_row q_joined q_from q_to q_size q_lossOf q_lessBy q_value q_number nodes here, kx_0 q_row q_cell len, kx_a q_cell cyI 160 f, kx_a q_from cyI 319 ff, kx_a q_to cyI 319 ft, kx_a q_size cyI 319 fs, kx_a q_lossOf cyI 319 fo, kx_a q_lessBy cyI 319 fe, kx_a q_value cyI 1914 uv, kx_a q_number cyI 1914 un, kx_3 q_joined j_v j_n js jl je, kx_a j_v cyI 12 jv, kx_a j_n cyI 12 jn] [(cyI, .int)] sz (fun A => va_Qi (fun (r : Int32) (u : Int32 × Int32 × Int32 × (Nat → Int32) × (Nat → Int32) × (Nat → Int32) × (Nat → Int32) × (Nat → Int32) × (Nat → Int32) × (Nat → Int32) × Int32 × Int32 × Int32 × (Nat → Int32) × (Nat → Int32)) => laidX u.1 slots u.2.2.1 f u.2.2.2.1 u.2.2.2.2.1 u.2.2.2.2.2.1 u.2.2.2.2.2.2.1 u.2.2.2.2.2.2.2.1 u.2.2.2.2.2.2.2.2.1 u.2.2.2.2.2.2.2.2.2.1 u.2.1 len ∧ sixes u.2.2.2.2.2.1) (fun (u : Int32 × Int32 × Int32 × (Nat → Int32) × (Nat → Int32) × (Nat → Int32) × (Nat → Int32) × (Nat → Int32) × (Nat → Int32) × (Nat → Int32) × Int32 × Int32 × Int32 × (Nat → Int32) × (Nat → Int32)) (t : State) => va_P (dC, dI) vwCl [kx_4 m_ q_row q_t t_ h0 k0 w_ z_ slots u.1, kx_2 q_t q_row q_joined q_from q_to q_size q_lossOf q_lessBy q_value q_number u.2.1 u.2.2.1, kx_0 q_row q_cell len, kx_a q_cell cyI 160 f, kx_a q_from cyI 319 u.2.2.2.1, kx_a q_to cyI 319 u.2.2.2.2.1, kx_a q_size cyI 319 u.2.2.2.2.2.1, kx_a q_lossOf cyI 319 u.2.2.2.2.2.2.1, kx_a q_lessBy cyI 319 u.2.2.2.2.2.2.2.1, kx_a q_value cyI 1914 u.2.2.2.2.2.2.2.2.1, kx_a q_number cyI 1914 u.2.2.2.2.2.2.2.2.2.1, kx_3 q_joined j_v j_n u.2.2.2.2.2.2.2.2.2.2.1 u.2.2.2.2.2.2.2.2.2.2.2.1 u.2.2.2.2.2.2.2.2.2.2.2.2.1, kx_a j_v cyI 12 u.2.2.2.2.2.2.2.2.2.2.2.2.2.1, kx_a j_n cyI 12 u.2.2.2.2.2.2.2.2.2.2.2.2.2.2] t.heap ∧ va_K (dC, dI) vwCl [(cyI, .int)] t ∧ va_D A [kx_4 m_ q_row q_t t_ h0 k0 w_ z_ slots u.1, kx_2 q_t q_row q_joined q_from q_to q_size q_lossOf q_lessBy q_value q_number u.2.1 u.2.2.1, kx_0 q_row q_cell len, kx_a q_cell cyI 160 f, kx_a q_from cyI 319 u.2.2.2.1, kx_a q_to cyI 319 u.2.2.2.2.1, kx_a q_size cyI 319 u.2.2.2.2.2.1, kx_a q_lossOf cyI 319 u.2.2.2.2.2.2.1, kx_a q_lessBy cyI 319 u.2.2.2.2.2.2.2.1, kx_a q_value cyI 1914 u.2.2.2.2.2.2.2.2.1, kx_a q_number cyI 1914 u.2.2.2.2.2.2.2.2.2.1, kx_3 q_joined j_v j_n u.2.2.2.2.2.2.2.2.2.2.1 u.2.2.2.2.2.2.2.2.2.2.2.1 u.2.2.2.2.2.2.2.2.2.2.2.2.1, kx_a j_v cyI 12 u.2.2.2.2.2.2.2.2.2.2.2.2.2.1, kx_a j_n cyI 12 u.2.2.2.2.2.2.2.2.2.2.2.2.2.2]) A) := by
  refine kx_stQ (ws := wsX4_above) (cc := cX4_above) (maxL := 6) (ret := (some .int)) (by decide) rfl (Nat.le_of_ble_eq_true rfl) ?_
  intro p e s m below meth c A ls hx hb hr hlocks hts hown hml hA hS hP hK hD hl
  have hown : s.vm.findClass RX4 = some m.cls := hown
  have hl : lv_has ls 6 [(0, .ref m_), (1, .int p0), (2, .int p1), (3, .int p2)] := hl
  have hf_12 := hts (.fieldLink RX4 12 "MajorityIndex" "row" "LMajorityIndex$Row;") (List.mem_of_getElem? (i := 1) rfl)
  have hi_4 : ∀ w ∈ u_ws RX4 TX4 9, w ∈ wsX4_above := fun w h => List.mem_cons_of_mem _ (List.mem_append_left _ (List.mem_append_left _ (List.mem_append_left _ (List.mem_append_right _ h))))
  have hf_151 := hts (.fieldLink RX4 151 "MajorityIndex$Tree" "from" "[I") (List.mem_of_getElem? (i := 2) rfl)
  have hi_2 : ∀ w ∈ u_ws RX2 TX2 11, w ∈ wsX4_above := fun w h => List.mem_cons_of_mem _ (List.mem_append_left _ (List.mem_append_left _ (List.mem_append_right _ h)))
  have hf_154 := hts (.fieldLink RX4 154 "MajorityIndex$Tree" "to" "[I") (List.mem_of_getElem? (i := 3) rfl)
  have hf_110 := hts (.fieldLink RX4 110 "MajorityIndex$Row" "cell" "[I") (List.mem_of_getElem? (i := 4) rfl)
  have hi_0 : ∀ w ∈ u_ws RX0 TX0 2, w ∈ wsX4_above := fun w h => List.mem_cons_of_mem _ (List.mem_append_left _ (List.mem_append_right _ h))
  refine lv_aload_n hx hb dX4_above_0 rfl (lv_at hl 0 rfl) ?_
  refine va_get (D := (dC, dI)) (ci := 4) (v := .ref q_row) (C := RX4) (T := TX4) (N := 9) hx hb hts hi_4 hown hK hP 0 rfl rfl 0 (by decide) hf_12 (fun _ h9 => h9) rfl dX4_above_1 ?_
  refine lv_iload_n hx hb dX4_above_4 rfl (lv_at hl 1 rfl) ?_
  have hPc := hP.sub (ws' := [kx_0 q_row q_cell len]) [2] rfl
  have hKc := hK.sub (tys' := []) [] rfl
  refine vp_callSi (W.runV (As := [.int p0]) (rest := []) ⟨hx, hb, hml, hown, hts⟩ (c_X0_hasPlace l dC dI q_row q_cell len p0) (cwV 1 hts gX4_above_X0_hasPlace rfl rfl rfl (by decide +kernel) ⟨Nat.le_of_ble_eq_true rfl, Nat.le_of_ble_eq_true rfl⟩) ⟨fun a U g mk q => by obtain ⟨q0, qP, qK⟩ := q; exact ⟨q0, qP, va_K.moved (u := U) (U := U.calling g mk a) (Vm.Alike.refl U.vm) qK⟩, kx_rc0 hKc hPc (q0 := 0) rfl, fun U hU hW => ⟨rfl, by rw [hU]; exact hPc, va_K.moved hW.alike hKc⟩⟩ rfl rfl hl.1 rfl (lv_room (Nat.le_of_ble_eq_true rfl)) dX4_above_5 ⟨Nat.le_of_ble_eq_true rfl, Nat.le_of_ble_eq_true rfl⟩) (fun r_1 w_1 => ?_)
  rcases w_1 with ⟨rfl, w_1⟩ | ⟨rfl, w_1⟩
  · have w_1 : (0 ≤ p0.toInt ∧ p0.toInt < len.toInt) := w_1
    refine lv_if_ne (tgt := 13) hx hb dX4_above_8 (by decide) (fun c_2 => ?_) (fun c_2 => ?_)
    · refine lv_aload_n hx hb dX4_above_13 rfl (lv_at hl 0 rfl) ?_
      have hPc := hP
      have hKc := hK
      have hDc := hD
      have hFc := kx_free hD hS hA
      refine va_callr (va_runV (As := []) (rest := []) ⟨hx, hb, hml, hown, hts⟩ (kx_un (c_X4_laidTree_x l dC dI m_ q_row q_t t_ h0 k0 w_ z_ slots old q_joined q_from q_to q_size q_lossOf q_lessBy q_value q_number nodes here q_cell cyI len f ff ft fs fo uv un fe j_v j_n js jl je jv jn s.heap.size a0 a1 s0 sl0 sl1 l0)) (cwV 0 hts gX4_above_X4_laidTree rfl rfl rfl (by decide +kernel) ⟨Nat.le_of_ble_eq_true rfl, Nat.le_of_ble_eq_true rfl⟩) ⟨fun a U g mk q => by obtain ⟨q0, q1, qP, qK, qD⟩ := q; exact ⟨q0, q1, qP, va_K.moved (u := U) (U := U.calling g mk a) (Vm.Alike.refl U.vm) qK, qD⟩, kx_rc4 hKc hPc (q0 := 0) rfl, fun U hU hW => ⟨rfl, by rw [hU], by rw [hU]; exact hPc, va_K.moved hW.alike hKc, hDc.weaken (fun _ _ _ _ => trivial)⟩⟩ rfl rfl hl.1 rfl (lv_room (Nat.le_of_ble_eq_true rfl)) dX4_above_14 ⟨Nat.le_of_ble_eq_true rfl, Nat.le_of_ble_eq_true rfl⟩) hS (fun q _ h => hFc q h) hFc (fun u ra t H1 locs ht hvm w_3 hB hz1 hk1 hS => ?_)
      obtain ⟨o_4, o_5, o_6, o_7, o_8, o_9, o_10, o_11, o_12, o_13, o_14, o_15, o_16, o_17, o_18⟩ := u
      dsimp only at w_3 hB
      obtain ⟨er, hP1, hK1, hD1⟩ := hB
      rw [ht] at hP1
      have hK1 := va_K.moved hvm.symm hK1
      have hD := hD1.weaken (fun _ q _ h => hFc q.1 h)
      have hP := hP1
      clear hP1 hD1 hK1 hk1 hz1 hFc hDc hPc hKc
      generalize H1 = H at hP hS ⊢
      have w_3 : o_4.toInt = 0 ∧ o_6 = slots ∧ sixes o_9 ∧ mj_C slots.toNatClampNeg f o_7 o_8 o_9 o_10 o_11 o_12 o_13 o_5.toInt len.toInt ∧ 0 ≤ o_5.toInt ∧ o_5.toInt ≤ 319 ∧ treeOk o_7 o_8 o_5.toInt len.toInt := w_3
      rw [er]
      have i_hs := congrArg Int32.toInt w_3.2.1
      refine lv_astore (lv' := [(4, .ref q_t), (0, .ref m_), (1, .int p0), (2, .int p1), (3, .int p2)]) hx hb dX4_above_17 hl (by decide) rfl (fun ls hl => ?_)
      refine lv_iload_n hx hb dX4_above_19 rfl (lv_at hl 3 rfl) ?_
      refine lv_iconst (v := (-1)) hx hb dX4_above_20 (by decide) ?_
      refine lv_icmp_ne (tgt := 31) hx hb dX4_above_21 (by decide) (fun c_19 => ?_) (fun c_19 => ?_)
      · have i_19 : ¬ p1.toInt = (-1) := kc_ne c_19
        refine lv_aload hx hb dX4_above_31 (lv_at hl 0 rfl) ?_
        refine lv_iload_n hx hb dX4_above_33 rfl (lv_at hl 2 rfl) ?_
        refine lv_iload_n hx hb dX4_above_34 rfl (lv_at hl 3 rfl) ?_
        have hPc := hP.sub (ws' := [kx_2 q_t q_row q_joined q_from q_to q_size q_lossOf q_lessBy q_value q_number o_5 o_6, kx_a q_from cyI 319 o_7, kx_a q_to cyI 319 o_8]) [1, 4, 5] rfl
        have hKc := hK
        refine vp_callSi (W.runV (As := [.int p0, .int p1]) (rest := []) ⟨hx, hb, hml, hown, hts⟩ (c_X2_onPath l dC dI q_t q_row q_joined q_from q_to q_size q_lossOf q_lessBy q_value q_number o_5 o_6 cyI o_7 o_8 p0 p1 w_3.2.2.2.2.1 w_3.2.2.2.2.2.1) (cwV 2 hts gX4_above_X2_onPath rfl rfl rfl (by decide +kernel) ⟨Nat.le_of_ble_eq_true rfl, Nat.le_of_ble_eq_true rfl⟩) ⟨fun a U g mk q => by obtain ⟨q0, qP, qK⟩ := q; exact ⟨q0, qP, va_K.moved (u := U) (U := U.calling g mk a) (Vm.Alike.refl U.vm) qK⟩, kx_rc2 hKc hPc (q0 := 0) rfl, fun U hU hW => ⟨rfl, by rw [hU]; exact hPc, va_K.moved hW.alike hKc⟩⟩ rfl rfl hl.1 rfl (lv_room (Nat.le_of_ble_eq_true rfl)) dX4_above_35 ⟨Nat.le_of_ble_eq_true rfl, Nat.le_of_ble_eq_true rfl⟩) (fun r_20 w_20 => ?_)
        have w_20 : (r_20.toInt = -1 ∨ (0 ≤ r_20.toInt ∧ r_20.toInt < o_5.toInt)) := w_20
        refine lv_istore (lv' := [(5, .int r_20), (4, .ref q_t), (0, .ref m_), (1, .int p0), (2, .int p1), (3, .int p2)]) hx hb dX4_above_38 hl (by decide) rfl (fun ls hl => ?_)
        refine lv_iload hx hb dX4_above_40 (lv_at hl 0 rfl) ?_
        refine lv_iconst (v := (-1)) hx hb dX4_above_42 (by decide) ?_
        refine lv_icmp_ne (tgt := 48) hx hb dX4_above_43 (by decide) (fun c_21 => ?_) (fun c_21 => ?_)
        · have i_21 : ¬ r_20.toInt = (-1) := kc_ne c_21
          refine lv_iload_n hx hb dX4_above_48 rfl (lv_at hl 5 rfl) ?_
          by_cases s_22 : p2.toInt = 0
          · refine lv_tableIn (tgt := 76) (off := 27) hx hb dX4_above_49 (om_161 s_22) (om_162 s_22) (by rw [s_22]; rfl) (by decide) ?_
            refine lv_aload hx hb dX4_above_76 (lv_at hl 1 rfl) ?_
            refine va_get (D := (dC, dI)) (ci := 2) (v := .ref q_from) (C := RX2) (T := TX2) (N := 11) hx hb hts hi_2 hown hK hP 1 rfl rfl 2 (by decide) hf_151 (fun _ h9 => h9) rfl dX4_above_78 ?_
            refine lv_iload hx hb dX4_above_81 (lv_at hl 0 rfl) ?_
            refine va_iald hx hb hK hP 4 0 rfl rfl (ki_in (by omega) (by omega)) dX4_above_83 ?_
            refine lv_topi (fun y_23 ey_23 => ?_)
            have j_23 : y_23.toInt = (o_7 r_20.toNatClampNeg).toInt := congrArg Int32.toInt ey_23
            have hP9 := hP
            have hD9 := hD
            have hK9 := hK
            exact W.iret (v := y_23) hx hb hr (hlocks := hlocks) (fun t ht hW => ⟨⟨y_23, (o_4, o_5, o_6, o_7, o_8, o_9, o_10, o_11, o_12, o_13, o_14, o_15, o_16, o_17, o_18), rfl, ⟨(fun _ => ⟨w_3.2.1, w_3.2.2.2.1⟩), w_3.2.2.1⟩, by rw [ht]; exact hP9, va_K.moved hW.alike hK9, hD9⟩, hS.F ht⟩) hS.2.2 dX4_above_84
          by_cases s_24 : p2.toInt = 1
          · refine lv_tableIn (tgt := 85) (off := 36) hx hb dX4_above_49 (om_163 s_24) (om_164 s_24) (by rw [s_24]; rfl) (by decide) ?_
            refine lv_aload hx hb dX4_above_85 (lv_at hl 1 rfl) ?_
            refine va_get (D := (dC, dI)) (ci := 2) (v := .ref q_to) (C := RX2) (T := TX2) (N := 11) hx hb hts hi_2 hown hK hP 1 rfl rfl 3 (by decide) hf_154 (fun _ h9 => h9) rfl dX4_above_87 ?_
            refine lv_iload hx hb dX4_above_90 (lv_at hl 0 rfl) ?_
            refine va_iald hx hb hK hP 5 0 rfl rfl (ki_in (by omega) (by omega)) dX4_above_92 ?_
            refine lv_topi (fun y_25 ey_25 => ?_)
            have j_25 : y_25.toInt = (o_8 r_20.toNatClampNeg).toInt := congrArg Int32.toInt ey_25
            have hP9 := hP
            have hD9 := hD
            have hK9 := hK
            exact W.iret (v := y_25) hx hb hr (hlocks := hlocks) (fun t ht hW => ⟨⟨y_25, (o_4, o_5, o_6, o_7, o_8, o_9, o_10, o_11, o_12, o_13, o_14, o_15, o_16, o_17, o_18), rfl, ⟨(fun _ => ⟨w_3.2.1, w_3.2.2.2.1⟩), w_3.2.2.1⟩, by rw [ht]; exact hP9, va_K.moved hW.alike hK9, hD9⟩, hS.F ht⟩) hS.2.2 dX4_above_93
          by_cases s_26 : p2.toInt = 2
          · refine lv_tableIn (tgt := 94) (off := 45) hx hb dX4_above_49 (om_165 s_26) (om_166 s_26) (by rw [s_26]; rfl) (by decide) ?_
            refine lv_aload hx hb dX4_above_94 (lv_at hl 1 rfl) ?_
            refine lv_iload hx hb dX4_above_96 (lv_at hl 0 rfl) ?_
            refine lv_aload_n hx hb dX4_above_98 rfl (lv_at hl 2 rfl) ?_
            refine va_get (D := (dC, dI)) (ci := 4) (v := .ref q_row) (C := RX4) (T := TX4) (N := 9) hx hb hts hi_4 hown hK hP 0 rfl rfl 0 (by decide) hf_12 (fun _ h9 => h9) rfl dX4_above_99 ?_
            refine va_get (D := (dC, dI)) (ci := 0) (v := .ref q_cell) (C := RX0) (T := TX0) (N := 2) hx hb hts hi_0 hown hK hP 2 rfl rfl 0 (by decide) hf_110 (fun _ h9 => h9) rfl dX4_above_102 ?_
            refine lv_iload_n hx hb dX4_above_105 rfl (lv_at hl 3 rfl) ?_
            refine va_iald hx hb hK hP 3 0 rfl rfl (ki_in (om_10 w_1.1) (om_1 a1 w_1.2)) dX4_above_106 ?_
            refine lv_topi (fun y_27 ey_27 => ?_)
            have j_27 : y_27.toInt = (f p0.toNatClampNeg).toInt := congrArg Int32.toInt ey_27
            have hPc := hP.sub (ws' := [kx_2 q_t q_row q_joined q_from q_to q_size q_lossOf q_lessBy q_value q_number o_5 o_6, kx_a q_size cyI 319 o_9, kx_a q_value cyI 1914 o_12, kx_a q_number cyI 1914 o_13]) [1, 6, 9, 10] rfl
            have hKc := hK
            refine vp_callSi (W.runV (As := [.int r_20, .int y_27]) (rest := []) ⟨hx, hb, hml, hown, hts⟩ (c_X2_numberIn l dC dI q_t q_row q_joined q_from q_to q_size q_lossOf q_lessBy q_value q_number o_5 o_6 cyI o_9 o_12 o_13 r_20 y_27 (by omega) (by omega) w_3.2.2.1) (cwV 2 hts gX4_above_X2_numberIn rfl rfl rfl (by decide +kernel) ⟨Nat.le_of_ble_eq_true rfl, Nat.le_of_ble_eq_true rfl⟩) ⟨fun a U g mk q => by obtain ⟨q0, qP, qK⟩ := q; exact ⟨q0, qP, va_K.moved (u := U) (U := U.calling g mk a) (Vm.Alike.refl U.vm) qK⟩, kx_rc2 hKc hPc (q0 := 0) rfl, fun U hU hW => ⟨rfl, by rw [hU]; exact hPc, va_K.moved hW.alike hKc⟩⟩ rfl rfl hl.1 rfl (lv_room (Nat.le_of_ble_eq_true rfl)) dX4_above_107 ⟨Nat.le_of_ble_eq_true rfl, Nat.le_of_ble_eq_true rfl⟩) (fun r_28 w_28 => ?_)
            have hP9 := hP
            have hD9 := hD
            have hK9 := hK
            exact W.iret (v := r_28) hx hb hr (hlocks := hlocks) (fun t ht hW => ⟨⟨r_28, (o_4, o_5, o_6, o_7, o_8, o_9, o_10, o_11, o_12, o_13, o_14, o_15, o_16, o_17, o_18), rfl, ⟨(fun _ => ⟨w_3.2.1, w_3.2.2.2.1⟩), w_3.2.2.1⟩, by rw [ht]; exact hP9, va_K.moved hW.alike hK9, hD9⟩, hS.F ht⟩) hS.2.2 dX4_above_110
          refine lv_tableOut (tgt := 111) hx hb dX4_above_49 (by omega) (by decide) ?_
          refine lv_iconst (v := (-1)) hx hb dX4_above_111 (by decide) ?_
          have hP9 := hP
          have hD9 := hD
          have hK9 := hK
          exact W.iret (v := (-1)) hx hb hr (hlocks := hlocks) (fun t ht hW => ⟨⟨(-1), (o_4, o_5, o_6, o_7, o_8, o_9, o_10, o_11, o_12, o_13, o_14, o_15, o_16, o_17, o_18), rfl, ⟨(fun _ => ⟨w_3.2.1, w_3.2.2.2.1⟩), w_3.2.2.1⟩, by rw [ht]; exact hP9, va_K.moved hW.alike hK9, hD9⟩, hS.F ht⟩) hS.2.2 dX4_above_112
        · have i_21 : r_20.toInt = (-1) := kc_eq c_21
          refine lv_iconst (v := (-1)) hx hb dX4_above_46 (by decide) ?_
          have hP9 := hP
          have hD9 := hD
          have hK9 := hK
          exact W.iret (v := (-1)) hx hb hr (hlocks := hlocks) (fun t ht hW => ⟨⟨(-1), (o_4, o_5, o_6, o_7, o_8, o_9, o_10, o_11, o_12, o_13, o_14, o_15, o_16, o_17, o_18), rfl, ⟨(fun _ => ⟨w_3.2.1, w_3.2.2.2.1⟩), w_3.2.2.1⟩, by rw [ht]; exact hP9, va_K.moved hW.alike hK9, hD9⟩, hS.F ht⟩) hS.2.2 dX4_above_47
      · have i_19 : p1.toInt = (-1) := kc_eq c_19
        refine lv_aload hx hb dX4_above_24 (lv_at hl 0 rfl) ?_
        refine lv_iload_n hx hb dX4_above_26 rfl (lv_at hl 2 rfl) ?_
        have hPc := hP.sub (ws' := [kx_2 q_t q_row q_joined q_from q_to q_size q_lossOf q_lessBy q_value q_number o_5 o_6, kx_a q_from cyI 319 o_7, kx_a q_to cyI 319 o_8]) [1, 4, 5] rfl
        have hKc := hK
        refine vp_callSi (W.runV (As := [.int p0]) (rest := []) ⟨hx, hb, hml, hown, hts⟩ (c_X2_depthAt l dC dI q_t q_row q_joined q_from q_to q_size q_lossOf q_lessBy q_value q_number o_5 o_6 cyI o_7 o_8 p0 w_3.2.2.2.2.1 w_3.2.2.2.2.2.1) (cwV 1 hts gX4_above_X2_depthAt rfl rfl rfl (by decide +kernel) ⟨Nat.le_of_ble_eq_true rfl, Nat.le_of_ble_eq_true rfl⟩) ⟨fun a U g mk q => by obtain ⟨q0, qP, qK⟩ := q; exact ⟨q0, qP, va_K.moved (u := U) (U := U.calling g mk a) (Vm.Alike.refl U.vm) qK⟩, kx_rc2 hKc hPc (q0 := 0) rfl, fun U hU hW => ⟨rfl, by rw [hU]; exact hPc, va_K.moved hW.alike hKc⟩⟩ rfl rfl hl.1 rfl (lv_room (Nat.le_of_ble_eq_true rfl)) dX4_above_27 ⟨Nat.le_of_ble_eq_true rfl, Nat.le_of_ble_eq_true rfl⟩) (fun r_29 w_29 => ?_)
        have hP9 := hP
        have hD9 := hD
        have hK9 := hK
        exact W.iret (v := r_29) hx hb hr (hlocks := hlocks) (fun t ht hW => ⟨⟨r_29, (o_4, o_5, o_6, o_7, o_8, o_9, o_10, o_11, o_12, o_13, o_14, o_15, o_16, o_17, o_18), rfl, ⟨(fun _ => ⟨w_3.2.1, w_3.2.2.2.1⟩), w_3.2.2.1⟩, by rw [ht]; exact hP9, va_K.moved hW.alike hK9, hD9⟩, hS.F ht⟩) hS.2.2 dX4_above_30
    · exact absurd c_2 (by decide)
  · have w_1 : (p0.toInt < 0 ∨ len.toInt ≤ p0.toInt) := w_1
    refine lv_if_ne (tgt := 13) hx hb dX4_above_8 (by decide) (fun c_30 => ?_) (fun c_30 => ?_)
    · exact absurd c_30 (by decide)
    · refine lv_iconst (v := (-1)) hx hb dX4_above_11 (by decide) ?_
      have hP9 := hP
      have hD9 := hD
      have hK9 := hK
      exact W.iret (v := (-1)) hx hb hr (hlocks := hlocks) (fun t ht hW => ⟨⟨(-1), (old, nodes, here, ff, ft, fs, fo, fe, uv, un, js, jl, je, jv, jn), rfl, ⟨l0, s0⟩, by rw [ht]; exact hP9, va_K.moved hW.alike hK9, hD9⟩, hS.F ht⟩) hS.2.2 dX4_above_12

set_option maxHeartbeats 4000000 in
set_option maxRecDepth 100000 in
theorem c_X4_holds_x (l : Launch) (dC : Nat → ClassId) (dI : Nat → Nat → Nat) (m_ : Nat) (q_row : Nat) (q_t : Nat) (t_ : Nat) (h0 : Nat) (k0 : Nat) (w_ : Nat) (z_ : Nat) (slots : Int32) (old : Int32) (q_joined : Nat) (q_from : Nat) (q_to : Nat) (q_size : Nat) (q_lossOf : Nat) (q_lessBy : Nat) (q_value : Nat) (q_number : Nat) (nodes : Int32) (here : Int32) (q_cell : Nat) (cyI : ClassId) (len : Int32) (f : Nat → Int32) (ff : Nat → Int32) (ft : Nat → Int32) (fs : Nat → Int32) (fo : Nat → Int32) (uv : Nat → Int32) (un : Nat → Int32) (fe : Nat → Int32) (j_v : Nat) (j_n : Nat) (js : Int32) (jl : Int32) (je : Int32) (jv : Nat → Int32) (jn : Nat → Int32) (p0 : Int32) (sz : Nat) (a0 : 0 ≤ len.toInt) (a1 : len.toInt ≤ 160) (s0 : sixes fs) (sl0 : 1 ≤ slots.toInt) (sl1 : slots.toInt ≤ 6) (l0 : laidX old slots here f ff ft fs fo fe uv un nodes len) : kx_MQ l (dC, dI) yX4_holds wsX4_holds ({ frames := 6, cells := 0, slots := 0, locals := 270 }) [.ref m_, .int p0] [kx_4 m_ q_row q_t t_ h0 k0 w_ z_ slots old, kx_2 q_t q_row q_joined q_from q_to q_size q_lossOf q_lessBy q_value q_number nodes here, kx_0 q_row q_cell len, kx_a q_cell cyI 160 f, kx_a q_from cyI 319 ff, kx_a q_to cyI 319 ft, kx_a q_size cyI 319 fs, kx_a q_lossOf cyI 319 fo, kx_a q_lessBy cyI 319 fe, kx_a q_value cyI 1914 uv, kx_a q_number cyI 1914 un, kx_3 q_joined j_v j_n js jl je, kx_a j_v cyI 12 jv, kx_a j_n cyI 12 jn] [(cyI, .int)] sz (fun A => va_Qi (fun (r : Int32) (u : Int32 × Int32 × Int32 × (Nat → Int32) × (Nat → Int32) × (Nat → Int32) × (Nat → Int32) × (Nat → Int32) × (Nat → Int32) × (Nat → Int32) × Int32 × Int32 × Int32 × (Nat → Int32) × (Nat → Int32)) => laidX u.1 slots u.2.2.1 f u.2.2.2.1 u.2.2.2.2.1 u.2.2.2.2.2.1 u.2.2.2.2.2.2.1 u.2.2.2.2.2.2.2.1 u.2.2.2.2.2.2.2.2.1 u.2.2.2.2.2.2.2.2.2.1 u.2.1 len ∧ sixes u.2.2.2.2.2.1) (fun (u : Int32 × Int32 × Int32 × (Nat → Int32) × (Nat → Int32) × (Nat → Int32) × (Nat → Int32) × (Nat → Int32) × (Nat → Int32) × (Nat → Int32) × Int32 × Int32 × Int32 × (Nat → Int32) × (Nat → Int32)) (t : State) => va_P (dC, dI) vwCl [kx_4 m_ q_row q_t t_ h0 k0 w_ z_ slots u.1, kx_2 q_t q_row q_joined q_from q_to q_size q_lossOf q_lessBy q_value q_number u.2.1 u.2.2.1, kx_0 q_row q_cell len, kx_a q_cell cyI 160 f, kx_a q_from cyI 319 u.2.2.2.1, kx_a q_to cyI 319 u.2.2.2.2.1, kx_a q_size cyI 319 u.2.2.2.2.2.1, kx_a q_lossOf cyI 319 u.2.2.2.2.2.2.1, kx_a q_lessBy cyI 319 u.2.2.2.2.2.2.2.1, kx_a q_value cyI 1914 u.2.2.2.2.2.2.2.2.1, kx_a q_number cyI 1914 u.2.2.2.2.2.2.2.2.2.1, kx_3 q_joined j_v j_n u.2.2.2.2.2.2.2.2.2.2.1 u.2.2.2.2.2.2.2.2.2.2.2.1 u.2.2.2.2.2.2.2.2.2.2.2.2.1, kx_a j_v cyI 12 u.2.2.2.2.2.2.2.2.2.2.2.2.2.1, kx_a j_n cyI 12 u.2.2.2.2.2.2.2.2.2.2.2.2.2.2] t.heap ∧ va_K (dC, dI) vwCl [(cyI, .int)] t ∧ va_D A [kx_4 m_ q_row q_t t_ h0 k0 w_ z_ slots u.1, kx_2 q_t q_row q_joined q_from q_to q_size q_lossOf q_lessBy q_value q_number u.2.1 u.2.2.1, kx_0 q_row q_cell len, kx_a q_cell cyI 160 f, kx_a q_from cyI 319 u.2.2.2.1, kx_a q_to cyI 319 u.2.2.2.2.1, kx_a q_size cyI 319 u.2.2.2.2.2.1, kx_a q_lossOf cyI 319 u.2.2.2.2.2.2.1, kx_a q_lessBy cyI 319 u.2.2.2.2.2.2.2.1, kx_a q_value cyI 1914 u.2.2.2.2.2.2.2.2.1, kx_a q_number cyI 1914 u.2.2.2.2.2.2.2.2.2.1, kx_3 q_joined j_v j_n u.2.2.2.2.2.2.2.2.2.2.1 u.2.2.2.2.2.2.2.2.2.2.2.1 u.2.2.2.2.2.2.2.2.2.2.2.2.1, kx_a j_v cyI 12 u.2.2.2.2.2.2.2.2.2.2.2.2.2.1, kx_a j_n cyI 12 u.2.2.2.2.2.2.2.2.2.2.2.2.2.2]) A) := by
  refine kx_stQ (ws := wsX4_holds) (cc := cX4_holds) (maxL := 2) (ret := (some .int)) (by decide) rfl (Nat.le_of_ble_eq_true rfl) ?_
  intro p e s m below meth c A ls hx hb hr hlocks hts hown hml hA hS hP hK hD hl
  have hown : s.vm.findClass RX4 = some m.cls := hown
  have hl : lv_has ls 2 [(0, .ref m_), (1, .int p0)] := hl
  have hf_12 := hts (.fieldLink RX4 12 "MajorityIndex" "row" "LMajorityIndex$Row;") (List.mem_of_getElem? (i := 1) rfl)
  have hi_4 : ∀ w ∈ u_ws RX4 TX4 9, w ∈ wsX4_holds := fun w h => List.mem_cons_of_mem _ (List.mem_append_left _ (List.mem_append_left _ (List.mem_append_left _ (List.mem_append_right _ h))))
  refine lv_aload_n hx hb dX4_holds_0 rfl (lv_at hl 0 rfl) ?_
  refine va_get (D := (dC, dI)) (ci := 4) (v := .ref q_row) (C := RX4) (T := TX4) (N := 9) hx hb hts hi_4 hown hK hP 0 rfl rfl 0 (by decide) hf_12 (fun _ h9 => h9) rfl dX4_holds_1 ?_
  refine lv_iload_n hx hb dX4_holds_4 rfl (lv_at hl 1 rfl) ?_
  have hPc := hP.sub (ws' := [kx_0 q_row q_cell len]) [2] rfl
  have hKc := hK.sub (tys' := []) [] rfl
  refine vp_callSi (W.runV (As := [.int p0]) (rest := []) ⟨hx, hb, hml, hown, hts⟩ (c_X0_hasPlace l dC dI q_row q_cell len p0) (cwV 1 hts gX4_holds_X0_hasPlace rfl rfl rfl (by decide +kernel) ⟨Nat.le_of_ble_eq_true rfl, Nat.le_of_ble_eq_true rfl⟩) ⟨fun a U g mk q => by obtain ⟨q0, qP, qK⟩ := q; exact ⟨q0, qP, va_K.moved (u := U) (U := U.calling g mk a) (Vm.Alike.refl U.vm) qK⟩, kx_rc0 hKc hPc (q0 := 0) rfl, fun U hU hW => ⟨rfl, by rw [hU]; exact hPc, va_K.moved hW.alike hKc⟩⟩ rfl rfl hl.1 rfl (lv_room (Nat.le_of_ble_eq_true rfl)) dX4_holds_5 ⟨Nat.le_of_ble_eq_true rfl, Nat.le_of_ble_eq_true rfl⟩) (fun r_1 w_1 => ?_)
  rcases w_1 with ⟨rfl, w_1⟩ | ⟨rfl, w_1⟩
  · have w_1 : (0 ≤ p0.toInt ∧ p0.toInt < len.toInt) := w_1
    refine lv_if_ne (tgt := 13) hx hb dX4_holds_8 (by decide) (fun c_2 => ?_) (fun c_2 => ?_)
    · refine lv_aload_n hx hb dX4_holds_13 rfl (lv_at hl 0 rfl) ?_
      have hPc := hP
      have hKc := hK
      have hDc := hD
      have hFc := kx_free hD hS hA
      refine va_callr (va_runV (As := []) (rest := []) ⟨hx, hb, hml, hown, hts⟩ (kx_un (c_X4_laidTree_x l dC dI m_ q_row q_t t_ h0 k0 w_ z_ slots old q_joined q_from q_to q_size q_lossOf q_lessBy q_value q_number nodes here q_cell cyI len f ff ft fs fo uv un fe j_v j_n js jl je jv jn s.heap.size a0 a1 s0 sl0 sl1 l0)) (cwV 0 hts gX4_holds_X4_laidTree rfl rfl rfl (by decide +kernel) ⟨Nat.le_of_ble_eq_true rfl, Nat.le_of_ble_eq_true rfl⟩) ⟨fun a U g mk q => by obtain ⟨q0, q1, qP, qK, qD⟩ := q; exact ⟨q0, q1, qP, va_K.moved (u := U) (U := U.calling g mk a) (Vm.Alike.refl U.vm) qK, qD⟩, kx_rc4 hKc hPc (q0 := 0) rfl, fun U hU hW => ⟨rfl, by rw [hU], by rw [hU]; exact hPc, va_K.moved hW.alike hKc, hDc.weaken (fun _ _ _ _ => trivial)⟩⟩ rfl rfl hl.1 rfl (lv_room (Nat.le_of_ble_eq_true rfl)) dX4_holds_14 ⟨Nat.le_of_ble_eq_true rfl, Nat.le_of_ble_eq_true rfl⟩) hS (fun q _ h => hFc q h) hFc (fun u ra t H1 locs ht hvm w_3 hB hz1 hk1 hS => ?_)
      obtain ⟨o_4, o_5, o_6, o_7, o_8, o_9, o_10, o_11, o_12, o_13, o_14, o_15, o_16, o_17, o_18⟩ := u
      dsimp only at w_3 hB
      obtain ⟨er, hP1, hK1, hD1⟩ := hB
      rw [ht] at hP1
      have hK1 := va_K.moved hvm.symm hK1
      have hD := hD1.weaken (fun _ q _ h => hFc q.1 h)
      have hP := hP1
      clear hP1 hD1 hK1 hk1 hz1 hFc hDc hPc hKc
      generalize H1 = H at hP hS ⊢
      have w_3 : o_4.toInt = 0 ∧ o_6 = slots ∧ sixes o_9 ∧ mj_C slots.toNatClampNeg f o_7 o_8 o_9 o_10 o_11 o_12 o_13 o_5.toInt len.toInt ∧ 0 ≤ o_5.toInt ∧ o_5.toInt ≤ 319 ∧ treeOk o_7 o_8 o_5.toInt len.toInt := w_3
      rw [er]
      have i_hs := congrArg Int32.toInt w_3.2.1
      refine lv_iload_n hx hb dX4_holds_17 rfl (lv_at hl 1 rfl) ?_
      have hPc := kx_selP (ws' := [kx_2 q_t q_row q_joined q_from q_to q_size q_lossOf q_lessBy q_value q_number o_5 o_6, kx_0 q_row q_cell len, kx_a q_cell cyI 160 f, kx_a q_from cyI 319 o_7, kx_a q_to cyI 319 o_8, kx_a q_size cyI 319 o_9, kx_a q_value cyI 1914 o_12, kx_a q_number cyI 1914 o_13]) hP [false, true, true, true, true, true, true, false, false, true, true, false, false, false] rfl
      have hKc := hK
      refine vp_callSi (W.runV (As := [.int p0]) (rest := []) ⟨hx, hb, hml, hown, hts⟩ (c_X2_holding l dC dI q_t q_row q_joined q_from q_to q_size q_lossOf q_lessBy q_value q_number o_5 o_6 q_cell cyI len f o_7 o_8 o_9 o_12 o_13 p0 w_3.2.2.2.2.1 w_3.2.2.2.2.2.1 w_3.2.2.1 (om_10 w_1.1) (om_143 a1 w_1.2)) (cwV 1 hts gX4_holds_X2_holding rfl rfl rfl (by decide +kernel) ⟨Nat.le_of_ble_eq_true rfl, Nat.le_of_ble_eq_true rfl⟩) ⟨fun a U g mk q => by obtain ⟨q0, qP, qK⟩ := q; exact ⟨q0, qP, va_K.moved (u := U) (U := U.calling g mk a) (Vm.Alike.refl U.vm) qK⟩, kx_rc2 hKc hPc (q0 := 0) rfl, fun U hU hW => ⟨rfl, by rw [hU]; exact hPc, va_K.moved hW.alike hKc⟩⟩ rfl rfl hl.1 rfl (lv_room (Nat.le_of_ble_eq_true rfl)) dX4_holds_18 ⟨Nat.le_of_ble_eq_true rfl, Nat.le_of_ble_eq_true rfl⟩) (fun r_19 w_19 => ?_)
      have hP9 := hP
      have hD9 := hD
      have hK9 := hK
      exact W.iret (v := r_19) hx hb hr (hlocks := hlocks) (fun t ht hW => ⟨⟨r_19, (o_4, o_5, o_6, o_7, o_8, o_9, o_10, o_11, o_12, o_13, o_14, o_15, o_16, o_17, o_18), rfl, ⟨(fun _ => ⟨w_3.2.1, w_3.2.2.2.1⟩), w_3.2.2.1⟩, by rw [ht]; exact hP9, va_K.moved hW.alike hK9, hD9⟩, hS.F ht⟩) hS.2.2 dX4_holds_21
    · exact absurd c_2 (by decide)
  · have w_1 : (p0.toInt < 0 ∨ len.toInt ≤ p0.toInt) := w_1
    refine lv_if_ne (tgt := 13) hx hb dX4_holds_8 (by decide) (fun c_20 => ?_) (fun c_20 => ?_)
    · exact absurd c_20 (by decide)
    · refine lv_iconst (v := (-1)) hx hb dX4_holds_11 (by decide) ?_
      have hP9 := hP
      have hD9 := hD
      have hK9 := hK
      exact W.iret (v := (-1)) hx hb hr (hlocks := hlocks) (fun t ht hW => ⟨⟨(-1), (old, nodes, here, ff, ft, fs, fo, fe, uv, un, js, jl, je, jv, jn), rfl, ⟨l0, s0⟩, by rw [ht]; exact hP9, va_K.moved hW.alike hK9, hD9⟩, hS.F ht⟩) hS.2.2 dX4_holds_12


def mj_tot (N : Nat → Int32) (o : Nat) : Nat → Int32
  | 0 => 0
  | k + 1 => mj_tot N o k + N (o + k)
set_option maxHeartbeats 4000000 in
set_option maxRecDepth 100000 in
theorem c_X3_total_x (l : Launch) (dC : Nat → ClassId) (dI : Nat → Nat → Nat) (h0 : Nat) (a_v : Nat) (a_n : Nat) (cyI : ClassId) (vs : Int32) (lo : Int32) (le : Int32) (fv : Nat → Int32) (fn : Nat → Int32) (a0 : 0 ≤ vs.toInt) (a1 : vs.toInt ≤ 12) : Met l yX3_total wsX3_total ({ frames := 0, cells := 0, slots := 0, locals := 0 }) (va_Pc [.ref h0] (fun U => va_P (dC, dI) vwCl [kx_3 h0 a_v a_n vs lo le, kx_a a_v cyI 12 fv, kx_a a_n cyI 12 fn] U.heap ∧ va_K (dC, dI) vwCl [(cyI, .int)] U)) (vp_Si (fun r : Int32 => r = mj_tot fn 0 vs.toNatClampNeg)) 0 0 (fun _ => False) := by
  refine kx_stS (ws := wsX3_total) (cc := cX3_total) (maxL := 3) (ret := (some .int)) (by decide) rfl (Nat.le_of_ble_eq_true rfl) ?_
  intro p e s m below meth c ls hx hb hr hlocks hts hown hml hP hK hl
  have hown : s.vm.findClass RX3 = some m.cls := hown
  have hl : lv_has ls 3 [(0, .ref h0)] := hl
  have hf_18 := hts (.fieldLink RX3 18 "MajorityIndex$Votes" "size" "I") (List.mem_of_getElem? (i := 1) rfl)
  have hi_3 : ∀ w ∈ u_ws RX3 TX3 5, w ∈ wsX3_total := fun w h => List.mem_cons_of_mem _ (List.mem_append_right _ h)
  have hf_15 := hts (.fieldLink RX3 15 "MajorityIndex$Votes" "number" "[I") (List.mem_of_getElem? (i := 2) rfl)
  have n_vs := ki_nat vs rfl (om_10 a0)
  refine lv_iconst (v := 0) hx hb dX3_total_0 (by decide) ?_
  refine lv_istore_n (lv' := [(1, .int 0), (0, .ref h0)]) hx hb dX3_total_1 rfl hl (by decide) rfl (fun ls hl => ?_)
  refine lv_iconst (v := 0) hx hb dX3_total_2 (by decide) ?_
  refine lv_istore_n (lv' := [(2, .int 0), (1, .int 0), (0, .ref h0)]) hx hb dX3_total_3 rfl hl (by decide) rfl (fun ls hl => ?_)
  have LP1 : ∀ (n : Nat) (i : Int32) (all : Int32), (0 ≤ i.toInt) → (all = mj_tot fn 0 i.toNatClampNeg) → (i.toInt ≤ vs.toInt) → (vs.toInt - i.toInt).toNat < n → ∀ (ls : Array Slot), lv_has ls 3 [(2, .int i), (1, .int all), (0, .ref h0)] → W p l e (headSpec wsX3_total ({ frames := 0, cells := 0, slots := 0, locals := 0 })).room s m ([.ref h0] : List Value).toArray below meth c s.heap [] 0 0 (MQ below (vp_Si (fun r : Int32 => r = mj_tot fn 0 vs.toNatClampNeg)) ([.ref h0] : List Value).toArray s 0 0 (fun _ => False)) (F0 m 4 ls []) := by
    intro n
    induction n with
    | zero => intro i all LP1_h0 LP1_h1 LP1_h2 hn; exact absurd hn (Nat.not_lt_zero _)
    | succ n ih1 =>
      intro i all LP1_h0 LP1_h1 LP1_h2 hn1 ls hl
      have n_i := ki_nat i rfl (om_10 LP1_h0)
      refine lv_iload_n hx hb dX3_total_4 rfl (lv_at hl 0 rfl) ?_
      refine lv_aload_n hx hb dX3_total_5 rfl (lv_at hl 2 rfl) ?_
      refine va_get (D := (dC, dI)) (ci := 3) (v := .int vs) (C := RX3) (T := TX3) (N := 5) hx hb hts hi_3 hown hK hP 0 rfl rfl 2 (by decide) hf_18 (fun _ h9 => h9) rfl dX3_total_6 ?_
      refine lv_icmp_ge (tgt := 27) hx hb dX3_total_9 (by decide) (fun c_1 => ?_) (fun c_1 => ?_)
      · have i_1 : vs.toInt ≤ i.toInt := kc_le c_1
        refine lv_iload_n hx hb dX3_total_27 rfl (lv_at hl 1 rfl) ?_
        exact W.iret (v := all) hx hb hr (hlocks := hlocks) (fun t ht hW => ⟨all, rfl, (by (try dsimp only); rw [LP1_h1, show i.toNatClampNeg = vs.toNatClampNeg by omega]), ht⟩) (fun q hq => by cases hq) dX3_total_28
      · have i_1 : i.toInt < vs.toInt := kc_nle c_1
        refine lv_iload_n hx hb dX3_total_12 rfl (lv_at hl 1 rfl) ?_
        refine lv_aload_n hx hb dX3_total_13 rfl (lv_at hl 2 rfl) ?_
        refine va_get (D := (dC, dI)) (ci := 3) (v := .ref a_n) (C := RX3) (T := TX3) (N := 5) hx hb hts hi_3 hown hK hP 0 rfl rfl 1 (by decide) hf_15 (fun _ h9 => h9) rfl dX3_total_14 ?_
        refine lv_iload_n hx hb dX3_total_17 rfl (lv_at hl 0 rfl) ?_
        refine va_iald hx hb hK hP 2 0 rfl rfl (ki_in (om_10 LP1_h0) (om_32 a1 i_1)) dX3_total_18 ?_
        refine lv_topi (fun y_2 ey_2 => ?_)
        have j_2 : y_2.toInt = (fn i.toNatClampNeg).toInt := congrArg Int32.toInt ey_2
        refine lv_iadd hx hb dX3_total_19 ?_
        refine lv_topi (fun y_3 ey_3 => ?_)
        refine lv_istore_n (lv' := [(1, .int y_3), (2, .int i), (0, .ref h0)]) hx hb dX3_total_20 rfl hl (by decide) rfl (fun ls hl => ?_)
        obtain ⟨x_4, ex_4⟩ : ∃ y : Int32, y = i + 1 := ⟨_, rfl⟩
        have i_4 : x_4.toInt = i.toInt + 1 := ki_add ex_4 rfl rfl (om_13 LP1_h0) (om_53 a1 LP1_h2)
        refine lv_iinc (v := x_4) (lv' := [(2, .int x_4), (1, .int y_3), (0, .ref h0)]) hx hb dX3_total_21 hl (k := 1) rfl (by rw [ex_4]; rfl) (by decide) rfl (fun ls hl => ?_)
        refine lv_goto (tgt := 4) hx hb dX3_total_24 (by decide) ?_
        have n_5 := ki_nat x_4 rfl (om_34 LP1_h0 i_4)
        exact ih1 x_4 y_3 (om_34 LP1_h0 i_4) (by rw [ey_3, show x_4.toNatClampNeg = i.toNatClampNeg + 1 by omega, ey_2]; show all + fn i.toNatClampNeg = mj_tot fn 0 i.toNatClampNeg + fn (0 + i.toNatClampNeg); rw [← LP1_h1, Nat.zero_add]) (om_54 i_1 i_4) (om_mu hn1 (om_5 i_4) (om_6 i_1)) ls (lv_sub hl [0, 1, 2] rfl)
  have k_6 : (0 : Int32).toInt = 0 := rfl
  have k_7 : (0 : Int32).toInt = 0 := rfl
  exact LP1 ((vs.toInt - 0 : Int).toNat + 1) 0 0 om_35 rfl (om_10 a0) (Nat.lt_succ_self _) ls (lv_sub hl [0, 1, 2] rfl)

set_option maxHeartbeats 4000000 in
set_option maxRecDepth 100000 in
theorem c_X4_summary_x (l : Launch) (dC : Nat → ClassId) (dI : Nat → Nat → Nat) (m_ : Nat) (q_row : Nat) (q_t : Nat) (t_ : Nat) (h0 : Nat) (k0 : Nat) (w_ : Nat) (z_ : Nat) (slots : Int32) (old : Int32) (q_joined : Nat) (q_from : Nat) (q_to : Nat) (q_size : Nat) (q_lossOf : Nat) (q_lessBy : Nat) (q_value : Nat) (q_number : Nat) (nodes : Int32) (here : Int32) (q_cell : Nat) (cyI : ClassId) (len : Int32) (f : Nat → Int32) (ff : Nat → Int32) (ft : Nat → Int32) (fs : Nat → Int32) (fo : Nat → Int32) (uv : Nat → Int32) (un : Nat → Int32) (fe : Nat → Int32) (j_v : Nat) (j_n : Nat) (js : Int32) (jl : Int32) (je : Int32) (jv : Nat → Int32) (jn : Nat → Int32) (a_v : Nat) (a_n : Nat) (vs : Int32) (lo : Int32) (le : Int32) (fv : Nat → Int32) (fn : Nat → Int32) (p0 : Int32) (p1 : Int32) (p2 : Int32) (sz : Nat) (a0 : 0 ≤ len.toInt) (a1 : len.toInt ≤ 160) (s0 : sixes fs) (sl0 : 1 ≤ slots.toInt) (sl1 : slots.toInt ≤ 6) (l0 : laidX old slots here f ff ft fs fo fe uv un nodes len) : kx_MQ l (dC, dI) yX4_summary wsX4_summary ({ frames := 6, cells := 0, slots := 0, locals := 270 }) [.ref m_, .int p0, .int p1, .int p2] [kx_4 m_ q_row q_t t_ h0 k0 w_ z_ slots old, kx_2 q_t q_row q_joined q_from q_to q_size q_lossOf q_lessBy q_value q_number nodes here, kx_0 q_row q_cell len, kx_a q_cell cyI 160 f, kx_a q_from cyI 319 ff, kx_a q_to cyI 319 ft, kx_a q_size cyI 319 fs, kx_a q_lossOf cyI 319 fo, kx_a q_lessBy cyI 319 fe, kx_a q_value cyI 1914 uv, kx_a q_number cyI 1914 un, kx_3 q_joined j_v j_n js jl je, kx_a j_v cyI 12 jv, kx_a j_n cyI 12 jn, kx_3 h0 a_v a_n vs lo le, kx_a a_v cyI 12 fv, kx_a a_n cyI 12 fn] [(cyI, .int)] sz (fun A => va_Qi (fun (r : Int32) (u : Int32 × Int32 × Int32 × (Nat → Int32) × (Nat → Int32) × (Nat → Int32) × (Nat → Int32) × (Nat → Int32) × (Nat → Int32) × (Nat → Int32) × Int32 × Int32 × Int32 × (Nat → Int32) × (Nat → Int32) × Int32 × Int32 × Int32 × (Nat → Int32) × (Nat → Int32)) => (((0 ≤ p0.toInt ∧ p0.toInt < p1.toInt ∧ p1.toInt ≤ len.toInt ∧ 0 ≤ p2.toInt ∧ p2.toInt ≤ 2) ∧ u.1.toInt = 0 ∧ mj_GA slots.toNatClampNeg u.2.2.2.1 u.2.2.2.2.1 u.2.2.2.2.2.1 u.2.2.2.2.2.2.1 u.2.2.2.2.2.2.2.2.1 u.2.2.2.2.2.2.2.2.2.1 p0.toInt p1.toInt (mj_pq u.2.2.2.1 u.2.2.2.2.1 p0.toInt p1.toInt u.2.1.toNatClampNeg) u.2.2.2.2.2.2.2.2.2.2.2.2.2.2.2.1 u.2.2.2.2.2.2.2.2.2.2.2.2.2.2.2.2.1 u.2.2.2.2.2.2.2.2.2.2.2.2.2.2.2.2.2.2.1 u.2.2.2.2.2.2.2.2.2.2.2.2.2.2.2.2.2.2.2 ∧ ((p2.toInt = 0 ∧ r = u.2.2.2.2.2.2.2.2.2.2.2.2.2.2.2.1) ∨ (p2.toInt = 1 ∧ r = mj_tot u.2.2.2.2.2.2.2.2.2.2.2.2.2.2.2.2.2.2.2 0 u.2.2.2.2.2.2.2.2.2.2.2.2.2.2.2.1.toNatClampNeg) ∨ (p2.toInt = 2 ∧ r = u.2.2.2.2.2.2.2.2.2.2.2.2.2.2.2.2.1))) ∨ ((p0.toInt < 0 ∨ p1.toInt ≤ p0.toInt ∨ len.toInt < p1.toInt ∨ p2.toInt < 0 ∨ 2 < p2.toInt) ∧ r = -1)) ∧ laidX u.1 slots u.2.2.1 f u.2.2.2.1 u.2.2.2.2.1 u.2.2.2.2.2.1 u.2.2.2.2.2.2.1 u.2.2.2.2.2.2.2.1 u.2.2.2.2.2.2.2.2.1 u.2.2.2.2.2.2.2.2.2.1 u.2.1 len ∧ sixes u.2.2.2.2.2.1) (fun (u : Int32 × Int32 × Int32 × (Nat → Int32) × (Nat → Int32) × (Nat → Int32) × (Nat → Int32) × (Nat → Int32) × (Nat → Int32) × (Nat → Int32) × Int32 × Int32 × Int32 × (Nat → Int32) × (Nat → Int32) × Int32 × Int32 × Int32 × (Nat → Int32) × (Nat → Int32)) (t : State) => va_P (dC, dI) vwCl [kx_4 m_ q_row q_t t_ h0 k0 w_ z_ slots u.1, kx_2 q_t q_row q_joined q_from q_to q_size q_lossOf q_lessBy q_value q_number u.2.1 u.2.2.1, kx_0 q_row q_cell len, kx_a q_cell cyI 160 f, kx_a q_from cyI 319 u.2.2.2.1, kx_a q_to cyI 319 u.2.2.2.2.1, kx_a q_size cyI 319 u.2.2.2.2.2.1, kx_a q_lossOf cyI 319 u.2.2.2.2.2.2.1, kx_a q_lessBy cyI 319 u.2.2.2.2.2.2.2.1, kx_a q_value cyI 1914 u.2.2.2.2.2.2.2.2.1, kx_a q_number cyI 1914 u.2.2.2.2.2.2.2.2.2.1, kx_3 q_joined j_v j_n u.2.2.2.2.2.2.2.2.2.2.1 u.2.2.2.2.2.2.2.2.2.2.2.1 u.2.2.2.2.2.2.2.2.2.2.2.2.1, kx_a j_v cyI 12 u.2.2.2.2.2.2.2.2.2.2.2.2.2.1, kx_a j_n cyI 12 u.2.2.2.2.2.2.2.2.2.2.2.2.2.2.1, kx_3 h0 a_v a_n u.2.2.2.2.2.2.2.2.2.2.2.2.2.2.2.1 u.2.2.2.2.2.2.2.2.2.2.2.2.2.2.2.2.1 u.2.2.2.2.2.2.2.2.2.2.2.2.2.2.2.2.2.1, kx_a a_v cyI 12 u.2.2.2.2.2.2.2.2.2.2.2.2.2.2.2.2.2.2.1, kx_a a_n cyI 12 u.2.2.2.2.2.2.2.2.2.2.2.2.2.2.2.2.2.2.2] t.heap ∧ va_K (dC, dI) vwCl [(cyI, .int)] t ∧ va_D A [kx_4 m_ q_row q_t t_ h0 k0 w_ z_ slots u.1, kx_2 q_t q_row q_joined q_from q_to q_size q_lossOf q_lessBy q_value q_number u.2.1 u.2.2.1, kx_0 q_row q_cell len, kx_a q_cell cyI 160 f, kx_a q_from cyI 319 u.2.2.2.1, kx_a q_to cyI 319 u.2.2.2.2.1, kx_a q_size cyI 319 u.2.2.2.2.2.1, kx_a q_lossOf cyI 319 u.2.2.2.2.2.2.1, kx_a q_lessBy cyI 319 u.2.2.2.2.2.2.2.1, kx_a q_value cyI 1914 u.2.2.2.2.2.2.2.2.1, kx_a q_number cyI 1914 u.2.2.2.2.2.2.2.2.2.1, kx_3 q_joined j_v j_n u.2.2.2.2.2.2.2.2.2.2.1 u.2.2.2.2.2.2.2.2.2.2.2.1 u.2.2.2.2.2.2.2.2.2.2.2.2.1, kx_a j_v cyI 12 u.2.2.2.2.2.2.2.2.2.2.2.2.2.1, kx_a j_n cyI 12 u.2.2.2.2.2.2.2.2.2.2.2.2.2.2.1, kx_3 h0 a_v a_n u.2.2.2.2.2.2.2.2.2.2.2.2.2.2.2.1 u.2.2.2.2.2.2.2.2.2.2.2.2.2.2.2.2.1 u.2.2.2.2.2.2.2.2.2.2.2.2.2.2.2.2.2.1, kx_a a_v cyI 12 u.2.2.2.2.2.2.2.2.2.2.2.2.2.2.2.2.2.2.1, kx_a a_n cyI 12 u.2.2.2.2.2.2.2.2.2.2.2.2.2.2.2.2.2.2.2]) A) := by
  refine kx_stQ (ws := wsX4_summary) (cc := cX4_summary) (maxL := 4) (ret := (some .int)) (by decide) rfl (Nat.le_of_ble_eq_true rfl) ?_
  intro p e s m below meth c A ls hx hb hr hlocks hts hown hml hA hS hP hK hD hl
  have hown : s.vm.findClass RX4 = some m.cls := hown
  have hl : lv_has ls 4 [(0, .ref m_), (1, .int p0), (2, .int p1), (3, .int p2)] := hl
  have hf_12 := hts (.fieldLink RX4 12 "MajorityIndex" "row" "LMajorityIndex$Row;") (List.mem_of_getElem? (i := 1) rfl)
  have hi_4 : ∀ w ∈ u_ws RX4 TX4 9, w ∈ wsX4_summary := fun w h => List.mem_cons_of_mem _ (List.mem_append_left _ (List.mem_append_left _ (List.mem_append_left _ (List.mem_append_right _ h))))
  have hf_35 := hts (.fieldLink RX4 35 "MajorityIndex" "votes" "LMajorityIndex$Votes;") (List.mem_of_getElem? (i := 2) rfl)
  have hf_174 := hts (.fieldLink RX4 174 "MajorityIndex$Votes" "size" "I") (List.mem_of_getElem? (i := 3) rfl)
  have hi_3 : ∀ w ∈ u_ws RX3 TX3 5, w ∈ wsX4_summary := fun w h => List.mem_cons_of_mem _ (List.mem_append_left _ (List.mem_append_left _ (List.mem_append_right _ h)))
  have hf_180 := hts (.fieldLink RX4 180 "MajorityIndex$Votes" "lost" "I") (List.mem_of_getElem? (i := 4) rfl)
  refine lv_aload_n hx hb dX4_summary_0 rfl (lv_at hl 0 rfl) ?_
  refine va_get (D := (dC, dI)) (ci := 4) (v := .ref q_row) (C := RX4) (T := TX4) (N := 9) hx hb hts hi_4 hown hK hP 0 rfl rfl 0 (by decide) hf_12 (fun _ h9 => h9) rfl dX4_summary_1 ?_
  refine lv_iload_n hx hb dX4_summary_4 rfl (lv_at hl 1 rfl) ?_
  refine lv_iload_n hx hb dX4_summary_5 rfl (lv_at hl 2 rfl) ?_
  have hPc := hP.sub (ws' := [kx_0 q_row q_cell len]) [2] rfl
  have hKc := hK.sub (tys' := []) [] rfl
  refine vp_callSi (W.runV (As := [.int p0, .int p1]) (rest := []) ⟨hx, hb, hml, hown, hts⟩ (c_X0_hasRange l dC dI q_row q_cell len p0 p1) (cwV 2 hts gX4_summary_X0_hasRange rfl rfl rfl (by decide +kernel) ⟨Nat.le_of_ble_eq_true rfl, Nat.le_of_ble_eq_true rfl⟩) ⟨fun a U g mk q => by obtain ⟨q0, qP, qK⟩ := q; exact ⟨q0, qP, va_K.moved (u := U) (U := U.calling g mk a) (Vm.Alike.refl U.vm) qK⟩, kx_rc0 hKc hPc (q0 := 0) rfl, fun U hU hW => ⟨rfl, by rw [hU]; exact hPc, va_K.moved hW.alike hKc⟩⟩ rfl rfl hl.1 rfl (lv_room (Nat.le_of_ble_eq_true rfl)) dX4_summary_6 ⟨Nat.le_of_ble_eq_true rfl, Nat.le_of_ble_eq_true rfl⟩) (fun r_1 w_1 => ?_)
  rcases w_1 with ⟨rfl, w_1⟩ | ⟨rfl, w_1⟩
  · have w_1 : (0 ≤ p0.toInt ∧ p0.toInt < p1.toInt ∧ p1.toInt ≤ len.toInt) := w_1
    refine lv_if_eq (tgt := 21) hx hb dX4_summary_9 (by decide) (fun c_2 => ?_) (fun c_2 => ?_)
    · exact absurd c_2 (by decide)
    · refine lv_iload_n hx hb dX4_summary_12 rfl (lv_at hl 3 rfl) ?_
      refine lv_if_lt (tgt := 21) hx hb dX4_summary_13 (by decide) (fun c_3 => ?_) (fun c_3 => ?_)
      · have i_3 : p2.toInt < 0 := kc_lt c_3
        refine lv_iconst (v := (-1)) hx hb dX4_summary_21 (by decide) ?_
        have hP9 := hP
        have hD9 := hD
        have hK9 := hK
        exact W.iret (v := (-1)) hx hb hr (hlocks := hlocks) (fun t ht hW => ⟨⟨(-1), (old, nodes, here, ff, ft, fs, fo, fe, uv, un, js, jl, je, jv, jn, vs, lo, le, fv, fn), rfl, ⟨Or.inr ⟨(by (try dsimp only); omega), rfl⟩, l0, s0⟩, by rw [ht]; exact hP9, va_K.moved hW.alike hK9, hD9⟩, hS.F ht⟩) hS.2.2 dX4_summary_22
      · have i_3 : 0 ≤ p2.toInt := kc_nlt c_3
        refine lv_iload_n hx hb dX4_summary_16 rfl (lv_at hl 3 rfl) ?_
        refine lv_iconst (v := 2) hx hb dX4_summary_17 (by decide) ?_
        refine lv_icmp_le (tgt := 23) hx hb dX4_summary_18 (by decide) (fun c_4 => ?_) (fun c_4 => ?_)
        · have i_4 : p2.toInt ≤ 2 := kc_le c_4
          refine lv_aload_n hx hb dX4_summary_23 rfl (lv_at hl 0 rfl) ?_
          obtain ⟨hPc, hDc, hFc, hCc⟩ := kx_preM (wc := [kx_4 m_ q_row q_t t_ h0 k0 w_ z_ slots old, kx_2 q_t q_row q_joined q_from q_to q_size q_lossOf q_lessBy q_value q_number nodes here, kx_0 q_row q_cell len, kx_a q_cell cyI 160 f, kx_a q_from cyI 319 ff, kx_a q_to cyI 319 ft, kx_a q_size cyI 319 fs, kx_a q_lossOf cyI 319 fo, kx_a q_lessBy cyI 319 fe, kx_a q_value cyI 1914 uv, kx_a q_number cyI 1914 un, kx_3 q_joined j_v j_n js jl je, kx_a j_v cyI 12 jv, kx_a j_n cyI 12 jn]) hP hD hS hA [true, true, true, true, true, true, true, true, true, true, true, true, true, true, false, false, false] rfl
          have hKc := hK
          refine va_callr (va_runV (As := []) (rest := []) ⟨hx, hb, hml, hown, hts⟩ (kx_un (c_X4_laidTree_x l dC dI m_ q_row q_t t_ h0 k0 w_ z_ slots old q_joined q_from q_to q_size q_lossOf q_lessBy q_value q_number nodes here q_cell cyI len f ff ft fs fo uv un fe j_v j_n js jl je jv jn s.heap.size a0 a1 s0 sl0 sl1 l0)) (cwV 0 hts gX4_summary_X4_laidTree rfl rfl rfl (by decide +kernel) ⟨Nat.le_of_ble_eq_true rfl, Nat.le_of_ble_eq_true rfl⟩) ⟨fun a U g mk q => by obtain ⟨q0, q1, qP, qK, qD⟩ := q; exact ⟨q0, q1, qP, va_K.moved (u := U) (U := U.calling g mk a) (Vm.Alike.refl U.vm) qK, qD⟩, kx_rc4 hKc hPc (q0 := 0) rfl, fun U hU hW => ⟨rfl, by rw [hU], by rw [hU]; exact hPc, va_K.moved hW.alike hKc, hDc.weaken (fun _ _ _ _ => trivial)⟩⟩ rfl rfl hl.1 rfl (lv_room (Nat.le_of_ble_eq_true rfl)) dX4_summary_24 ⟨Nat.le_of_ble_eq_true rfl, Nat.le_of_ble_eq_true rfl⟩) hS (fun q _ h => hFc q h) hFc (fun u ra t H1 locs ht hvm w_5 hB hz1 hk1 hS => ?_)
          obtain ⟨o_6, o_7, o_8, o_9, o_10, o_11, o_12, o_13, o_14, o_15, o_16, o_17, o_18, o_19, o_20⟩ := u
          dsimp only at w_5 hB
          obtain ⟨er, hP1, hK1, hD1⟩ := hB
          rw [ht] at hP1
          have hK1 := va_K.moved hvm.symm hK1
          obtain ⟨hP, hD⟩ := kx_joinM (w2 := [kx_4 m_ q_row q_t t_ h0 k0 w_ z_ slots o_6, kx_2 q_t q_row q_joined q_from q_to q_size q_lossOf q_lessBy q_value q_number o_7 o_8, kx_0 q_row q_cell len, kx_a q_cell cyI 160 f, kx_a q_from cyI 319 o_9, kx_a q_to cyI 319 o_10, kx_a q_size cyI 319 o_11, kx_a q_lossOf cyI 319 o_12, kx_a q_lessBy cyI 319 o_13, kx_a q_value cyI 1914 o_14, kx_a q_number cyI 1914 o_15, kx_3 q_joined j_v j_n o_16 o_17 o_18, kx_a j_v cyI 12 o_19, kx_a j_n cyI 12 o_20, kx_3 h0 a_v a_n vs lo le, kx_a a_v cyI 12 fv, kx_a a_n cyI 12 fn]) hP hD hP1 hD1 hk1 hFc [true, true, true, true, true, true, true, true, true, true, true, true, true, true, false, false, false] hCc rfl
          clear hP1 hD1 hK1 hk1 hz1 hFc hDc hPc hKc hCc
          generalize H1 = H at hP hS ⊢
          have w_5 : o_6.toInt = 0 ∧ o_8 = slots ∧ sixes o_11 ∧ mj_C slots.toNatClampNeg f o_9 o_10 o_11 o_12 o_13 o_14 o_15 o_7.toInt len.toInt ∧ 0 ≤ o_7.toInt ∧ o_7.toInt ≤ 319 ∧ treeOk o_9 o_10 o_7.toInt len.toInt := w_5
          rw [er]
          have i_hs := congrArg Int32.toInt w_5.2.1
          refine lv_aload_n hx hb dX4_summary_27 rfl (lv_at hl 0 rfl) ?_
          refine va_get (D := (dC, dI)) (ci := 4) (v := .ref h0) (C := RX4) (T := TX4) (N := 9) hx hb hts hi_4 hown hK hP 0 rfl rfl 3 (by decide) hf_35 (fun _ h9 => h9) rfl dX4_summary_28 ?_
          refine lv_iload_n hx hb dX4_summary_31 rfl (lv_at hl 1 rfl) ?_
          refine lv_iload_n hx hb dX4_summary_32 rfl (lv_at hl 2 rfl) ?_
          obtain ⟨hPc, hDc, hFc, hCc⟩ := kx_preM (wc := [kx_2 q_t q_row q_joined q_from q_to q_size q_lossOf q_lessBy q_value q_number o_7 o_8, kx_a q_from cyI 319 o_9, kx_a q_to cyI 319 o_10, kx_a q_size cyI 319 o_11, kx_a q_lossOf cyI 319 o_12, kx_a q_value cyI 1914 o_14, kx_a q_number cyI 1914 o_15, kx_3 h0 a_v a_n vs lo le, kx_a a_v cyI 12 fv, kx_a a_n cyI 12 fn]) hP hD hS hA [false, true, false, false, true, true, true, true, false, true, true, false, false, false, true, true, true] rfl
          have hKc := hK
          refine va_callv (va_runV (As := [.ref h0, .int p0, .int p1]) (rest := []) ⟨hx, hb, hml, hown, hts⟩ (kx_un (c_X2_gather_x l dC dI q_t q_row q_joined q_from q_to q_size q_lossOf q_lessBy q_value q_number o_7 o_8 h0 a_v a_n cyI vs lo le fv fn len f o_9 o_10 o_11 o_12 o_14 o_15 o_13 p0 p1 H.size w_5.2.2.2.2.1 w_5.2.2.2.2.2.1 w_5.2.2.1 a1 (by rw [w_5.2.1]; omega) (by rw [w_5.2.1]; omega) w_5.2.2.2.2.2.2 (by rw [w_5.2.1]; exact w_5.2.2.2.1.2.2.2.2.2.2))) (cwV 3 hts gX4_summary_X2_gather rfl rfl rfl (by decide +kernel) ⟨Nat.le_of_ble_eq_true rfl, Nat.le_of_ble_eq_true rfl⟩) ⟨fun a U g mk q => by obtain ⟨q0, q1, qP, qK, qD⟩ := q; exact ⟨q0, q1, qP, va_K.moved (u := U) (U := U.calling g mk a) (Vm.Alike.refl U.vm) qK, qD⟩, kx_rc2 hKc hPc (q0 := 0) rfl, fun U hU hW => ⟨rfl, by rw [hU], by rw [hU]; exact hPc, va_K.moved hW.alike hKc, hDc.weaken (fun _ _ _ _ => trivial)⟩⟩ rfl rfl hl.1 rfl (lv_room (Nat.le_of_ble_eq_true rfl)) dX4_summary_33 ⟨Nat.le_of_ble_eq_true rfl, Nat.le_of_ble_eq_true rfl⟩) hS (fun q _ h => hFc q h) hFc (fun u t H1 locs ht hvm w_21 hB hz1 hk1 hS => ?_)
          obtain ⟨o_22, o_23, o_24, o_25, o_26⟩ := u
          dsimp only at w_21 hB
          obtain ⟨hP1, hK1, hD1⟩ := hB
          rw [ht] at hP1
          have hK1 := va_K.moved hvm.symm hK1
          obtain ⟨hP, hD⟩ := kx_joinM (w2 := [kx_4 m_ q_row q_t t_ h0 k0 w_ z_ slots o_6, kx_2 q_t q_row q_joined q_from q_to q_size q_lossOf q_lessBy q_value q_number o_7 o_8, kx_0 q_row q_cell len, kx_a q_cell cyI 160 f, kx_a q_from cyI 319 o_9, kx_a q_to cyI 319 o_10, kx_a q_size cyI 319 o_11, kx_a q_lossOf cyI 319 o_12, kx_a q_lessBy cyI 319 o_13, kx_a q_value cyI 1914 o_14, kx_a q_number cyI 1914 o_15, kx_3 q_joined j_v j_n o_16 o_17 o_18, kx_a j_v cyI 12 o_19, kx_a j_n cyI 12 o_20, kx_3 h0 a_v a_n o_22 o_23 o_24, kx_a a_v cyI 12 o_25, kx_a a_n cyI 12 o_26]) hP hD hP1 hD1 hk1 hFc [false, true, false, false, true, true, true, true, false, true, true, false, false, false, true, true, true] hCc rfl
          clear hP1 hD1 hK1 hk1 hz1 hFc hDc hPc hKc hCc
          generalize H1 = H at hP hS ⊢
          have w_21 : mj_GA o_8.toNatClampNeg o_9 o_10 o_11 o_12 o_14 o_15 p0.toInt p1.toInt (mj_pq o_9 o_10 p0.toInt p1.toInt o_7.toNatClampNeg) o_22 o_23 o_25 o_26 ∧ 0 ≤ o_22.toInt ∧ o_22.toInt ≤ o_8.toInt := w_21
          refine lv_iload_n hx hb dX4_summary_36 rfl (lv_at hl 3 rfl) ?_
          by_cases s_27 : p2.toInt = 0
          · refine lv_lookup (tgt := 64) (off := 27) hx hb dX4_summary_37 (by decide) (by rw [s_27]; rfl) (by decide) ?_
            refine lv_aload_n hx hb dX4_summary_64 rfl (lv_at hl 0 rfl) ?_
            refine va_get (D := (dC, dI)) (ci := 4) (v := .ref h0) (C := RX4) (T := TX4) (N := 9) hx hb hts hi_4 hown hK hP 0 rfl rfl 3 (by decide) hf_35 (fun _ h9 => h9) rfl dX4_summary_65 ?_
            refine va_get (D := (dC, dI)) (ci := 3) (v := .int o_22) (C := RX3) (T := TX3) (N := 5) hx hb hts hi_3 hown hK hP 14 rfl rfl 2 (by decide) hf_174 (fun _ h9 => h9) rfl dX4_summary_68 ?_
            have hP9 := hP
            have hD9 := hD
            have hK9 := hK
            have h_ga := w_21.1
            rw [w_5.2.1] at h_ga
            exact W.iret (v := o_22) hx hb hr (hlocks := hlocks) (fun t ht hW => ⟨⟨o_22, (o_6, o_7, o_8, o_9, o_10, o_11, o_12, o_13, o_14, o_15, o_16, o_17, o_18, o_19, o_20, o_22, o_23, o_24, o_25, o_26), rfl, ⟨Or.inl ⟨(by (try dsimp only); omega), w_5.1, h_ga, (by (try dsimp only); first | exact Or.inl ⟨by omega, rfl⟩ | exact Or.inr (Or.inl ⟨by omega, by assumption⟩) | exact Or.inr (Or.inl ⟨by omega, rfl⟩) | exact Or.inr (Or.inr ⟨by omega, rfl⟩))⟩, (fun _ => ⟨w_5.2.1, w_5.2.2.2.1⟩), w_5.2.2.1⟩, by rw [ht]; exact hP9, va_K.moved hW.alike hK9, hD9⟩, hS.F ht⟩) hS.2.2 dX4_summary_71
          by_cases s_28 : p2.toInt = 1
          · refine lv_lookup (tgt := 72) (off := 35) hx hb dX4_summary_37 (by decide) (by rw [s_28]; rfl) (by decide) ?_
            refine lv_aload_n hx hb dX4_summary_72 rfl (lv_at hl 0 rfl) ?_
            refine va_get (D := (dC, dI)) (ci := 4) (v := .ref h0) (C := RX4) (T := TX4) (N := 9) hx hb hts hi_4 hown hK hP 0 rfl rfl 3 (by decide) hf_35 (fun _ h9 => h9) rfl dX4_summary_73 ?_
            have hPc := kx_selP (ws' := [kx_3 h0 a_v a_n o_22 o_23 o_24, kx_a a_v cyI 12 o_25, kx_a a_n cyI 12 o_26]) hP [false, false, false, false, false, false, false, false, false, false, false, false, false, false, true, true, true] rfl
            have hKc := hK
            refine vp_callSi (W.runV (As := []) (rest := []) ⟨hx, hb, hml, hown, hts⟩ (c_X3_total_x l dC dI h0 a_v a_n cyI o_22 o_23 o_24 o_25 o_26 w_21.2.1 (by omega)) (cwV 0 hts gX4_summary_X3_total rfl rfl rfl (by decide +kernel) ⟨Nat.le_of_ble_eq_true rfl, Nat.le_of_ble_eq_true rfl⟩) ⟨fun a U g mk q => by obtain ⟨q0, qP, qK⟩ := q; exact ⟨q0, qP, va_K.moved (u := U) (U := U.calling g mk a) (Vm.Alike.refl U.vm) qK⟩, kx_rc3 hKc hPc (q0 := 0) rfl, fun U hU hW => ⟨rfl, by rw [hU]; exact hPc, va_K.moved hW.alike hKc⟩⟩ rfl rfl hl.1 rfl (lv_room (Nat.le_of_ble_eq_true rfl)) dX4_summary_76 ⟨Nat.le_of_ble_eq_true rfl, Nat.le_of_ble_eq_true rfl⟩) (fun r_29 w_29 => ?_)
            subst w_29
            have hP9 := hP
            have hD9 := hD
            have hK9 := hK
            have h_ga := w_21.1
            rw [w_5.2.1] at h_ga
            exact W.iret (v := (mj_tot o_26 0 o_22.toNatClampNeg)) hx hb hr (hlocks := hlocks) (fun t ht hW => ⟨⟨(mj_tot o_26 0 o_22.toNatClampNeg), (o_6, o_7, o_8, o_9, o_10, o_11, o_12, o_13, o_14, o_15, o_16, o_17, o_18, o_19, o_20, o_22, o_23, o_24, o_25, o_26), rfl, ⟨Or.inl ⟨(by (try dsimp only); omega), w_5.1, h_ga, (by (try dsimp only); first | exact Or.inl ⟨by omega, rfl⟩ | exact Or.inr (Or.inl ⟨by omega, by assumption⟩) | exact Or.inr (Or.inl ⟨by omega, rfl⟩) | exact Or.inr (Or.inr ⟨by omega, rfl⟩))⟩, (fun _ => ⟨w_5.2.1, w_5.2.2.2.1⟩), w_5.2.2.1⟩, by rw [ht]; exact hP9, va_K.moved hW.alike hK9, hD9⟩, hS.F ht⟩) hS.2.2 dX4_summary_79
          have s_30 : p2.toInt = 2 := by omega
          refine lv_lookup (tgt := 80) (off := 43) hx hb dX4_summary_37 (by decide) (by rw [s_30]; rfl) (by decide) ?_
          refine lv_aload_n hx hb dX4_summary_80 rfl (lv_at hl 0 rfl) ?_
          refine va_get (D := (dC, dI)) (ci := 4) (v := .ref h0) (C := RX4) (T := TX4) (N := 9) hx hb hts hi_4 hown hK hP 0 rfl rfl 3 (by decide) hf_35 (fun _ h9 => h9) rfl dX4_summary_81 ?_
          refine va_get (D := (dC, dI)) (ci := 3) (v := .int o_23) (C := RX3) (T := TX3) (N := 5) hx hb hts hi_3 hown hK hP 14 rfl rfl 3 (by decide) hf_180 (fun _ h9 => h9) rfl dX4_summary_84 ?_
          have hP9 := hP
          have hD9 := hD
          have hK9 := hK
          have h_ga := w_21.1
          rw [w_5.2.1] at h_ga
          exact W.iret (v := o_23) hx hb hr (hlocks := hlocks) (fun t ht hW => ⟨⟨o_23, (o_6, o_7, o_8, o_9, o_10, o_11, o_12, o_13, o_14, o_15, o_16, o_17, o_18, o_19, o_20, o_22, o_23, o_24, o_25, o_26), rfl, ⟨Or.inl ⟨(by (try dsimp only); omega), w_5.1, h_ga, (by (try dsimp only); first | exact Or.inl ⟨by omega, rfl⟩ | exact Or.inr (Or.inl ⟨by omega, by assumption⟩) | exact Or.inr (Or.inl ⟨by omega, rfl⟩) | exact Or.inr (Or.inr ⟨by omega, rfl⟩))⟩, (fun _ => ⟨w_5.2.1, w_5.2.2.2.1⟩), w_5.2.2.1⟩, by rw [ht]; exact hP9, va_K.moved hW.alike hK9, hD9⟩, hS.F ht⟩) hS.2.2 dX4_summary_87
        · have i_4 : 2 < p2.toInt := kc_nle c_4
          refine lv_iconst (v := (-1)) hx hb dX4_summary_21 (by decide) ?_
          have hP9 := hP
          have hD9 := hD
          have hK9 := hK
          exact W.iret (v := (-1)) hx hb hr (hlocks := hlocks) (fun t ht hW => ⟨⟨(-1), (old, nodes, here, ff, ft, fs, fo, fe, uv, un, js, jl, je, jv, jn, vs, lo, le, fv, fn), rfl, ⟨Or.inr ⟨(by (try dsimp only); omega), rfl⟩, l0, s0⟩, by rw [ht]; exact hP9, va_K.moved hW.alike hK9, hD9⟩, hS.F ht⟩) hS.2.2 dX4_summary_22
  · have w_1 : (p0.toInt < 0 ∨ p1.toInt ≤ p0.toInt ∨ len.toInt < p1.toInt) := w_1
    refine lv_if_eq (tgt := 21) hx hb dX4_summary_9 (by decide) (fun c_31 => ?_) (fun c_31 => ?_)
    · refine lv_iconst (v := (-1)) hx hb dX4_summary_21 (by decide) ?_
      have hP9 := hP
      have hD9 := hD
      have hK9 := hK
      exact W.iret (v := (-1)) hx hb hr (hlocks := hlocks) (fun t ht hW => ⟨⟨(-1), (old, nodes, here, ff, ft, fs, fo, fe, uv, un, js, jl, je, jv, jn, vs, lo, le, fv, fn), rfl, ⟨Or.inr ⟨(by (try dsimp only); omega), rfl⟩, l0, s0⟩, by rw [ht]; exact hP9, va_K.moved hW.alike hK9, hD9⟩, hS.F ht⟩) hS.2.2 dX4_summary_22
    · exact absurd c_31 (by decide)

set_option maxHeartbeats 4000000 in
set_option maxRecDepth 100000 in
theorem c_X4_lost_x (l : Launch) (dC : Nat → ClassId) (dI : Nat → Nat → Nat) (m_ : Nat) (q_row : Nat) (q_t : Nat) (t_ : Nat) (h0 : Nat) (k0 : Nat) (w_ : Nat) (z_ : Nat) (slots : Int32) (old : Int32) (q_joined : Nat) (q_from : Nat) (q_to : Nat) (q_size : Nat) (q_lossOf : Nat) (q_lessBy : Nat) (q_value : Nat) (q_number : Nat) (nodes : Int32) (here : Int32) (q_cell : Nat) (cyI : ClassId) (len : Int32) (f : Nat → Int32) (ff : Nat → Int32) (ft : Nat → Int32) (fs : Nat → Int32) (fo : Nat → Int32) (uv : Nat → Int32) (un : Nat → Int32) (fe : Nat → Int32) (j_v : Nat) (j_n : Nat) (js : Int32) (jl : Int32) (je : Int32) (jv : Nat → Int32) (jn : Nat → Int32) (a_v : Nat) (a_n : Nat) (vs : Int32) (lo : Int32) (le : Int32) (fv : Nat → Int32) (fn : Nat → Int32) (p0 : Int32) (p1 : Int32) (p2 : Int32) (sz : Nat) (a0 : 0 ≤ len.toInt) (a1 : len.toInt ≤ 160) (s0 : sixes fs) (sl0 : 1 ≤ slots.toInt) (sl1 : slots.toInt ≤ 6) (l0 : laidX old slots here f ff ft fs fo fe uv un nodes len) : kx_MQ l (dC, dI) yX4_lost wsX4_lost ({ frames := 6, cells := 0, slots := 0, locals := 270 }) [.ref m_, .int p0, .int p1, .int p2] [kx_4 m_ q_row q_t t_ h0 k0 w_ z_ slots old, kx_2 q_t q_row q_joined q_from q_to q_size q_lossOf q_lessBy q_value q_number nodes here, kx_0 q_row q_cell len, kx_a q_cell cyI 160 f, kx_a q_from cyI 319 ff, kx_a q_to cyI 319 ft, kx_a q_size cyI 319 fs, kx_a q_lossOf cyI 319 fo, kx_a q_lessBy cyI 319 fe, kx_a q_value cyI 1914 uv, kx_a q_number cyI 1914 un, kx_3 q_joined j_v j_n js jl je, kx_a j_v cyI 12 jv, kx_a j_n cyI 12 jn, kx_3 h0 a_v a_n vs lo le, kx_a a_v cyI 12 fv, kx_a a_n cyI 12 fn] [(cyI, .int)] sz (fun A => va_Qi (fun (r : Int32) (u : Int32 × Int32 × Int32 × (Nat → Int32) × (Nat → Int32) × (Nat → Int32) × (Nat → Int32) × (Nat → Int32) × (Nat → Int32) × (Nat → Int32) × Int32 × Int32 × Int32 × (Nat → Int32) × (Nat → Int32) × Int32 × Int32 × Int32 × (Nat → Int32) × (Nat → Int32)) => laidX u.1 slots u.2.2.1 f u.2.2.2.1 u.2.2.2.2.1 u.2.2.2.2.2.1 u.2.2.2.2.2.2.1 u.2.2.2.2.2.2.2.1 u.2.2.2.2.2.2.2.2.1 u.2.2.2.2.2.2.2.2.2.1 u.2.1 len ∧ sixes u.2.2.2.2.2.1) (fun (u : Int32 × Int32 × Int32 × (Nat → Int32) × (Nat → Int32) × (Nat → Int32) × (Nat → Int32) × (Nat → Int32) × (Nat → Int32) × (Nat → Int32) × Int32 × Int32 × Int32 × (Nat → Int32) × (Nat → Int32) × Int32 × Int32 × Int32 × (Nat → Int32) × (Nat → Int32)) (t : State) => va_P (dC, dI) vwCl [kx_4 m_ q_row q_t t_ h0 k0 w_ z_ slots u.1, kx_2 q_t q_row q_joined q_from q_to q_size q_lossOf q_lessBy q_value q_number u.2.1 u.2.2.1, kx_0 q_row q_cell len, kx_a q_cell cyI 160 f, kx_a q_from cyI 319 u.2.2.2.1, kx_a q_to cyI 319 u.2.2.2.2.1, kx_a q_size cyI 319 u.2.2.2.2.2.1, kx_a q_lossOf cyI 319 u.2.2.2.2.2.2.1, kx_a q_lessBy cyI 319 u.2.2.2.2.2.2.2.1, kx_a q_value cyI 1914 u.2.2.2.2.2.2.2.2.1, kx_a q_number cyI 1914 u.2.2.2.2.2.2.2.2.2.1, kx_3 q_joined j_v j_n u.2.2.2.2.2.2.2.2.2.2.1 u.2.2.2.2.2.2.2.2.2.2.2.1 u.2.2.2.2.2.2.2.2.2.2.2.2.1, kx_a j_v cyI 12 u.2.2.2.2.2.2.2.2.2.2.2.2.2.1, kx_a j_n cyI 12 u.2.2.2.2.2.2.2.2.2.2.2.2.2.2.1, kx_3 h0 a_v a_n u.2.2.2.2.2.2.2.2.2.2.2.2.2.2.2.1 u.2.2.2.2.2.2.2.2.2.2.2.2.2.2.2.2.1 u.2.2.2.2.2.2.2.2.2.2.2.2.2.2.2.2.2.1, kx_a a_v cyI 12 u.2.2.2.2.2.2.2.2.2.2.2.2.2.2.2.2.2.2.1, kx_a a_n cyI 12 u.2.2.2.2.2.2.2.2.2.2.2.2.2.2.2.2.2.2.2] t.heap ∧ va_K (dC, dI) vwCl [(cyI, .int)] t ∧ va_D A [kx_4 m_ q_row q_t t_ h0 k0 w_ z_ slots u.1, kx_2 q_t q_row q_joined q_from q_to q_size q_lossOf q_lessBy q_value q_number u.2.1 u.2.2.1, kx_0 q_row q_cell len, kx_a q_cell cyI 160 f, kx_a q_from cyI 319 u.2.2.2.1, kx_a q_to cyI 319 u.2.2.2.2.1, kx_a q_size cyI 319 u.2.2.2.2.2.1, kx_a q_lossOf cyI 319 u.2.2.2.2.2.2.1, kx_a q_lessBy cyI 319 u.2.2.2.2.2.2.2.1, kx_a q_value cyI 1914 u.2.2.2.2.2.2.2.2.1, kx_a q_number cyI 1914 u.2.2.2.2.2.2.2.2.2.1, kx_3 q_joined j_v j_n u.2.2.2.2.2.2.2.2.2.2.1 u.2.2.2.2.2.2.2.2.2.2.2.1 u.2.2.2.2.2.2.2.2.2.2.2.2.1, kx_a j_v cyI 12 u.2.2.2.2.2.2.2.2.2.2.2.2.2.1, kx_a j_n cyI 12 u.2.2.2.2.2.2.2.2.2.2.2.2.2.2.1, kx_3 h0 a_v a_n u.2.2.2.2.2.2.2.2.2.2.2.2.2.2.2.1 u.2.2.2.2.2.2.2.2.2.2.2.2.2.2.2.2.1 u.2.2.2.2.2.2.2.2.2.2.2.2.2.2.2.2.2.1, kx_a a_v cyI 12 u.2.2.2.2.2.2.2.2.2.2.2.2.2.2.2.2.2.2.1, kx_a a_n cyI 12 u.2.2.2.2.2.2.2.2.2.2.2.2.2.2.2.2.2.2.2]) A) := by
  refine kx_stQ (ws := wsX4_lost) (cc := cX4_lost) (maxL := 4) (ret := (some .int)) (by decide) rfl (Nat.le_of_ble_eq_true rfl) ?_
  intro p e s m below meth c A ls hx hb hr hlocks hts hown hml hA hS hP hK hD hl
  have hown : s.vm.findClass RX4 = some m.cls := hown
  have hl : lv_has ls 4 [(0, .ref m_), (1, .int p0), (2, .int p1), (3, .int p2)] := hl
  have hf_12 := hts (.fieldLink RX4 12 "MajorityIndex" "row" "LMajorityIndex$Row;") (List.mem_of_getElem? (i := 1) rfl)
  have hi_4 : ∀ w ∈ u_ws RX4 TX4 9, w ∈ wsX4_lost := fun w h => List.mem_cons_of_mem _ (List.mem_append_left _ (List.mem_append_left _ (List.mem_append_left _ (List.mem_append_right _ h))))
  have hf_35 := hts (.fieldLink RX4 35 "MajorityIndex" "votes" "LMajorityIndex$Votes;") (List.mem_of_getElem? (i := 2) rfl)
  refine lv_iload_n hx hb dX4_lost_0 rfl (lv_at hl 1 rfl) ?_
  have hPc := hP.sub (ws' := []) [] rfl
  have hKc := hK.sub (tys' := []) [] rfl
  refine vp_callSi (W.runS (As := [.int p0]) (rest := []) ⟨hx, hb, hml, hown, hts⟩ (c_X4_isValue l dC dI p0) (va_cwS 1 hts gX4_lost_X4_isValue rfl rfl rfl (by decide +kernel) ⟨Nat.le_of_ble_eq_true rfl, Nat.le_of_ble_eq_true rfl⟩) ⟨fun a U g mk q => by obtain ⟨q0, qP, qK⟩ := q; exact ⟨q0, qP, va_K.moved (u := U) (U := U.calling g mk a) (Vm.Alike.refl U.vm) qK⟩, fun U hU hW => ⟨rfl, by rw [hU]; exact hPc, va_K.moved hW.alike hKc⟩⟩ rfl rfl hl.1 rfl (lv_room (Nat.le_of_ble_eq_true rfl)) dX4_lost_1 ⟨Nat.le_of_ble_eq_true rfl, Nat.le_of_ble_eq_true rfl⟩) (fun r_1 w_1 => ?_)
  rcases w_1 with ⟨rfl, w_1⟩ | ⟨rfl, w_1⟩
  · have w_1 : (-32768 ≤ p0.toInt ∧ p0.toInt ≤ 32767) := w_1
    refine lv_if_eq (tgt := 19) hx hb dX4_lost_4 (by decide) (fun c_2 => ?_) (fun c_2 => ?_)
    · exact absurd c_2 (by decide)
    · refine lv_aload_n hx hb dX4_lost_7 rfl (lv_at hl 0 rfl) ?_
      refine va_get (D := (dC, dI)) (ci := 4) (v := .ref q_row) (C := RX4) (T := TX4) (N := 9) hx hb hts hi_4 hown hK hP 0 rfl rfl 0 (by decide) hf_12 (fun _ h9 => h9) rfl dX4_lost_8 ?_
      refine lv_iload_n hx hb dX4_lost_11 rfl (lv_at hl 2 rfl) ?_
      refine lv_iload_n hx hb dX4_lost_12 rfl (lv_at hl 3 rfl) ?_
      have hPc := hP.sub (ws' := [kx_0 q_row q_cell len]) [2] rfl
      have hKc := hK.sub (tys' := []) [] rfl
      refine vp_callSi (W.runV (As := [.int p1, .int p2]) (rest := []) ⟨hx, hb, hml, hown, hts⟩ (c_X0_hasRange l dC dI q_row q_cell len p1 p2) (cwV 2 hts gX4_lost_X0_hasRange rfl rfl rfl (by decide +kernel) ⟨Nat.le_of_ble_eq_true rfl, Nat.le_of_ble_eq_true rfl⟩) ⟨fun a U g mk q => by obtain ⟨q0, qP, qK⟩ := q; exact ⟨q0, qP, va_K.moved (u := U) (U := U.calling g mk a) (Vm.Alike.refl U.vm) qK⟩, kx_rc0 hKc hPc (q0 := 0) rfl, fun U hU hW => ⟨rfl, by rw [hU]; exact hPc, va_K.moved hW.alike hKc⟩⟩ rfl rfl hl.1 rfl (lv_room (Nat.le_of_ble_eq_true rfl)) dX4_lost_13 ⟨Nat.le_of_ble_eq_true rfl, Nat.le_of_ble_eq_true rfl⟩) (fun r_3 w_3 => ?_)
      rcases w_3 with ⟨rfl, w_3⟩ | ⟨rfl, w_3⟩
      · have w_3 : (0 ≤ p1.toInt ∧ p1.toInt < p2.toInt ∧ p2.toInt ≤ len.toInt) := w_3
        refine lv_if_ne (tgt := 21) hx hb dX4_lost_16 (by decide) (fun c_4 => ?_) (fun c_4 => ?_)
        · refine lv_aload_n hx hb dX4_lost_21 rfl (lv_at hl 0 rfl) ?_
          obtain ⟨hPc, hDc, hFc, hCc⟩ := kx_preM (wc := [kx_4 m_ q_row q_t t_ h0 k0 w_ z_ slots old, kx_2 q_t q_row q_joined q_from q_to q_size q_lossOf q_lessBy q_value q_number nodes here, kx_0 q_row q_cell len, kx_a q_cell cyI 160 f, kx_a q_from cyI 319 ff, kx_a q_to cyI 319 ft, kx_a q_size cyI 319 fs, kx_a q_lossOf cyI 319 fo, kx_a q_lessBy cyI 319 fe, kx_a q_value cyI 1914 uv, kx_a q_number cyI 1914 un, kx_3 q_joined j_v j_n js jl je, kx_a j_v cyI 12 jv, kx_a j_n cyI 12 jn]) hP hD hS hA [true, true, true, true, true, true, true, true, true, true, true, true, true, true, false, false, false] rfl
          have hKc := hK
          refine va_callr (va_runV (As := []) (rest := []) ⟨hx, hb, hml, hown, hts⟩ (kx_un (c_X4_laidTree_x l dC dI m_ q_row q_t t_ h0 k0 w_ z_ slots old q_joined q_from q_to q_size q_lossOf q_lessBy q_value q_number nodes here q_cell cyI len f ff ft fs fo uv un fe j_v j_n js jl je jv jn s.heap.size a0 a1 s0 sl0 sl1 l0)) (cwV 0 hts gX4_lost_X4_laidTree rfl rfl rfl (by decide +kernel) ⟨Nat.le_of_ble_eq_true rfl, Nat.le_of_ble_eq_true rfl⟩) ⟨fun a U g mk q => by obtain ⟨q0, q1, qP, qK, qD⟩ := q; exact ⟨q0, q1, qP, va_K.moved (u := U) (U := U.calling g mk a) (Vm.Alike.refl U.vm) qK, qD⟩, kx_rc4 hKc hPc (q0 := 0) rfl, fun U hU hW => ⟨rfl, by rw [hU], by rw [hU]; exact hPc, va_K.moved hW.alike hKc, hDc.weaken (fun _ _ _ _ => trivial)⟩⟩ rfl rfl hl.1 rfl (lv_room (Nat.le_of_ble_eq_true rfl)) dX4_lost_22 ⟨Nat.le_of_ble_eq_true rfl, Nat.le_of_ble_eq_true rfl⟩) hS (fun q _ h => hFc q h) hFc (fun u ra t H1 locs ht hvm w_5 hB hz1 hk1 hS => ?_)
          obtain ⟨o_6, o_7, o_8, o_9, o_10, o_11, o_12, o_13, o_14, o_15, o_16, o_17, o_18, o_19, o_20⟩ := u
          dsimp only at w_5 hB
          obtain ⟨er, hP1, hK1, hD1⟩ := hB
          rw [ht] at hP1
          have hK1 := va_K.moved hvm.symm hK1
          obtain ⟨hP, hD⟩ := kx_joinM (w2 := [kx_4 m_ q_row q_t t_ h0 k0 w_ z_ slots o_6, kx_2 q_t q_row q_joined q_from q_to q_size q_lossOf q_lessBy q_value q_number o_7 o_8, kx_0 q_row q_cell len, kx_a q_cell cyI 160 f, kx_a q_from cyI 319 o_9, kx_a q_to cyI 319 o_10, kx_a q_size cyI 319 o_11, kx_a q_lossOf cyI 319 o_12, kx_a q_lessBy cyI 319 o_13, kx_a q_value cyI 1914 o_14, kx_a q_number cyI 1914 o_15, kx_3 q_joined j_v j_n o_16 o_17 o_18, kx_a j_v cyI 12 o_19, kx_a j_n cyI 12 o_20, kx_3 h0 a_v a_n vs lo le, kx_a a_v cyI 12 fv, kx_a a_n cyI 12 fn]) hP hD hP1 hD1 hk1 hFc [true, true, true, true, true, true, true, true, true, true, true, true, true, true, false, false, false] hCc rfl
          clear hP1 hD1 hK1 hk1 hz1 hFc hDc hPc hKc hCc
          generalize H1 = H at hP hS ⊢
          have w_5 : o_6.toInt = 0 ∧ o_8 = slots ∧ sixes o_11 ∧ mj_C slots.toNatClampNeg f o_9 o_10 o_11 o_12 o_13 o_14 o_15 o_7.toInt len.toInt ∧ 0 ≤ o_7.toInt ∧ o_7.toInt ≤ 319 ∧ treeOk o_9 o_10 o_7.toInt len.toInt := w_5
          rw [er]
          have i_hs := congrArg Int32.toInt w_5.2.1
          refine lv_aload_n hx hb dX4_lost_25 rfl (lv_at hl 0 rfl) ?_
          refine va_get (D := (dC, dI)) (ci := 4) (v := .ref h0) (C := RX4) (T := TX4) (N := 9) hx hb hts hi_4 hown hK hP 0 rfl rfl 3 (by decide) hf_35 (fun _ h9 => h9) rfl dX4_lost_26 ?_
          refine lv_iload_n hx hb dX4_lost_29 rfl (lv_at hl 2 rfl) ?_
          refine lv_iload_n hx hb dX4_lost_30 rfl (lv_at hl 3 rfl) ?_
          obtain ⟨hPc, hDc, hFc, hCc⟩ := kx_preM (wc := [kx_2 q_t q_row q_joined q_from q_to q_size q_lossOf q_lessBy q_value q_number o_7 o_8, kx_a q_from cyI 319 o_9, kx_a q_to cyI 319 o_10, kx_a q_size cyI 319 o_11, kx_a q_lossOf cyI 319 o_12, kx_a q_value cyI 1914 o_14, kx_a q_number cyI 1914 o_15, kx_3 h0 a_v a_n vs lo le, kx_a a_v cyI 12 fv, kx_a a_n cyI 12 fn]) hP hD hS hA [false, true, false, false, true, true, true, true, false, true, true, false, false, false, true, true, true] rfl
          have hKc := hK
          refine va_callv (va_runV (As := [.ref h0, .int p1, .int p2]) (rest := []) ⟨hx, hb, hml, hown, hts⟩ (kx_un (c_X2_gather_x l dC dI q_t q_row q_joined q_from q_to q_size q_lossOf q_lessBy q_value q_number o_7 o_8 h0 a_v a_n cyI vs lo le fv fn len f o_9 o_10 o_11 o_12 o_14 o_15 o_13 p1 p2 H.size w_5.2.2.2.2.1 w_5.2.2.2.2.2.1 w_5.2.2.1 a1 (by rw [w_5.2.1]; omega) (by rw [w_5.2.1]; omega) w_5.2.2.2.2.2.2 (by rw [w_5.2.1]; exact w_5.2.2.2.1.2.2.2.2.2.2))) (cwV 3 hts gX4_lost_X2_gather rfl rfl rfl (by decide +kernel) ⟨Nat.le_of_ble_eq_true rfl, Nat.le_of_ble_eq_true rfl⟩) ⟨fun a U g mk q => by obtain ⟨q0, q1, qP, qK, qD⟩ := q; exact ⟨q0, q1, qP, va_K.moved (u := U) (U := U.calling g mk a) (Vm.Alike.refl U.vm) qK, qD⟩, kx_rc2 hKc hPc (q0 := 0) rfl, fun U hU hW => ⟨rfl, by rw [hU], by rw [hU]; exact hPc, va_K.moved hW.alike hKc, hDc.weaken (fun _ _ _ _ => trivial)⟩⟩ rfl rfl hl.1 rfl (lv_room (Nat.le_of_ble_eq_true rfl)) dX4_lost_31 ⟨Nat.le_of_ble_eq_true rfl, Nat.le_of_ble_eq_true rfl⟩) hS (fun q _ h => hFc q h) hFc (fun u t H1 locs ht hvm w_21 hB hz1 hk1 hS => ?_)
          obtain ⟨o_22, o_23, o_24, o_25, o_26⟩ := u
          dsimp only at w_21 hB
          obtain ⟨hP1, hK1, hD1⟩ := hB
          rw [ht] at hP1
          have hK1 := va_K.moved hvm.symm hK1
          obtain ⟨hP, hD⟩ := kx_joinM (w2 := [kx_4 m_ q_row q_t t_ h0 k0 w_ z_ slots o_6, kx_2 q_t q_row q_joined q_from q_to q_size q_lossOf q_lessBy q_value q_number o_7 o_8, kx_0 q_row q_cell len, kx_a q_cell cyI 160 f, kx_a q_from cyI 319 o_9, kx_a q_to cyI 319 o_10, kx_a q_size cyI 319 o_11, kx_a q_lossOf cyI 319 o_12, kx_a q_lessBy cyI 319 o_13, kx_a q_value cyI 1914 o_14, kx_a q_number cyI 1914 o_15, kx_3 q_joined j_v j_n o_16 o_17 o_18, kx_a j_v cyI 12 o_19, kx_a j_n cyI 12 o_20, kx_3 h0 a_v a_n o_22 o_23 o_24, kx_a a_v cyI 12 o_25, kx_a a_n cyI 12 o_26]) hP hD hP1 hD1 hk1 hFc [false, true, false, false, true, true, true, true, false, true, true, false, false, false, true, true, true] hCc rfl
          clear hP1 hD1 hK1 hk1 hz1 hFc hDc hPc hKc hCc
          generalize H1 = H at hP hS ⊢
          have w_21 : mj_GA o_8.toNatClampNeg o_9 o_10 o_11 o_12 o_14 o_15 p1.toInt p2.toInt (mj_pq o_9 o_10 p1.toInt p2.toInt o_7.toNatClampNeg) o_22 o_23 o_25 o_26 ∧ 0 ≤ o_22.toInt ∧ o_22.toInt ≤ o_8.toInt := w_21
          refine lv_aload_n hx hb dX4_lost_34 rfl (lv_at hl 0 rfl) ?_
          refine va_get (D := (dC, dI)) (ci := 4) (v := .ref q_row) (C := RX4) (T := TX4) (N := 9) hx hb hts hi_4 hown hK hP 0 rfl rfl 0 (by decide) hf_12 (fun _ h9 => h9) rfl dX4_lost_35 ?_
          refine lv_iload_n hx hb dX4_lost_38 rfl (lv_at hl 1 rfl) ?_
          refine lv_iload_n hx hb dX4_lost_39 rfl (lv_at hl 2 rfl) ?_
          refine lv_iload_n hx hb dX4_lost_40 rfl (lv_at hl 3 rfl) ?_
          have hPc := hP.sub (ws' := [kx_0 q_row q_cell len, kx_a q_cell cyI 160 f]) [2, 3] rfl
          have hKc := hK
          refine vp_callSi (W.runV (As := [.int p0, .int p1, .int p2]) (rest := []) ⟨hx, hb, hml, hown, hts⟩ (c_X0_oftenIn l dC dI q_row q_cell cyI len f p0 p1 p2 (om_10 w_3.1) (om_167 a1 w_3.2.2)) (cwV 3 hts gX4_lost_X0_oftenIn rfl rfl rfl (by decide +kernel) ⟨Nat.le_of_ble_eq_true rfl, Nat.le_of_ble_eq_true rfl⟩) ⟨fun a U g mk q => by obtain ⟨q0, qP, qK⟩ := q; exact ⟨q0, qP, va_K.moved (u := U) (U := U.calling g mk a) (Vm.Alike.refl U.vm) qK⟩, kx_rc0 hKc hPc (q0 := 0) rfl, fun U hU hW => ⟨rfl, by rw [hU]; exact hPc, va_K.moved hW.alike hKc⟩⟩ rfl rfl hl.1 rfl (lv_room (Nat.le_of_ble_eq_true rfl)) dX4_lost_41 ⟨Nat.le_of_ble_eq_true rfl, Nat.le_of_ble_eq_true rfl⟩) (fun r_27 w_27 => ?_)
          have w_27 : r_27.toInt = (cnt f p0 p1.toNatClampNeg (p2.toInt - p1.toInt).toNat : Int) := w_27
          refine lv_aload_n hx hb dX4_lost_44 rfl (lv_at hl 0 rfl) ?_
          refine va_get (D := (dC, dI)) (ci := 4) (v := .ref h0) (C := RX4) (T := TX4) (N := 9) hx hb hts hi_4 hown hK hP 0 rfl rfl 3 (by decide) hf_35 (fun _ h9 => h9) rfl dX4_lost_45 ?_
          refine lv_iload_n hx hb dX4_lost_48 rfl (lv_at hl 1 rfl) ?_
          have hPc := kx_selP (ws' := [kx_3 h0 a_v a_n o_22 o_23 o_24, kx_a a_v cyI 12 o_25, kx_a a_n cyI 12 o_26]) hP [false, false, false, false, false, false, false, false, false, false, false, false, false, false, true, true, true] rfl
          have hKc := hK
          refine vp_callSi (W.runV (As := [.int p0]) (rest := [.int r_27]) ⟨hx, hb, hml, hown, hts⟩ (c_X3_numberOf l dC dI h0 a_v a_n cyI o_22 o_23 o_24 o_25 o_26 p0 w_21.2.1 (by omega)) (cwV 1 hts gX4_lost_X3_numberOf rfl rfl rfl (by decide +kernel) ⟨Nat.le_of_ble_eq_true rfl, Nat.le_of_ble_eq_true rfl⟩) ⟨fun a U g mk q => by obtain ⟨q0, qP, qK⟩ := q; exact ⟨q0, qP, va_K.moved (u := U) (U := U.calling g mk a) (Vm.Alike.refl U.vm) qK⟩, kx_rc3 hKc hPc (q0 := 0) rfl, fun U hU hW => ⟨rfl, by rw [hU]; exact hPc, va_K.moved hW.alike hKc⟩⟩ rfl rfl hl.1 rfl (lv_room (Nat.le_of_ble_eq_true rfl)) dX4_lost_49 ⟨Nat.le_of_ble_eq_true rfl, Nat.le_of_ble_eq_true rfl⟩) (fun r_28 w_28 => ?_)
          refine lv_isub hx hb dX4_lost_52 ?_
          refine lv_topi (fun y_29 ey_29 => ?_)
          have hP9 := hP
          have hD9 := hD
          have hK9 := hK
          exact W.iret (v := y_29) hx hb hr (hlocks := hlocks) (fun t ht hW => ⟨⟨y_29, (o_6, o_7, o_8, o_9, o_10, o_11, o_12, o_13, o_14, o_15, o_16, o_17, o_18, o_19, o_20, o_22, o_23, o_24, o_25, o_26), rfl, ⟨(fun _ => ⟨w_5.2.1, w_5.2.2.2.1⟩), w_5.2.2.1⟩, by rw [ht]; exact hP9, va_K.moved hW.alike hK9, hD9⟩, hS.F ht⟩) hS.2.2 dX4_lost_53
        · exact absurd c_4 (by decide)
      · have w_3 : (p1.toInt < 0 ∨ p2.toInt ≤ p1.toInt ∨ len.toInt < p2.toInt) := w_3
        refine lv_if_ne (tgt := 21) hx hb dX4_lost_16 (by decide) (fun c_30 => ?_) (fun c_30 => ?_)
        · exact absurd c_30 (by decide)
        · refine lv_iconst (v := (-1)) hx hb dX4_lost_19 (by decide) ?_
          have hP9 := hP
          have hD9 := hD
          have hK9 := hK
          exact W.iret (v := (-1)) hx hb hr (hlocks := hlocks) (fun t ht hW => ⟨⟨(-1), (old, nodes, here, ff, ft, fs, fo, fe, uv, un, js, jl, je, jv, jn, vs, lo, le, fv, fn), rfl, ⟨l0, s0⟩, by rw [ht]; exact hP9, va_K.moved hW.alike hK9, hD9⟩, hS.F ht⟩) hS.2.2 dX4_lost_20
  · have w_1 : (p0.toInt < -32768 ∨ 32767 < p0.toInt) := w_1
    refine lv_if_eq (tgt := 19) hx hb dX4_lost_4 (by decide) (fun c_31 => ?_) (fun c_31 => ?_)
    · refine lv_iconst (v := (-1)) hx hb dX4_lost_19 (by decide) ?_
      have hP9 := hP
      have hD9 := hD
      have hK9 := hK
      exact W.iret (v := (-1)) hx hb hr (hlocks := hlocks) (fun t ht hW => ⟨⟨(-1), (old, nodes, here, ff, ft, fs, fo, fe, uv, un, js, jl, je, jv, jn, vs, lo, le, fv, fn), rfl, ⟨l0, s0⟩, by rw [ht]; exact hP9, va_K.moved hW.alike hK9, hD9⟩, hS.F ht⟩) hS.2.2 dX4_lost_20
    · exact absurd c_31 (by decide)

set_option maxHeartbeats 4000000 in
set_option maxRecDepth 100000 in
theorem c_X4_surely_x (l : Launch) (dC : Nat → ClassId) (dI : Nat → Nat → Nat) (m_ : Nat) (q_row : Nat) (q_t : Nat) (t_ : Nat) (h0 : Nat) (k0 : Nat) (w_ : Nat) (z_ : Nat) (slots : Int32) (old : Int32) (q_joined : Nat) (q_from : Nat) (q_to : Nat) (q_size : Nat) (q_lossOf : Nat) (q_lessBy : Nat) (q_value : Nat) (q_number : Nat) (nodes : Int32) (here : Int32) (q_cell : Nat) (cyI : ClassId) (len : Int32) (f : Nat → Int32) (ff : Nat → Int32) (ft : Nat → Int32) (fs : Nat → Int32) (fo : Nat → Int32) (uv : Nat → Int32) (un : Nat → Int32) (fe : Nat → Int32) (j_v : Nat) (j_n : Nat) (js : Int32) (jl : Int32) (je : Int32) (jv : Nat → Int32) (jn : Nat → Int32) (a_v : Nat) (a_n : Nat) (vs : Int32) (lo : Int32) (le : Int32) (fv : Nat → Int32) (fn : Nat → Int32) (p0 : Int32) (p1 : Int32) (sz : Nat) (a0 : 0 ≤ len.toInt) (a1 : len.toInt ≤ 160) (s0 : sixes fs) (sl0 : 1 ≤ slots.toInt) (sl1 : slots.toInt ≤ 6) (l0 : laidX old slots here f ff ft fs fo fe uv un nodes len) : kx_MQ l (dC, dI) yX4_surely wsX4_surely ({ frames := 6, cells := 0, slots := 0, locals := 270 }) [.ref m_, .int p0, .int p1] [kx_4 m_ q_row q_t t_ h0 k0 w_ z_ slots old, kx_2 q_t q_row q_joined q_from q_to q_size q_lossOf q_lessBy q_value q_number nodes here, kx_0 q_row q_cell len, kx_a q_cell cyI 160 f, kx_a q_from cyI 319 ff, kx_a q_to cyI 319 ft, kx_a q_size cyI 319 fs, kx_a q_lossOf cyI 319 fo, kx_a q_lessBy cyI 319 fe, kx_a q_value cyI 1914 uv, kx_a q_number cyI 1914 un, kx_3 q_joined j_v j_n js jl je, kx_a j_v cyI 12 jv, kx_a j_n cyI 12 jn, kx_3 h0 a_v a_n vs lo le, kx_a a_v cyI 12 fv, kx_a a_n cyI 12 fn] [(cyI, .int)] sz (fun A => va_Qi (fun (r : Int32) (u : Int32 × Int32 × Int32 × (Nat → Int32) × (Nat → Int32) × (Nat → Int32) × (Nat → Int32) × (Nat → Int32) × (Nat → Int32) × (Nat → Int32) × Int32 × Int32 × Int32 × (Nat → Int32) × (Nat → Int32) × Int32 × Int32 × Int32 × (Nat → Int32) × (Nat → Int32)) => laidX u.1 slots u.2.2.1 f u.2.2.2.1 u.2.2.2.2.1 u.2.2.2.2.2.1 u.2.2.2.2.2.2.1 u.2.2.2.2.2.2.2.1 u.2.2.2.2.2.2.2.2.1 u.2.2.2.2.2.2.2.2.2.1 u.2.1 len ∧ sixes u.2.2.2.2.2.1) (fun (u : Int32 × Int32 × Int32 × (Nat → Int32) × (Nat → Int32) × (Nat → Int32) × (Nat → Int32) × (Nat → Int32) × (Nat → Int32) × (Nat → Int32) × Int32 × Int32 × Int32 × (Nat → Int32) × (Nat → Int32) × Int32 × Int32 × Int32 × (Nat → Int32) × (Nat → Int32)) (t : State) => va_P (dC, dI) vwCl [kx_4 m_ q_row q_t t_ h0 k0 w_ z_ slots u.1, kx_2 q_t q_row q_joined q_from q_to q_size q_lossOf q_lessBy q_value q_number u.2.1 u.2.2.1, kx_0 q_row q_cell len, kx_a q_cell cyI 160 f, kx_a q_from cyI 319 u.2.2.2.1, kx_a q_to cyI 319 u.2.2.2.2.1, kx_a q_size cyI 319 u.2.2.2.2.2.1, kx_a q_lossOf cyI 319 u.2.2.2.2.2.2.1, kx_a q_lessBy cyI 319 u.2.2.2.2.2.2.2.1, kx_a q_value cyI 1914 u.2.2.2.2.2.2.2.2.1, kx_a q_number cyI 1914 u.2.2.2.2.2.2.2.2.2.1, kx_3 q_joined j_v j_n u.2.2.2.2.2.2.2.2.2.2.1 u.2.2.2.2.2.2.2.2.2.2.2.1 u.2.2.2.2.2.2.2.2.2.2.2.2.1, kx_a j_v cyI 12 u.2.2.2.2.2.2.2.2.2.2.2.2.2.1, kx_a j_n cyI 12 u.2.2.2.2.2.2.2.2.2.2.2.2.2.2.1, kx_3 h0 a_v a_n u.2.2.2.2.2.2.2.2.2.2.2.2.2.2.2.1 u.2.2.2.2.2.2.2.2.2.2.2.2.2.2.2.2.1 u.2.2.2.2.2.2.2.2.2.2.2.2.2.2.2.2.2.1, kx_a a_v cyI 12 u.2.2.2.2.2.2.2.2.2.2.2.2.2.2.2.2.2.2.1, kx_a a_n cyI 12 u.2.2.2.2.2.2.2.2.2.2.2.2.2.2.2.2.2.2.2] t.heap ∧ va_K (dC, dI) vwCl [(cyI, .int)] t ∧ va_D A [kx_4 m_ q_row q_t t_ h0 k0 w_ z_ slots u.1, kx_2 q_t q_row q_joined q_from q_to q_size q_lossOf q_lessBy q_value q_number u.2.1 u.2.2.1, kx_0 q_row q_cell len, kx_a q_cell cyI 160 f, kx_a q_from cyI 319 u.2.2.2.1, kx_a q_to cyI 319 u.2.2.2.2.1, kx_a q_size cyI 319 u.2.2.2.2.2.1, kx_a q_lossOf cyI 319 u.2.2.2.2.2.2.1, kx_a q_lessBy cyI 319 u.2.2.2.2.2.2.2.1, kx_a q_value cyI 1914 u.2.2.2.2.2.2.2.2.1, kx_a q_number cyI 1914 u.2.2.2.2.2.2.2.2.2.1, kx_3 q_joined j_v j_n u.2.2.2.2.2.2.2.2.2.2.1 u.2.2.2.2.2.2.2.2.2.2.2.1 u.2.2.2.2.2.2.2.2.2.2.2.2.1, kx_a j_v cyI 12 u.2.2.2.2.2.2.2.2.2.2.2.2.2.1, kx_a j_n cyI 12 u.2.2.2.2.2.2.2.2.2.2.2.2.2.2.1, kx_3 h0 a_v a_n u.2.2.2.2.2.2.2.2.2.2.2.2.2.2.2.1 u.2.2.2.2.2.2.2.2.2.2.2.2.2.2.2.2.1 u.2.2.2.2.2.2.2.2.2.2.2.2.2.2.2.2.2.1, kx_a a_v cyI 12 u.2.2.2.2.2.2.2.2.2.2.2.2.2.2.2.2.2.2.1, kx_a a_n cyI 12 u.2.2.2.2.2.2.2.2.2.2.2.2.2.2.2.2.2.2.2]) A) := by
  refine kx_stQ (ws := wsX4_surely) (cc := cX4_surely) (maxL := 4) (ret := (some .int)) (by decide) rfl (Nat.le_of_ble_eq_true rfl) ?_
  intro p e s m below meth c A ls hx hb hr hlocks hts hown hml hA hS hP hK hD hl
  have hown : s.vm.findClass RX4 = some m.cls := hown
  have hl : lv_has ls 4 [(0, .ref m_), (1, .int p0), (2, .int p1)] := hl
  have hf_12 := hts (.fieldLink RX4 12 "MajorityIndex" "row" "LMajorityIndex$Row;") (List.mem_of_getElem? (i := 1) rfl)
  have hi_4 : ∀ w ∈ u_ws RX4 TX4 9, w ∈ wsX4_surely := fun w h => List.mem_cons_of_mem _ (List.mem_append_left _ (List.mem_append_left _ (List.mem_append_left _ (List.mem_append_right _ h))))
  have hf_35 := hts (.fieldLink RX4 35 "MajorityIndex" "votes" "LMajorityIndex$Votes;") (List.mem_of_getElem? (i := 3) rfl)
  have hf_174 := hts (.fieldLink RX4 174 "MajorityIndex$Votes" "size" "I") (List.mem_of_getElem? (i := 4) rfl)
  have hi_3 : ∀ w ∈ u_ws RX3 TX3 5, w ∈ wsX4_surely := fun w h => List.mem_cons_of_mem _ (List.mem_append_left _ (List.mem_append_left _ (List.mem_append_right _ h)))
  have hf_136 := hts (.fieldLink RX4 136 "MajorityIndex$Votes" "number" "[I") (List.mem_of_getElem? (i := 5) rfl)
  have hf_180 := hts (.fieldLink RX4 180 "MajorityIndex$Votes" "lost" "I") (List.mem_of_getElem? (i := 6) rfl)
  have hk_102 := hts (.constant RX4 102 (-40000)) (List.mem_of_getElem? (i := 2) rfl)
  have hf_133 := hts (.fieldLink RX4 133 "MajorityIndex$Votes" "value" "[I") (List.mem_of_getElem? (i := 7) rfl)
  refine lv_aload_n hx hb dX4_surely_0 rfl (lv_at hl 0 rfl) ?_
  refine va_get (D := (dC, dI)) (ci := 4) (v := .ref q_row) (C := RX4) (T := TX4) (N := 9) hx hb hts hi_4 hown hK hP 0 rfl rfl 0 (by decide) hf_12 (fun _ h9 => h9) rfl dX4_surely_1 ?_
  refine lv_iload_n hx hb dX4_surely_4 rfl (lv_at hl 1 rfl) ?_
  refine lv_iload_n hx hb dX4_surely_5 rfl (lv_at hl 2 rfl) ?_
  have hPc := hP.sub (ws' := [kx_0 q_row q_cell len]) [2] rfl
  have hKc := hK.sub (tys' := []) [] rfl
  refine vp_callSi (W.runV (As := [.int p0, .int p1]) (rest := []) ⟨hx, hb, hml, hown, hts⟩ (c_X0_hasRange l dC dI q_row q_cell len p0 p1) (cwV 2 hts gX4_surely_X0_hasRange rfl rfl rfl (by decide +kernel) ⟨Nat.le_of_ble_eq_true rfl, Nat.le_of_ble_eq_true rfl⟩) ⟨fun a U g mk q => by obtain ⟨q0, qP, qK⟩ := q; exact ⟨q0, qP, va_K.moved (u := U) (U := U.calling g mk a) (Vm.Alike.refl U.vm) qK⟩, kx_rc0 hKc hPc (q0 := 0) rfl, fun U hU hW => ⟨rfl, by rw [hU]; exact hPc, va_K.moved hW.alike hKc⟩⟩ rfl rfl hl.1 rfl (lv_room (Nat.le_of_ble_eq_true rfl)) dX4_surely_6 ⟨Nat.le_of_ble_eq_true rfl, Nat.le_of_ble_eq_true rfl⟩) (fun r_1 w_1 => ?_)
  rcases w_1 with ⟨rfl, w_1⟩ | ⟨rfl, w_1⟩
  · have w_1 : (0 ≤ p0.toInt ∧ p0.toInt < p1.toInt ∧ p1.toInt ≤ len.toInt) := w_1
    refine lv_if_ne (tgt := 15) hx hb dX4_surely_9 (by decide) (fun c_2 => ?_) (fun c_2 => ?_)
    · refine lv_aload_n hx hb dX4_surely_15 rfl (lv_at hl 0 rfl) ?_
      obtain ⟨hPc, hDc, hFc, hCc⟩ := kx_preM (wc := [kx_4 m_ q_row q_t t_ h0 k0 w_ z_ slots old, kx_2 q_t q_row q_joined q_from q_to q_size q_lossOf q_lessBy q_value q_number nodes here, kx_0 q_row q_cell len, kx_a q_cell cyI 160 f, kx_a q_from cyI 319 ff, kx_a q_to cyI 319 ft, kx_a q_size cyI 319 fs, kx_a q_lossOf cyI 319 fo, kx_a q_lessBy cyI 319 fe, kx_a q_value cyI 1914 uv, kx_a q_number cyI 1914 un, kx_3 q_joined j_v j_n js jl je, kx_a j_v cyI 12 jv, kx_a j_n cyI 12 jn]) hP hD hS hA [true, true, true, true, true, true, true, true, true, true, true, true, true, true, false, false, false] rfl
      have hKc := hK
      refine va_callr (va_runV (As := []) (rest := []) ⟨hx, hb, hml, hown, hts⟩ (kx_un (c_X4_laidTree_x l dC dI m_ q_row q_t t_ h0 k0 w_ z_ slots old q_joined q_from q_to q_size q_lossOf q_lessBy q_value q_number nodes here q_cell cyI len f ff ft fs fo uv un fe j_v j_n js jl je jv jn s.heap.size a0 a1 s0 sl0 sl1 l0)) (cwV 0 hts gX4_surely_X4_laidTree rfl rfl rfl (by decide +kernel) ⟨Nat.le_of_ble_eq_true rfl, Nat.le_of_ble_eq_true rfl⟩) ⟨fun a U g mk q => by obtain ⟨q0, q1, qP, qK, qD⟩ := q; exact ⟨q0, q1, qP, va_K.moved (u := U) (U := U.calling g mk a) (Vm.Alike.refl U.vm) qK, qD⟩, kx_rc4 hKc hPc (q0 := 0) rfl, fun U hU hW => ⟨rfl, by rw [hU], by rw [hU]; exact hPc, va_K.moved hW.alike hKc, hDc.weaken (fun _ _ _ _ => trivial)⟩⟩ rfl rfl hl.1 rfl (lv_room (Nat.le_of_ble_eq_true rfl)) dX4_surely_16 ⟨Nat.le_of_ble_eq_true rfl, Nat.le_of_ble_eq_true rfl⟩) hS (fun q _ h => hFc q h) hFc (fun u ra t H1 locs ht hvm w_3 hB hz1 hk1 hS => ?_)
      obtain ⟨o_4, o_5, o_6, o_7, o_8, o_9, o_10, o_11, o_12, o_13, o_14, o_15, o_16, o_17, o_18⟩ := u
      dsimp only at w_3 hB
      obtain ⟨er, hP1, hK1, hD1⟩ := hB
      rw [ht] at hP1
      have hK1 := va_K.moved hvm.symm hK1
      obtain ⟨hP, hD⟩ := kx_joinM (w2 := [kx_4 m_ q_row q_t t_ h0 k0 w_ z_ slots o_4, kx_2 q_t q_row q_joined q_from q_to q_size q_lossOf q_lessBy q_value q_number o_5 o_6, kx_0 q_row q_cell len, kx_a q_cell cyI 160 f, kx_a q_from cyI 319 o_7, kx_a q_to cyI 319 o_8, kx_a q_size cyI 319 o_9, kx_a q_lossOf cyI 319 o_10, kx_a q_lessBy cyI 319 o_11, kx_a q_value cyI 1914 o_12, kx_a q_number cyI 1914 o_13, kx_3 q_joined j_v j_n o_14 o_15 o_16, kx_a j_v cyI 12 o_17, kx_a j_n cyI 12 o_18, kx_3 h0 a_v a_n vs lo le, kx_a a_v cyI 12 fv, kx_a a_n cyI 12 fn]) hP hD hP1 hD1 hk1 hFc [true, true, true, true, true, true, true, true, true, true, true, true, true, true, false, false, false] hCc rfl
      clear hP1 hD1 hK1 hk1 hz1 hFc hDc hPc hKc hCc
      generalize H1 = H at hP hS ⊢
      have w_3 : o_4.toInt = 0 ∧ o_6 = slots ∧ sixes o_9 ∧ mj_C slots.toNatClampNeg f o_7 o_8 o_9 o_10 o_11 o_12 o_13 o_5.toInt len.toInt ∧ 0 ≤ o_5.toInt ∧ o_5.toInt ≤ 319 ∧ treeOk o_7 o_8 o_5.toInt len.toInt := w_3
      rw [er]
      have i_hs := congrArg Int32.toInt w_3.2.1
      refine lv_aload_n hx hb dX4_surely_19 rfl (lv_at hl 0 rfl) ?_
      refine va_get (D := (dC, dI)) (ci := 4) (v := .ref h0) (C := RX4) (T := TX4) (N := 9) hx hb hts hi_4 hown hK hP 0 rfl rfl 3 (by decide) hf_35 (fun _ h9 => h9) rfl dX4_surely_20 ?_
      refine lv_iload_n hx hb dX4_surely_23 rfl (lv_at hl 1 rfl) ?_
      refine lv_iload_n hx hb dX4_surely_24 rfl (lv_at hl 2 rfl) ?_
      obtain ⟨hPc, hDc, hFc, hCc⟩ := kx_preM (wc := [kx_2 q_t q_row q_joined q_from q_to q_size q_lossOf q_lessBy q_value q_number o_5 o_6, kx_a q_from cyI 319 o_7, kx_a q_to cyI 319 o_8, kx_a q_size cyI 319 o_9, kx_a q_lossOf cyI 319 o_10, kx_a q_value cyI 1914 o_12, kx_a q_number cyI 1914 o_13, kx_3 h0 a_v a_n vs lo le, kx_a a_v cyI 12 fv, kx_a a_n cyI 12 fn]) hP hD hS hA [false, true, false, false, true, true, true, true, false, true, true, false, false, false, true, true, true] rfl
      have hKc := hK
      refine va_callv (va_runV (As := [.ref h0, .int p0, .int p1]) (rest := []) ⟨hx, hb, hml, hown, hts⟩ (kx_un (c_X2_gather_x l dC dI q_t q_row q_joined q_from q_to q_size q_lossOf q_lessBy q_value q_number o_5 o_6 h0 a_v a_n cyI vs lo le fv fn len f o_7 o_8 o_9 o_10 o_12 o_13 o_11 p0 p1 H.size w_3.2.2.2.2.1 w_3.2.2.2.2.2.1 w_3.2.2.1 a1 (by rw [w_3.2.1]; omega) (by rw [w_3.2.1]; omega) w_3.2.2.2.2.2.2 (by rw [w_3.2.1]; exact w_3.2.2.2.1.2.2.2.2.2.2))) (cwV 3 hts gX4_surely_X2_gather rfl rfl rfl (by decide +kernel) ⟨Nat.le_of_ble_eq_true rfl, Nat.le_of_ble_eq_true rfl⟩) ⟨fun a U g mk q => by obtain ⟨q0, q1, qP, qK, qD⟩ := q; exact ⟨q0, q1, qP, va_K.moved (u := U) (U := U.calling g mk a) (Vm.Alike.refl U.vm) qK, qD⟩, kx_rc2 hKc hPc (q0 := 0) rfl, fun U hU hW => ⟨rfl, by rw [hU], by rw [hU]; exact hPc, va_K.moved hW.alike hKc, hDc.weaken (fun _ _ _ _ => trivial)⟩⟩ rfl rfl hl.1 rfl (lv_room (Nat.le_of_ble_eq_true rfl)) dX4_surely_25 ⟨Nat.le_of_ble_eq_true rfl, Nat.le_of_ble_eq_true rfl⟩) hS (fun q _ h => hFc q h) hFc (fun u t H1 locs ht hvm w_19 hB hz1 hk1 hS => ?_)
      obtain ⟨o_20, o_21, o_22, o_23, o_24⟩ := u
      dsimp only at w_19 hB
      obtain ⟨hP1, hK1, hD1⟩ := hB
      rw [ht] at hP1
      have hK1 := va_K.moved hvm.symm hK1
      obtain ⟨hP, hD⟩ := kx_joinM (w2 := [kx_4 m_ q_row q_t t_ h0 k0 w_ z_ slots o_4, kx_2 q_t q_row q_joined q_from q_to q_size q_lossOf q_lessBy q_value q_number o_5 o_6, kx_0 q_row q_cell len, kx_a q_cell cyI 160 f, kx_a q_from cyI 319 o_7, kx_a q_to cyI 319 o_8, kx_a q_size cyI 319 o_9, kx_a q_lossOf cyI 319 o_10, kx_a q_lessBy cyI 319 o_11, kx_a q_value cyI 1914 o_12, kx_a q_number cyI 1914 o_13, kx_3 q_joined j_v j_n o_14 o_15 o_16, kx_a j_v cyI 12 o_17, kx_a j_n cyI 12 o_18, kx_3 h0 a_v a_n o_20 o_21 o_22, kx_a a_v cyI 12 o_23, kx_a a_n cyI 12 o_24]) hP hD hP1 hD1 hk1 hFc [false, true, false, false, true, true, true, true, false, true, true, false, false, false, true, true, true] hCc rfl
      clear hP1 hD1 hK1 hk1 hz1 hFc hDc hPc hKc hCc
      generalize H1 = H at hP hS ⊢
      have w_19 : mj_GA o_6.toNatClampNeg o_7 o_8 o_9 o_10 o_12 o_13 p0.toInt p1.toInt (mj_pq o_7 o_8 p0.toInt p1.toInt o_5.toNatClampNeg) o_20 o_21 o_23 o_24 ∧ 0 ≤ o_20.toInt ∧ o_20.toInt ≤ o_6.toInt := w_19
      refine lv_aload_n hx hb dX4_surely_28 rfl (lv_at hl 0 rfl) ?_
      refine va_get (D := (dC, dI)) (ci := 4) (v := .ref h0) (C := RX4) (T := TX4) (N := 9) hx hb hts hi_4 hown hK hP 0 rfl rfl 3 (by decide) hf_35 (fun _ h9 => h9) rfl dX4_surely_29 ?_
      refine va_get (D := (dC, dI)) (ci := 3) (v := .int o_20) (C := RX3) (T := TX3) (N := 5) hx hb hts hi_3 hown hK hP 14 rfl rfl 2 (by decide) hf_174 (fun _ h9 => h9) rfl dX4_surely_32 ?_
      refine lv_if_ne (tgt := 41) hx hb dX4_surely_35 (by decide) (fun c_25 => ?_) (fun c_25 => ?_)
      · have i_25 : ¬ o_20.toInt = 0 := kc_ne c_25
        refine lv_aload_n hx hb dX4_surely_41 rfl (lv_at hl 0 rfl) ?_
        refine va_get (D := (dC, dI)) (ci := 4) (v := .ref h0) (C := RX4) (T := TX4) (N := 9) hx hb hts hi_4 hown hK hP 0 rfl rfl 3 (by decide) hf_35 (fun _ h9 => h9) rfl dX4_surely_42 ?_
        refine va_get (D := (dC, dI)) (ci := 3) (v := .int o_20) (C := RX3) (T := TX3) (N := 5) hx hb hts hi_3 hown hK hP 14 rfl rfl 2 (by decide) hf_174 (fun _ h9 => h9) rfl dX4_surely_45 ?_
        refine lv_iconst (v := 1) hx hb dX4_surely_48 (by decide) ?_
        refine lv_icmp_le (tgt := 64) hx hb dX4_surely_49 (by decide) (fun c_26 => ?_) (fun c_26 => ?_)
        · have i_26 : o_20.toInt ≤ 1 := kc_le c_26
          refine lv_iconst (v := 0) hx hb dX4_surely_64 (by decide) ?_
          refine lv_istore_n (lv' := [(3, .int 0), (0, .ref m_), (1, .int p0), (2, .int p1)]) hx hb dX4_surely_65 rfl hl (by decide) rfl (fun ls hl => ?_)
          refine lv_aload_n hx hb dX4_surely_66 rfl (lv_at hl 1 rfl) ?_
          refine va_get (D := (dC, dI)) (ci := 4) (v := .ref h0) (C := RX4) (T := TX4) (N := 9) hx hb hts hi_4 hown hK hP 0 rfl rfl 3 (by decide) hf_35 (fun _ h9 => h9) rfl dX4_surely_67 ?_
          refine va_get (D := (dC, dI)) (ci := 3) (v := .ref a_n) (C := RX3) (T := TX3) (N := 5) hx hb hts hi_3 hown hK hP 14 rfl rfl 1 (by decide) hf_136 (fun _ h9 => h9) rfl dX4_surely_70 ?_
          refine lv_iconst (v := 0) hx hb dX4_surely_73 (by decide) ?_
          refine va_iald hx hb hK hP 16 0 rfl rfl (ki_inl (by decide)) dX4_surely_74 ?_
          refine lv_topi (fun y_27 ey_27 => ?_)
          have j_27 : y_27.toInt = (o_24 (0 : Int32).toNatClampNeg).toInt := congrArg Int32.toInt ey_27
          refine lv_iload_n hx hb dX4_surely_75 rfl (lv_at hl 0 rfl) ?_
          refine lv_aload_n hx hb dX4_surely_76 rfl (lv_at hl 1 rfl) ?_
          refine va_get (D := (dC, dI)) (ci := 4) (v := .ref h0) (C := RX4) (T := TX4) (N := 9) hx hb hts hi_4 hown hK hP 0 rfl rfl 3 (by decide) hf_35 (fun _ h9 => h9) rfl dX4_surely_77 ?_
          refine va_get (D := (dC, dI)) (ci := 3) (v := .int o_21) (C := RX3) (T := TX3) (N := 5) hx hb hts hi_3 hown hK hP 14 rfl rfl 3 (by decide) hf_180 (fun _ h9 => h9) rfl dX4_surely_80 ?_
          refine lv_iadd hx hb dX4_surely_83 ?_
          refine lv_topi (fun y_28 ey_28 => ?_)
          refine lv_icmp_le (tgt := 99) hx hb dX4_surely_84 (by decide) (fun c_29 => ?_) (fun c_29 => ?_)
          · have i_29 : y_27.toInt ≤ y_28.toInt := kc_le c_29
            refine lv_ldc (v := (-40000)) hx hb hown hk_102 dX4_surely_99 ?_
            have hP9 := hP
            have hD9 := hD
            have hK9 := hK
            exact W.iret (v := (-40000)) hx hb hr (hlocks := hlocks) (fun t ht hW => ⟨⟨(-40000), (o_4, o_5, o_6, o_7, o_8, o_9, o_10, o_11, o_12, o_13, o_14, o_15, o_16, o_17, o_18, o_20, o_21, o_22, o_23, o_24), rfl, ⟨(fun _ => ⟨w_3.2.1, w_3.2.2.2.1⟩), w_3.2.2.1⟩, by rw [ht]; exact hP9, va_K.moved hW.alike hK9, hD9⟩, hS.F ht⟩) hS.2.2 dX4_surely_101
          · have i_29 : y_28.toInt < y_27.toInt := kc_nle c_29
            refine lv_aload_n hx hb dX4_surely_87 rfl (lv_at hl 1 rfl) ?_
            refine va_get (D := (dC, dI)) (ci := 4) (v := .ref h0) (C := RX4) (T := TX4) (N := 9) hx hb hts hi_4 hown hK hP 0 rfl rfl 3 (by decide) hf_35 (fun _ h9 => h9) rfl dX4_surely_88 ?_
            refine va_get (D := (dC, dI)) (ci := 3) (v := .ref a_v) (C := RX3) (T := TX3) (N := 5) hx hb hts hi_3 hown hK hP 14 rfl rfl 0 (by decide) hf_133 (fun _ h9 => h9) rfl dX4_surely_91 ?_
            refine lv_iconst (v := 0) hx hb dX4_surely_94 (by decide) ?_
            refine va_iald hx hb hK hP 15 0 rfl rfl (ki_inl (by decide)) dX4_surely_95 ?_
            refine lv_topi (fun y_30 ey_30 => ?_)
            have j_30 : y_30.toInt = (o_23 (0 : Int32).toNatClampNeg).toInt := congrArg Int32.toInt ey_30
            refine lv_goto (tgt := 101) hx hb dX4_surely_96 (by decide) ?_
            have hP9 := hP
            have hD9 := hD
            have hK9 := hK
            exact W.iret (v := y_30) hx hb hr (hlocks := hlocks) (fun t ht hW => ⟨⟨y_30, (o_4, o_5, o_6, o_7, o_8, o_9, o_10, o_11, o_12, o_13, o_14, o_15, o_16, o_17, o_18, o_20, o_21, o_22, o_23, o_24), rfl, ⟨(fun _ => ⟨w_3.2.1, w_3.2.2.2.1⟩), w_3.2.2.1⟩, by rw [ht]; exact hP9, va_K.moved hW.alike hK9, hD9⟩, hS.F ht⟩) hS.2.2 dX4_surely_101
        · have i_26 : 1 < o_20.toInt := kc_nle c_26
          refine lv_aload_n hx hb dX4_surely_52 rfl (lv_at hl 0 rfl) ?_
          refine va_get (D := (dC, dI)) (ci := 4) (v := .ref h0) (C := RX4) (T := TX4) (N := 9) hx hb hts hi_4 hown hK hP 0 rfl rfl 3 (by decide) hf_35 (fun _ h9 => h9) rfl dX4_surely_53 ?_
          refine va_get (D := (dC, dI)) (ci := 3) (v := .ref a_n) (C := RX3) (T := TX3) (N := 5) hx hb hts hi_3 hown hK hP 14 rfl rfl 1 (by decide) hf_136 (fun _ h9 => h9) rfl dX4_surely_56 ?_
          refine lv_iconst (v := 1) hx hb dX4_surely_59 (by decide) ?_
          refine va_iald hx hb hK hP 16 0 rfl rfl (ki_inl (by decide)) dX4_surely_60 ?_
          refine lv_topi (fun y_31 ey_31 => ?_)
          have j_31 : y_31.toInt = (o_24 (1 : Int32).toNatClampNeg).toInt := congrArg Int32.toInt ey_31
          refine lv_goto (tgt := 65) hx hb dX4_surely_61 (by decide) ?_
          refine lv_istore_n (lv' := [(3, .int y_31), (0, .ref m_), (1, .int p0), (2, .int p1)]) hx hb dX4_surely_65 rfl hl (by decide) rfl (fun ls hl => ?_)
          refine lv_aload_n hx hb dX4_surely_66 rfl (lv_at hl 1 rfl) ?_
          refine va_get (D := (dC, dI)) (ci := 4) (v := .ref h0) (C := RX4) (T := TX4) (N := 9) hx hb hts hi_4 hown hK hP 0 rfl rfl 3 (by decide) hf_35 (fun _ h9 => h9) rfl dX4_surely_67 ?_
          refine va_get (D := (dC, dI)) (ci := 3) (v := .ref a_n) (C := RX3) (T := TX3) (N := 5) hx hb hts hi_3 hown hK hP 14 rfl rfl 1 (by decide) hf_136 (fun _ h9 => h9) rfl dX4_surely_70 ?_
          refine lv_iconst (v := 0) hx hb dX4_surely_73 (by decide) ?_
          refine va_iald hx hb hK hP 16 0 rfl rfl (ki_inl (by decide)) dX4_surely_74 ?_
          refine lv_topi (fun y_32 ey_32 => ?_)
          have j_32 : y_32.toInt = (o_24 (0 : Int32).toNatClampNeg).toInt := congrArg Int32.toInt ey_32
          refine lv_iload_n hx hb dX4_surely_75 rfl (lv_at hl 0 rfl) ?_
          refine lv_aload_n hx hb dX4_surely_76 rfl (lv_at hl 1 rfl) ?_
          refine va_get (D := (dC, dI)) (ci := 4) (v := .ref h0) (C := RX4) (T := TX4) (N := 9) hx hb hts hi_4 hown hK hP 0 rfl rfl 3 (by decide) hf_35 (fun _ h9 => h9) rfl dX4_surely_77 ?_
          refine va_get (D := (dC, dI)) (ci := 3) (v := .int o_21) (C := RX3) (T := TX3) (N := 5) hx hb hts hi_3 hown hK hP 14 rfl rfl 3 (by decide) hf_180 (fun _ h9 => h9) rfl dX4_surely_80 ?_
          refine lv_iadd hx hb dX4_surely_83 ?_
          refine lv_topi (fun y_33 ey_33 => ?_)
          refine lv_icmp_le (tgt := 99) hx hb dX4_surely_84 (by decide) (fun c_34 => ?_) (fun c_34 => ?_)
          · have i_34 : y_32.toInt ≤ y_33.toInt := kc_le c_34
            refine lv_ldc (v := (-40000)) hx hb hown hk_102 dX4_surely_99 ?_
            have hP9 := hP
            have hD9 := hD
            have hK9 := hK
            exact W.iret (v := (-40000)) hx hb hr (hlocks := hlocks) (fun t ht hW => ⟨⟨(-40000), (o_4, o_5, o_6, o_7, o_8, o_9, o_10, o_11, o_12, o_13, o_14, o_15, o_16, o_17, o_18, o_20, o_21, o_22, o_23, o_24), rfl, ⟨(fun _ => ⟨w_3.2.1, w_3.2.2.2.1⟩), w_3.2.2.1⟩, by rw [ht]; exact hP9, va_K.moved hW.alike hK9, hD9⟩, hS.F ht⟩) hS.2.2 dX4_surely_101
          · have i_34 : y_33.toInt < y_32.toInt := kc_nle c_34
            refine lv_aload_n hx hb dX4_surely_87 rfl (lv_at hl 1 rfl) ?_
            refine va_get (D := (dC, dI)) (ci := 4) (v := .ref h0) (C := RX4) (T := TX4) (N := 9) hx hb hts hi_4 hown hK hP 0 rfl rfl 3 (by decide) hf_35 (fun _ h9 => h9) rfl dX4_surely_88 ?_
            refine va_get (D := (dC, dI)) (ci := 3) (v := .ref a_v) (C := RX3) (T := TX3) (N := 5) hx hb hts hi_3 hown hK hP 14 rfl rfl 0 (by decide) hf_133 (fun _ h9 => h9) rfl dX4_surely_91 ?_
            refine lv_iconst (v := 0) hx hb dX4_surely_94 (by decide) ?_
            refine va_iald hx hb hK hP 15 0 rfl rfl (ki_inl (by decide)) dX4_surely_95 ?_
            refine lv_topi (fun y_35 ey_35 => ?_)
            have j_35 : y_35.toInt = (o_23 (0 : Int32).toNatClampNeg).toInt := congrArg Int32.toInt ey_35
            refine lv_goto (tgt := 101) hx hb dX4_surely_96 (by decide) ?_
            have hP9 := hP
            have hD9 := hD
            have hK9 := hK
            exact W.iret (v := y_35) hx hb hr (hlocks := hlocks) (fun t ht hW => ⟨⟨y_35, (o_4, o_5, o_6, o_7, o_8, o_9, o_10, o_11, o_12, o_13, o_14, o_15, o_16, o_17, o_18, o_20, o_21, o_22, o_23, o_24), rfl, ⟨(fun _ => ⟨w_3.2.1, w_3.2.2.2.1⟩), w_3.2.2.1⟩, by rw [ht]; exact hP9, va_K.moved hW.alike hK9, hD9⟩, hS.F ht⟩) hS.2.2 dX4_surely_101
      · have i_25 : o_20.toInt = 0 := kc_eq c_25
        refine lv_ldc (v := (-40000)) hx hb hown hk_102 dX4_surely_38 ?_
        have hP9 := hP
        have hD9 := hD
        have hK9 := hK
        exact W.iret (v := (-40000)) hx hb hr (hlocks := hlocks) (fun t ht hW => ⟨⟨(-40000), (o_4, o_5, o_6, o_7, o_8, o_9, o_10, o_11, o_12, o_13, o_14, o_15, o_16, o_17, o_18, o_20, o_21, o_22, o_23, o_24), rfl, ⟨(fun _ => ⟨w_3.2.1, w_3.2.2.2.1⟩), w_3.2.2.1⟩, by rw [ht]; exact hP9, va_K.moved hW.alike hK9, hD9⟩, hS.F ht⟩) hS.2.2 dX4_surely_40
    · exact absurd c_2 (by decide)
  · have w_1 : (p0.toInt < 0 ∨ p1.toInt ≤ p0.toInt ∨ len.toInt < p1.toInt) := w_1
    refine lv_if_ne (tgt := 15) hx hb dX4_surely_9 (by decide) (fun c_36 => ?_) (fun c_36 => ?_)
    · exact absurd c_36 (by decide)
    · refine lv_ldc (v := (-40000)) hx hb hown hk_102 dX4_surely_12 ?_
      have hP9 := hP
      have hD9 := hD
      have hK9 := hK
      exact W.iret (v := (-40000)) hx hb hr (hlocks := hlocks) (fun t ht hW => ⟨⟨(-40000), (old, nodes, here, ff, ft, fs, fo, fe, uv, un, js, jl, je, jv, jn, vs, lo, le, fv, fn), rfl, ⟨l0, s0⟩, by rw [ht]; exact hP9, va_K.moved hW.alike hK9, hD9⟩, hS.F ht⟩) hS.2.2 dX4_surely_14

set_option maxHeartbeats 4000000 in
set_option maxRecDepth 100000 in
theorem c_X4_heavy_x (l : Launch) (dC : Nat → ClassId) (dI : Nat → Nat → Nat) (m_ : Nat) (q_row : Nat) (q_t : Nat) (t_ : Nat) (h0 : Nat) (k0 : Nat) (w_ : Nat) (z_ : Nat) (slots : Int32) (old : Int32) (q_joined : Nat) (q_from : Nat) (q_to : Nat) (q_size : Nat) (q_lossOf : Nat) (q_lessBy : Nat) (q_value : Nat) (q_number : Nat) (nodes : Int32) (here : Int32) (q_cell : Nat) (cyI : ClassId) (len : Int32) (f : Nat → Int32) (ff : Nat → Int32) (ft : Nat → Int32) (fs : Nat → Int32) (fo : Nat → Int32) (uv : Nat → Int32) (un : Nat → Int32) (fe : Nat → Int32) (j_v : Nat) (j_n : Nat) (js : Int32) (jl : Int32) (je : Int32) (jv : Nat → Int32) (jn : Nat → Int32) (a_v : Nat) (a_n : Nat) (vs : Int32) (lo : Int32) (le : Int32) (fv : Nat → Int32) (fn : Nat → Int32) (p0 : Int32) (p1 : Int32) (p2 : Int32) (p3 : Int32) (sz : Nat) (a0 : 0 ≤ len.toInt) (a1 : len.toInt ≤ 160) (s0 : sixes fs) (sl0 : 1 ≤ slots.toInt) (sl1 : slots.toInt ≤ 6) (l0 : laidX old slots here f ff ft fs fo fe uv un nodes len) : Met l yX4_heavy wsX4_heavy ({ frames := 6, cells := 0, slots := 0, locals := 270 }) (va_Pc [.ref m_, .int p0, .int p1, .int p2, .int p3] (fun U => U.heap.size = sz ∧ va_P (dC, dI) vwCl [kx_4 m_ q_row q_t t_ h0 k0 w_ z_ slots old, kx_2 q_t q_row q_joined q_from q_to q_size q_lossOf q_lessBy q_value q_number nodes here, kx_0 q_row q_cell len, kx_a q_cell cyI 160 f, kx_a q_from cyI 319 ff, kx_a q_to cyI 319 ft, kx_a q_size cyI 319 fs, kx_a q_lossOf cyI 319 fo, kx_a q_lessBy cyI 319 fe, kx_a q_value cyI 1914 uv, kx_a q_number cyI 1914 un, kx_3 q_joined j_v j_n js jl je, kx_a j_v cyI 12 jv, kx_a j_n cyI 12 jn, kx_3 h0 a_v a_n vs lo le, kx_a a_v cyI 12 fv, kx_a a_n cyI 12 fn] U.heap ∧ va_K (dC, dI) vwCl [(cyI, .int)] U ∧ va_D (fun _ => True) [kx_4 m_ q_row q_t t_ h0 k0 w_ z_ slots old, kx_2 q_t q_row q_joined q_from q_to q_size q_lossOf q_lessBy q_value q_number nodes here, kx_0 q_row q_cell len, kx_a q_cell cyI 160 f, kx_a q_from cyI 319 ff, kx_a q_to cyI 319 ft, kx_a q_size cyI 319 fs, kx_a q_lossOf cyI 319 fo, kx_a q_lessBy cyI 319 fe, kx_a q_value cyI 1914 uv, kx_a q_number cyI 1914 un, kx_3 q_joined j_v j_n js jl je, kx_a j_v cyI 12 jv, kx_a j_n cyI 12 jn, kx_3 h0 a_v a_n vs lo le, kx_a a_v cyI 12 fv, kx_a a_n cyI 12 fn] ∧ va_Nw (.methodLinkNest RX3 42 yX4_isHeavy RX4) U)) (va_Qi (fun (r : Int32) (u : Int32 × Int32 × Int32 × (Nat → Int32) × (Nat → Int32) × (Nat → Int32) × (Nat → Int32) × (Nat → Int32) × (Nat → Int32) × (Nat → Int32) × Int32 × Int32 × Int32 × (Nat → Int32) × (Nat → Int32) × Int32 × Int32 × Int32 × (Nat → Int32) × (Nat → Int32)) => laidX u.1 slots u.2.2.1 f u.2.2.2.1 u.2.2.2.2.1 u.2.2.2.2.2.1 u.2.2.2.2.2.2.1 u.2.2.2.2.2.2.2.1 u.2.2.2.2.2.2.2.2.1 u.2.2.2.2.2.2.2.2.2.1 u.2.1 len ∧ sixes u.2.2.2.2.2.1) (fun (u : Int32 × Int32 × Int32 × (Nat → Int32) × (Nat → Int32) × (Nat → Int32) × (Nat → Int32) × (Nat → Int32) × (Nat → Int32) × (Nat → Int32) × Int32 × Int32 × Int32 × (Nat → Int32) × (Nat → Int32) × Int32 × Int32 × Int32 × (Nat → Int32) × (Nat → Int32)) (t : State) => va_P (dC, dI) vwCl [kx_4 m_ q_row q_t t_ h0 k0 w_ z_ slots u.1, kx_2 q_t q_row q_joined q_from q_to q_size q_lossOf q_lessBy q_value q_number u.2.1 u.2.2.1, kx_0 q_row q_cell len, kx_a q_cell cyI 160 f, kx_a q_from cyI 319 u.2.2.2.1, kx_a q_to cyI 319 u.2.2.2.2.1, kx_a q_size cyI 319 u.2.2.2.2.2.1, kx_a q_lossOf cyI 319 u.2.2.2.2.2.2.1, kx_a q_lessBy cyI 319 u.2.2.2.2.2.2.2.1, kx_a q_value cyI 1914 u.2.2.2.2.2.2.2.2.1, kx_a q_number cyI 1914 u.2.2.2.2.2.2.2.2.2.1, kx_3 q_joined j_v j_n u.2.2.2.2.2.2.2.2.2.2.1 u.2.2.2.2.2.2.2.2.2.2.2.1 u.2.2.2.2.2.2.2.2.2.2.2.2.1, kx_a j_v cyI 12 u.2.2.2.2.2.2.2.2.2.2.2.2.2.1, kx_a j_n cyI 12 u.2.2.2.2.2.2.2.2.2.2.2.2.2.2.1, kx_3 h0 a_v a_n u.2.2.2.2.2.2.2.2.2.2.2.2.2.2.2.1 u.2.2.2.2.2.2.2.2.2.2.2.2.2.2.2.2.1 u.2.2.2.2.2.2.2.2.2.2.2.2.2.2.2.2.2.1, kx_a a_v cyI 12 u.2.2.2.2.2.2.2.2.2.2.2.2.2.2.2.2.2.2.1, kx_a a_n cyI 12 u.2.2.2.2.2.2.2.2.2.2.2.2.2.2.2.2.2.2.2] t.heap ∧ va_K (dC, dI) vwCl [(cyI, .int)] t ∧ va_D (va_A [kx_4 m_ q_row q_t t_ h0 k0 w_ z_ slots old, kx_2 q_t q_row q_joined q_from q_to q_size q_lossOf q_lessBy q_value q_number nodes here, kx_0 q_row q_cell len, kx_a q_cell cyI 160 f, kx_a q_from cyI 319 ff, kx_a q_to cyI 319 ft, kx_a q_size cyI 319 fs, kx_a q_lossOf cyI 319 fo, kx_a q_lessBy cyI 319 fe, kx_a q_value cyI 1914 uv, kx_a q_number cyI 1914 un, kx_3 q_joined j_v j_n js jl je, kx_a j_v cyI 12 jv, kx_a j_n cyI 12 jn, kx_3 h0 a_v a_n vs lo le, kx_a a_v cyI 12 fv, kx_a a_n cyI 12 fn] sz) [kx_4 m_ q_row q_t t_ h0 k0 w_ z_ slots u.1, kx_2 q_t q_row q_joined q_from q_to q_size q_lossOf q_lessBy q_value q_number u.2.1 u.2.2.1, kx_0 q_row q_cell len, kx_a q_cell cyI 160 f, kx_a q_from cyI 319 u.2.2.2.1, kx_a q_to cyI 319 u.2.2.2.2.1, kx_a q_size cyI 319 u.2.2.2.2.2.1, kx_a q_lossOf cyI 319 u.2.2.2.2.2.2.1, kx_a q_lessBy cyI 319 u.2.2.2.2.2.2.2.1, kx_a q_value cyI 1914 u.2.2.2.2.2.2.2.2.1, kx_a q_number cyI 1914 u.2.2.2.2.2.2.2.2.2.1, kx_3 q_joined j_v j_n u.2.2.2.2.2.2.2.2.2.2.1 u.2.2.2.2.2.2.2.2.2.2.2.1 u.2.2.2.2.2.2.2.2.2.2.2.2.1, kx_a j_v cyI 12 u.2.2.2.2.2.2.2.2.2.2.2.2.2.1, kx_a j_n cyI 12 u.2.2.2.2.2.2.2.2.2.2.2.2.2.2.1, kx_3 h0 a_v a_n u.2.2.2.2.2.2.2.2.2.2.2.2.2.2.2.1 u.2.2.2.2.2.2.2.2.2.2.2.2.2.2.2.2.1 u.2.2.2.2.2.2.2.2.2.2.2.2.2.2.2.2.2.1, kx_a a_v cyI 12 u.2.2.2.2.2.2.2.2.2.2.2.2.2.2.2.2.2.2.1, kx_a a_n cyI 12 u.2.2.2.2.2.2.2.2.2.2.2.2.2.2.2.2.2.2.2]) (va_A [kx_4 m_ q_row q_t t_ h0 k0 w_ z_ slots old, kx_2 q_t q_row q_joined q_from q_to q_size q_lossOf q_lessBy q_value q_number nodes here, kx_0 q_row q_cell len, kx_a q_cell cyI 160 f, kx_a q_from cyI 319 ff, kx_a q_to cyI 319 ft, kx_a q_size cyI 319 fs, kx_a q_lossOf cyI 319 fo, kx_a q_lessBy cyI 319 fe, kx_a q_value cyI 1914 uv, kx_a q_number cyI 1914 un, kx_3 q_joined j_v j_n js jl je, kx_a j_v cyI 12 jv, kx_a j_n cyI 12 jn, kx_3 h0 a_v a_n vs lo le, kx_a a_v cyI 12 fv, kx_a a_n cyI 12 fn] sz)) 0 0 (va_A [kx_4 m_ q_row q_t t_ h0 k0 w_ z_ slots old, kx_2 q_t q_row q_joined q_from q_to q_size q_lossOf q_lessBy q_value q_number nodes here, kx_0 q_row q_cell len, kx_a q_cell cyI 160 f, kx_a q_from cyI 319 ff, kx_a q_to cyI 319 ft, kx_a q_size cyI 319 fs, kx_a q_lossOf cyI 319 fo, kx_a q_lessBy cyI 319 fe, kx_a q_value cyI 1914 uv, kx_a q_number cyI 1914 un, kx_3 q_joined j_v j_n js jl je, kx_a j_v cyI 12 jv, kx_a j_n cyI 12 jn, kx_3 h0 a_v a_n vs lo le, kx_a a_v cyI 12 fv, kx_a a_n cyI 12 fn] sz) := by
  refine Met.ofW (cc := cX4_heavy) (maxL := 5) (ret := (some .int)) (by decide) rfl ?_
  intro p e s m args below meth c s₁ B hml hv
  obtain ⟨rfl, hsz, hP, hK, hD0, hN0⟩ := hv
  have hx := B.exec
  have hb := B.bytes
  have hr := B.returns
  have hts := atoms_spec (ws := wsX4_heavy) B.pre
  have hown : s.vm.findClass RX4 = some m.cls := findClass_of_methodNamed B.named
  have hlocks := B.notSynchronized
  subst hsz
  have hD := hD0.self (sz := s.heap.size)
  generalize hAe : va_A [kx_4 m_ q_row q_t t_ h0 k0 w_ z_ slots old, kx_2 q_t q_row q_joined q_from q_to q_size q_lossOf q_lessBy q_value q_number nodes here, kx_0 q_row q_cell len, kx_a q_cell cyI 160 f, kx_a q_from cyI 319 ff, kx_a q_to cyI 319 ft, kx_a q_size cyI 319 fs, kx_a q_lossOf cyI 319 fo, kx_a q_lessBy cyI 319 fe, kx_a q_value cyI 1914 uv, kx_a q_number cyI 1914 un, kx_3 q_joined j_v j_n js jl je, kx_a j_v cyI 12 jv, kx_a j_n cyI 12 jn, kx_3 h0 a_v a_n vs lo le, kx_a a_v cyI 12 fv, kx_a a_n cyI 12 fn] s.heap.size = A at hD ⊢
  have hA : ∀ q : Nat, s.heap.size ≤ q → A q := fun q h => by rw [← hAe]; exact Or.inr h
  have hS : va_S A s.heap s.heap [] := va_S.rf
  have hP : va_P (dC, dI) vwCl [kx_4 m_ q_row q_t t_ h0 k0 w_ z_ slots old, kx_2 q_t q_row q_joined q_from q_to q_size q_lossOf q_lessBy q_value q_number nodes here, kx_0 q_row q_cell len, kx_a q_cell cyI 160 f, kx_a q_from cyI 319 ff, kx_a q_to cyI 319 ft, kx_a q_size cyI 319 fs, kx_a q_lossOf cyI 319 fo, kx_a q_lessBy cyI 319 fe, kx_a q_value cyI 1914 uv, kx_a q_number cyI 1914 un, kx_3 q_joined j_v j_n js jl je, kx_a j_v cyI 12 jv, kx_a j_n cyI 12 jn, kx_3 h0 a_v a_n vs lo le, kx_a a_v cyI 12 fv, kx_a a_n cyI 12 fn] s.heap := hP
  have hl := lv_entry ([.ref m_, .int p0, .int p1, .int p2, .int p3]) (n := 5) (Nat.le_of_ble_eq_true rfl)
  rw [lg_entry_eq]
  generalize (lg_sl ([.ref m_, .int p0, .int p1, .int p2, .int p3]) ++ List.replicate (5 - (lg_sl ([.ref m_, .int p0, .int p1, .int p2, .int p3])).length) Slot.unset).toArray = ls at hl ⊢
  have hl : lv_has ls 5 [(0, .ref m_), (1, .int p0), (2, .int p1), (3, .int p2), (4, .int p3)] := hl
  have hf_12 := hts (.fieldLink RX4 12 "MajorityIndex" "row" "LMajorityIndex$Row;") (List.mem_of_getElem? (i := 1) rfl)
  have hi_4 : ∀ w ∈ u_ws RX4 TX4 9, w ∈ wsX4_heavy := fun w h => List.mem_cons_of_mem _ (List.mem_append_left _ (List.mem_append_left _ (List.mem_append_left _ (List.mem_append_right _ h))))
  have hf_35 := hts (.fieldLink RX4 35 "MajorityIndex" "votes" "LMajorityIndex$Votes;") (List.mem_of_getElem? (i := 2) rfl)
  have hf_174 := hts (.fieldLink RX4 174 "MajorityIndex$Votes" "size" "I") (List.mem_of_getElem? (i := 3) rfl)
  have hi_3 : ∀ w ∈ u_ws RX3 TX3 5, w ∈ wsX4_heavy := fun w h => List.mem_cons_of_mem _ (List.mem_append_left _ (List.mem_append_left _ (List.mem_append_right _ h)))
  refine lv_aload_n hx hb dX4_heavy_0 rfl (lv_at hl 0 rfl) ?_
  refine va_get (D := (dC, dI)) (ci := 4) (v := .ref q_row) (C := RX4) (T := TX4) (N := 9) hx hb hts hi_4 hown hK hP 0 rfl rfl 0 (by decide) hf_12 (fun _ h9 => h9) rfl dX4_heavy_1 ?_
  refine lv_iload_n hx hb dX4_heavy_4 rfl (lv_at hl 1 rfl) ?_
  refine lv_iload_n hx hb dX4_heavy_5 rfl (lv_at hl 2 rfl) ?_
  have hPc := hP.sub (ws' := [kx_0 q_row q_cell len]) [2] rfl
  have hKc := hK.sub (tys' := []) [] rfl
  refine vp_callSi (W.runV (As := [.int p0, .int p1]) (rest := []) ⟨hx, hb, hml, hown, hts⟩ (c_X0_hasRange l dC dI q_row q_cell len p0 p1) (cwV 2 hts gX4_heavy_X0_hasRange rfl rfl rfl (by decide +kernel) ⟨Nat.le_of_ble_eq_true rfl, Nat.le_of_ble_eq_true rfl⟩) ⟨fun a U g mk q => by obtain ⟨q0, qP, qK⟩ := q; exact ⟨q0, qP, va_K.moved (u := U) (U := U.calling g mk a) (Vm.Alike.refl U.vm) qK⟩, kx_rc0 hKc hPc (q0 := 0) rfl, fun U hU hW => ⟨rfl, by rw [hU]; exact hPc, va_K.moved hW.alike hKc⟩⟩ rfl rfl hl.1 rfl (lv_room (Nat.le_of_ble_eq_true rfl)) dX4_heavy_6 ⟨Nat.le_of_ble_eq_true rfl, Nat.le_of_ble_eq_true rfl⟩) (fun r_1 w_1 => ?_)
  rcases w_1 with ⟨rfl, w_1⟩ | ⟨rfl, w_1⟩
  · have w_1 : (0 ≤ p0.toInt ∧ p0.toInt < p1.toInt ∧ p1.toInt ≤ len.toInt) := w_1
    refine lv_if_eq (tgt := 21) hx hb dX4_heavy_9 (by decide) (fun c_2 => ?_) (fun c_2 => ?_)
    · exact absurd c_2 (by decide)
    · refine lv_iload_n hx hb dX4_heavy_12 rfl (lv_at hl 3 rfl) ?_
      refine lv_iload hx hb dX4_heavy_13 (lv_at hl 4 rfl) ?_
      have hPc := hP.sub (ws' := []) [] rfl
      have hKc := hK.sub (tys' := []) [] rfl
      refine vp_callSi (W.runS (As := [.int p2, .int p3]) (rest := []) ⟨hx, hb, hml, hown, hts⟩ (c_X4_isShare l dC dI p2 p3) (va_cwS 2 hts gX4_heavy_X4_isShare rfl rfl rfl (by decide +kernel) ⟨Nat.le_of_ble_eq_true rfl, Nat.le_of_ble_eq_true rfl⟩) ⟨fun a U g mk q => by obtain ⟨q0, qP, qK⟩ := q; exact ⟨q0, qP, va_K.moved (u := U) (U := U.calling g mk a) (Vm.Alike.refl U.vm) qK⟩, fun U hU hW => ⟨rfl, by rw [hU]; exact hPc, va_K.moved hW.alike hKc⟩⟩ rfl rfl hl.1 rfl (lv_room (Nat.le_of_ble_eq_true rfl)) dX4_heavy_15 ⟨Nat.le_of_ble_eq_true rfl, Nat.le_of_ble_eq_true rfl⟩) (fun r_3 w_3 => ?_)
      rcases w_3 with ⟨rfl, w_3⟩ | ⟨rfl, w_3⟩
      · have w_3 : (1 ≤ p2.toInt ∧ p2.toInt ≤ p3.toInt ∧ p3.toInt ≤ 999) := w_3
        refine lv_if_ne (tgt := 23) hx hb dX4_heavy_18 (by decide) (fun c_4 => ?_) (fun c_4 => ?_)
        · refine lv_aload_n hx hb dX4_heavy_23 rfl (lv_at hl 0 rfl) ?_
          refine lv_iload_n hx hb dX4_heavy_24 rfl (lv_at hl 3 rfl) ?_
          refine lv_iload hx hb dX4_heavy_25 (lv_at hl 4 rfl) ?_
          have hPc := hP.sub (ws' := [kx_4 m_ q_row q_t t_ h0 k0 w_ z_ slots old]) [0] rfl
          have hKc := hK.sub (tys' := []) [] rfl
          refine vp_callSi (W.runV (As := [.int p2, .int p3]) (rest := []) ⟨hx, hb, hml, hown, hts⟩ (c_X4_isEnough l dC dI m_ q_row q_t t_ h0 k0 w_ z_ slots old p2 p3) (cwV 2 hts gX4_heavy_X4_isEnough rfl rfl rfl (by decide +kernel) ⟨Nat.le_of_ble_eq_true rfl, Nat.le_of_ble_eq_true rfl⟩) ⟨fun a U g mk q => by obtain ⟨q0, qP, qK⟩ := q; exact ⟨q0, qP, va_K.moved (u := U) (U := U.calling g mk a) (Vm.Alike.refl U.vm) qK⟩, kx_rc4 hKc hPc (q0 := 0) rfl, fun U hU hW => ⟨rfl, by rw [hU]; exact hPc, va_K.moved hW.alike hKc⟩⟩ rfl rfl hl.1 rfl (lv_room (Nat.le_of_ble_eq_true rfl)) dX4_heavy_27 ⟨Nat.le_of_ble_eq_true rfl, Nat.le_of_ble_eq_true rfl⟩) (fun r_5 w_5 => ?_)
          rcases w_5 with ⟨rfl, w_5⟩ | ⟨rfl, w_5⟩
          · have w_5 : (0 : Int) ≤ 1 := w_5
            refine lv_if_ne (tgt := 36) hx hb dX4_heavy_30 (by decide) (fun c_6 => ?_) (fun c_6 => ?_)
            · refine lv_aload_n hx hb dX4_heavy_36 rfl (lv_at hl 0 rfl) ?_
              refine lv_aload_n hx hb dX4_heavy_37 rfl (lv_at hl 0 rfl) ?_
              obtain ⟨hPc, hDc, hFc, hCc⟩ := kx_preM (wc := [kx_4 m_ q_row q_t t_ h0 k0 w_ z_ slots old, kx_2 q_t q_row q_joined q_from q_to q_size q_lossOf q_lessBy q_value q_number nodes here, kx_0 q_row q_cell len, kx_a q_cell cyI 160 f, kx_a q_from cyI 319 ff, kx_a q_to cyI 319 ft, kx_a q_size cyI 319 fs, kx_a q_lossOf cyI 319 fo, kx_a q_lessBy cyI 319 fe, kx_a q_value cyI 1914 uv, kx_a q_number cyI 1914 un, kx_3 q_joined j_v j_n js jl je, kx_a j_v cyI 12 jv, kx_a j_n cyI 12 jn]) hP hD hS hA [true, true, true, true, true, true, true, true, true, true, true, true, true, true, false, false, false] rfl
              have hKc := hK
              refine va_callr (va_runV (As := []) (rest := [.ref m_]) ⟨hx, hb, hml, hown, hts⟩ (kx_un (c_X4_laidTree_x l dC dI m_ q_row q_t t_ h0 k0 w_ z_ slots old q_joined q_from q_to q_size q_lossOf q_lessBy q_value q_number nodes here q_cell cyI len f ff ft fs fo uv un fe j_v j_n js jl je jv jn s.heap.size a0 a1 s0 sl0 sl1 l0)) (cwV 0 hts gX4_heavy_X4_laidTree rfl rfl rfl (by decide +kernel) ⟨Nat.le_of_ble_eq_true rfl, Nat.le_of_ble_eq_true rfl⟩) ⟨fun a U g mk q => by obtain ⟨q0, q1, qP, qK, qD⟩ := q; exact ⟨q0, q1, qP, va_K.moved (u := U) (U := U.calling g mk a) (Vm.Alike.refl U.vm) qK, qD⟩, kx_rc4 hKc hPc (q0 := 0) rfl, fun U hU hW => ⟨rfl, by rw [hU], by rw [hU]; exact hPc, va_K.moved hW.alike hKc, hDc.weaken (fun _ _ _ _ => trivial)⟩⟩ rfl rfl hl.1 rfl (lv_room (Nat.le_of_ble_eq_true rfl)) dX4_heavy_38 ⟨Nat.le_of_ble_eq_true rfl, Nat.le_of_ble_eq_true rfl⟩) hS (fun q _ h => hFc q h) hFc (fun u ra t H1 locs ht hvm w_7 hB hz1 hk1 hS => ?_)
              obtain ⟨o_8, o_9, o_10, o_11, o_12, o_13, o_14, o_15, o_16, o_17, o_18, o_19, o_20, o_21, o_22⟩ := u
              dsimp only at w_7 hB
              obtain ⟨er, hP1, hK1, hD1⟩ := hB
              rw [ht] at hP1
              have hK1 := va_K.moved hvm.symm hK1
              obtain ⟨hP, hD⟩ := kx_joinM (w2 := [kx_4 m_ q_row q_t t_ h0 k0 w_ z_ slots o_8, kx_2 q_t q_row q_joined q_from q_to q_size q_lossOf q_lessBy q_value q_number o_9 o_10, kx_0 q_row q_cell len, kx_a q_cell cyI 160 f, kx_a q_from cyI 319 o_11, kx_a q_to cyI 319 o_12, kx_a q_size cyI 319 o_13, kx_a q_lossOf cyI 319 o_14, kx_a q_lessBy cyI 319 o_15, kx_a q_value cyI 1914 o_16, kx_a q_number cyI 1914 o_17, kx_3 q_joined j_v j_n o_18 o_19 o_20, kx_a j_v cyI 12 o_21, kx_a j_n cyI 12 o_22, kx_3 h0 a_v a_n vs lo le, kx_a a_v cyI 12 fv, kx_a a_n cyI 12 fn]) hP hD hP1 hD1 hk1 hFc [true, true, true, true, true, true, true, true, true, true, true, true, true, true, false, false, false] hCc rfl
              clear hP1 hD1 hK1 hk1 hz1 hFc hDc hPc hKc hCc
              generalize H1 = H at hP hS ⊢
              have w_7 : o_8.toInt = 0 ∧ o_10 = slots ∧ sixes o_13 ∧ mj_C slots.toNatClampNeg f o_11 o_12 o_13 o_14 o_15 o_16 o_17 o_9.toInt len.toInt ∧ 0 ≤ o_9.toInt ∧ o_9.toInt ≤ 319 ∧ treeOk o_11 o_12 o_9.toInt len.toInt := w_7
              rw [er]
              have i_hs := congrArg Int32.toInt w_7.2.1
              refine lv_iload_n hx hb dX4_heavy_41 rfl (lv_at hl 1 rfl) ?_
              refine lv_iload_n hx hb dX4_heavy_42 rfl (lv_at hl 2 rfl) ?_
              refine lv_iload_n hx hb dX4_heavy_43 rfl (lv_at hl 3 rfl) ?_
              refine lv_iload hx hb dX4_heavy_44 (lv_at hl 4 rfl) ?_
              obtain ⟨hPc, hDc, hFc, hCc⟩ := kx_pre (wc := [kx_4 m_ q_row q_t t_ h0 k0 w_ z_ slots o_8, kx_0 q_row q_cell len, kx_a q_cell cyI 160 f, kx_2 q_t q_row q_joined q_from q_to q_size q_lossOf q_lessBy q_value q_number o_9 o_10, kx_a q_from cyI 319 o_11, kx_a q_to cyI 319 o_12, kx_a q_size cyI 319 o_13, kx_a q_lossOf cyI 319 o_14, kx_a q_value cyI 1914 o_16, kx_a q_number cyI 1914 o_17, kx_3 h0 a_v a_n vs lo le, kx_a a_v cyI 12 fv, kx_a a_n cyI 12 fn]) hP hD hS hA [0, 2, 3, 1, 4, 5, 6, 7, 9, 10, 14, 15, 16] (by decide) rfl
              have hKc := hK
              refine va_callv (va_runV (As := [.ref q_t, .int p0, .int p1, .int p2, .int p3]) (rest := []) ⟨hx, hb, hml, hown, hts⟩ (c_X4_gatherHeavy l dC dI m_ q_row q_t t_ h0 k0 w_ z_ slots o_8 q_joined q_from q_to q_size q_lossOf q_lessBy q_value q_number o_9 o_10 q_cell cyI len f o_11 o_12 o_13 o_14 o_16 o_17 a_v a_n cyI vs lo le fv fn p0 p1 p2 p3 H.size w_7.2.2.2.2.1 w_7.2.2.2.2.2.1 w_7.2.2.1 (om_10 w_1.1) (om_167 a1 w_1.2.2)) (cwV 5 hts gX4_heavy_X4_gatherHeavy rfl rfl rfl (by decide +kernel) ⟨Nat.le_of_ble_eq_true rfl, Nat.le_of_ble_eq_true rfl⟩) ⟨fun a U g mk q => by obtain ⟨q0, q1, qP, qK, qD, qn0⟩ := q; exact ⟨q0, q1, qP, va_K.moved (u := U) (U := U.calling g mk a) (Vm.Alike.refl U.vm) qK, qD, va_Nw.same (u := U) (U := U.calling g mk a) rfl rfl qn0⟩, kx_rc4 hKc hPc (q0 := 0) rfl, fun U hU hW => ⟨rfl, by rw [hU], by rw [hU]; exact hPc, va_K.moved hW.alike hKc, hDc.weaken (fun _ _ _ _ => trivial), va_Nw.warmM hW hN0⟩⟩ rfl rfl hl.1 rfl (lv_room (Nat.le_of_ble_eq_true rfl)) dX4_heavy_46 ⟨Nat.le_of_ble_eq_true rfl, Nat.le_of_ble_eq_true rfl⟩) hS (fun q _ h => hFc q h) hFc (fun u t H1 locs ht hvm w_23 hB hz1 hk1 hS => ?_)
              obtain ⟨o_24, o_25, o_26, o_27, o_28⟩ := u
              dsimp only at w_23 hB
              obtain ⟨hP1, hK1, hD1⟩ := hB
              rw [ht] at hP1
              have hK1 := va_K.moved hvm.symm hK1
              obtain ⟨hP, hD⟩ := kx_join (w2 := [kx_a q_lessBy cyI 319 o_15, kx_3 q_joined j_v j_n o_18 o_19 o_20, kx_a j_v cyI 12 o_21, kx_a j_n cyI 12 o_22, kx_4 m_ q_row q_t t_ h0 k0 w_ z_ slots o_8, kx_0 q_row q_cell len, kx_a q_cell cyI 160 f, kx_2 q_t q_row q_joined q_from q_to q_size q_lossOf q_lessBy q_value q_number o_9 o_10, kx_a q_from cyI 319 o_11, kx_a q_to cyI 319 o_12, kx_a q_size cyI 319 o_13, kx_a q_lossOf cyI 319 o_14, kx_a q_value cyI 1914 o_16, kx_a q_number cyI 1914 o_17, kx_3 h0 a_v a_n o_24 o_25 o_26, kx_a a_v cyI 12 o_27, kx_a a_n cyI 12 o_28]) hP hD hP1 hD1 hk1 hFc [0, 2, 3, 1, 4, 5, 6, 7, 9, 10, 14, 15, 16] [8, 11, 12, 13] hCc rfl (by decide) (by decide)
              clear hP1 hD1 hK1 hk1 hz1 hFc hDc hPc hKc hCc
              generalize H1 = H at hP hS ⊢
              have w_23 : 0 ≤ o_24.toInt ∧ o_24.toInt ≤ 12 := w_23
              refine lv_aload_n hx hb dX4_heavy_49 rfl (lv_at hl 0 rfl) ?_
              refine va_get (D := (dC, dI)) (ci := 4) (v := .ref h0) (C := RX4) (T := TX4) (N := 9) hx hb hts hi_4 hown hK hP 4 rfl rfl 3 (by decide) hf_35 (fun _ h9 => h9) rfl dX4_heavy_50 ?_
              refine va_get (D := (dC, dI)) (ci := 3) (v := .int o_24) (C := RX3) (T := TX3) (N := 5) hx hb hts hi_3 hown hK hP 14 rfl rfl 2 (by decide) hf_174 (fun _ h9 => h9) rfl dX4_heavy_53 ?_
              obtain ⟨hP9, hD9⟩ := kx_sub (w2 := [kx_4 m_ q_row q_t t_ h0 k0 w_ z_ slots o_8, kx_2 q_t q_row q_joined q_from q_to q_size q_lossOf q_lessBy q_value q_number o_9 o_10, kx_0 q_row q_cell len, kx_a q_cell cyI 160 f, kx_a q_from cyI 319 o_11, kx_a q_to cyI 319 o_12, kx_a q_size cyI 319 o_13, kx_a q_lossOf cyI 319 o_14, kx_a q_lessBy cyI 319 o_15, kx_a q_value cyI 1914 o_16, kx_a q_number cyI 1914 o_17, kx_3 q_joined j_v j_n o_18 o_19 o_20, kx_a j_v cyI 12 o_21, kx_a j_n cyI 12 o_22, kx_3 h0 a_v a_n o_24 o_25 o_26, kx_a a_v cyI 12 o_27, kx_a a_n cyI 12 o_28]) hP hD [4, 7, 5, 6, 8, 9, 10, 11, 0, 12, 13, 1, 2, 3, 14, 15, 16] (by decide) rfl
              have hK9 := hK
              exact W.iret (v := o_24) hx hb hr (hlocks := hlocks) (fun t ht hW => ⟨⟨o_24, (o_8, o_9, o_10, o_11, o_12, o_13, o_14, o_15, o_16, o_17, o_18, o_19, o_20, o_21, o_22, o_24, o_25, o_26, o_27, o_28), rfl, ⟨(fun _ => ⟨w_7.2.1, w_7.2.2.2.1⟩), w_7.2.2.1⟩, by rw [ht]; exact hP9, va_K.moved hW.alike hK9, hD9⟩, hS.F ht⟩) hS.2.2 dX4_heavy_56
            · exact absurd c_6 (by decide)
          · have w_5 : (0 : Int) ≤ 1 := w_5
            refine lv_if_ne (tgt := 36) hx hb dX4_heavy_30 (by decide) (fun c_29 => ?_) (fun c_29 => ?_)
            · exact absurd c_29 (by decide)
            · refine lv_bipush (v := (-2)) hx hb dX4_heavy_33 (by decide) ?_
              have hP9 := hP
              have hD9 := hD
              have hK9 := hK
              exact W.iret (v := (-2)) hx hb hr (hlocks := hlocks) (fun t ht hW => ⟨⟨(-2), (old, nodes, here, ff, ft, fs, fo, fe, uv, un, js, jl, je, jv, jn, vs, lo, le, fv, fn), rfl, ⟨l0, s0⟩, by rw [ht]; exact hP9, va_K.moved hW.alike hK9, hD9⟩, hS.F ht⟩) hS.2.2 dX4_heavy_35
        · exact absurd c_4 (by decide)
      · have w_3 : (p2.toInt < 1 ∨ p3.toInt < p2.toInt ∨ 999 < p3.toInt) := w_3
        refine lv_if_ne (tgt := 23) hx hb dX4_heavy_18 (by decide) (fun c_30 => ?_) (fun c_30 => ?_)
        · exact absurd c_30 (by decide)
        · refine lv_iconst (v := (-1)) hx hb dX4_heavy_21 (by decide) ?_
          have hP9 := hP
          have hD9 := hD
          have hK9 := hK
          exact W.iret (v := (-1)) hx hb hr (hlocks := hlocks) (fun t ht hW => ⟨⟨(-1), (old, nodes, here, ff, ft, fs, fo, fe, uv, un, js, jl, je, jv, jn, vs, lo, le, fv, fn), rfl, ⟨l0, s0⟩, by rw [ht]; exact hP9, va_K.moved hW.alike hK9, hD9⟩, hS.F ht⟩) hS.2.2 dX4_heavy_22
  · have w_1 : (p0.toInt < 0 ∨ p1.toInt ≤ p0.toInt ∨ len.toInt < p1.toInt) := w_1
    refine lv_if_eq (tgt := 21) hx hb dX4_heavy_9 (by decide) (fun c_31 => ?_) (fun c_31 => ?_)
    · refine lv_iconst (v := (-1)) hx hb dX4_heavy_21 (by decide) ?_
      have hP9 := hP
      have hD9 := hD
      have hK9 := hK
      exact W.iret (v := (-1)) hx hb hr (hlocks := hlocks) (fun t ht hW => ⟨⟨(-1), (old, nodes, here, ff, ft, fs, fo, fe, uv, un, js, jl, je, jv, jn, vs, lo, le, fv, fn), rfl, ⟨l0, s0⟩, by rw [ht]; exact hP9, va_K.moved hW.alike hK9, hD9⟩, hS.F ht⟩) hS.2.2 dX4_heavy_22
    · exact absurd c_31 (by decide)

set_option maxHeartbeats 4000000 in
set_option maxRecDepth 100000 in
theorem c_X4_failed_x (l : Launch) (dC : Nat → ClassId) (dI : Nat → Nat → Nat) (m_ : Nat) (q_row : Nat) (q_t : Nat) (t_ : Nat) (h0 : Nat) (k0 : Nat) (w_ : Nat) (z_ : Nat) (slots : Int32) (old : Int32) (q_joined : Nat) (q_from : Nat) (q_to : Nat) (q_size : Nat) (q_lossOf : Nat) (q_lessBy : Nat) (q_value : Nat) (q_number : Nat) (nodes : Int32) (here : Int32) (q_cell : Nat) (cyI : ClassId) (len : Int32) (f : Nat → Int32) (ff : Nat → Int32) (ft : Nat → Int32) (fs : Nat → Int32) (fo : Nat → Int32) (uv : Nat → Int32) (un : Nat → Int32) (fe : Nat → Int32) (j_v : Nat) (j_n : Nat) (js : Int32) (jl : Int32) (je : Int32) (jv : Nat → Int32) (jn : Nat → Int32) (a_v : Nat) (a_n : Nat) (vs : Int32) (lo : Int32) (le : Int32) (fv : Nat → Int32) (fn : Nat → Int32) (p0 : Int32) (p1 : Int32) (p2 : Int32) (p3 : Int32) (sz : Nat) (a0 : 0 ≤ len.toInt) (a1 : len.toInt ≤ 160) (s0 : sixes fs) (sl0 : 1 ≤ slots.toInt) (sl1 : slots.toInt ≤ 6) (l0 : laidX old slots here f ff ft fs fo fe uv un nodes len) : Met l yX4_failed wsX4_failed ({ frames := 6, cells := 0, slots := 0, locals := 270 }) (va_Pc [.ref m_, .int p0, .int p1, .int p2, .int p3] (fun U => U.heap.size = sz ∧ va_P (dC, dI) vwCl [kx_4 m_ q_row q_t t_ h0 k0 w_ z_ slots old, kx_2 q_t q_row q_joined q_from q_to q_size q_lossOf q_lessBy q_value q_number nodes here, kx_0 q_row q_cell len, kx_a q_cell cyI 160 f, kx_a q_from cyI 319 ff, kx_a q_to cyI 319 ft, kx_a q_size cyI 319 fs, kx_a q_lossOf cyI 319 fo, kx_a q_lessBy cyI 319 fe, kx_a q_value cyI 1914 uv, kx_a q_number cyI 1914 un, kx_3 q_joined j_v j_n js jl je, kx_a j_v cyI 12 jv, kx_a j_n cyI 12 jn, kx_3 h0 a_v a_n vs lo le, kx_a a_v cyI 12 fv, kx_a a_n cyI 12 fn] U.heap ∧ va_K (dC, dI) vwCl [(cyI, .int)] U ∧ va_D (fun _ => True) [kx_4 m_ q_row q_t t_ h0 k0 w_ z_ slots old, kx_2 q_t q_row q_joined q_from q_to q_size q_lossOf q_lessBy q_value q_number nodes here, kx_0 q_row q_cell len, kx_a q_cell cyI 160 f, kx_a q_from cyI 319 ff, kx_a q_to cyI 319 ft, kx_a q_size cyI 319 fs, kx_a q_lossOf cyI 319 fo, kx_a q_lessBy cyI 319 fe, kx_a q_value cyI 1914 uv, kx_a q_number cyI 1914 un, kx_3 q_joined j_v j_n js jl je, kx_a j_v cyI 12 jv, kx_a j_n cyI 12 jn, kx_3 h0 a_v a_n vs lo le, kx_a a_v cyI 12 fv, kx_a a_n cyI 12 fn] ∧ va_Nw (.methodLinkNest RX3 42 yX4_isHeavy RX4) U)) (va_Qi (fun (r : Int32) (u : Int32 × Int32 × Int32 × (Nat → Int32) × (Nat → Int32) × (Nat → Int32) × (Nat → Int32) × (Nat → Int32) × (Nat → Int32) × (Nat → Int32) × Int32 × Int32 × Int32 × (Nat → Int32) × (Nat → Int32) × Int32 × Int32 × Int32 × (Nat → Int32) × (Nat → Int32)) => laidX u.1 slots u.2.2.1 f u.2.2.2.1 u.2.2.2.2.1 u.2.2.2.2.2.1 u.2.2.2.2.2.2.1 u.2.2.2.2.2.2.2.1 u.2.2.2.2.2.2.2.2.1 u.2.2.2.2.2.2.2.2.2.1 u.2.1 len ∧ sixes u.2.2.2.2.2.1) (fun (u : Int32 × Int32 × Int32 × (Nat → Int32) × (Nat → Int32) × (Nat → Int32) × (Nat → Int32) × (Nat → Int32) × (Nat → Int32) × (Nat → Int32) × Int32 × Int32 × Int32 × (Nat → Int32) × (Nat → Int32) × Int32 × Int32 × Int32 × (Nat → Int32) × (Nat → Int32)) (t : State) => va_P (dC, dI) vwCl [kx_4 m_ q_row q_t t_ h0 k0 w_ z_ slots u.1, kx_2 q_t q_row q_joined q_from q_to q_size q_lossOf q_lessBy q_value q_number u.2.1 u.2.2.1, kx_0 q_row q_cell len, kx_a q_cell cyI 160 f, kx_a q_from cyI 319 u.2.2.2.1, kx_a q_to cyI 319 u.2.2.2.2.1, kx_a q_size cyI 319 u.2.2.2.2.2.1, kx_a q_lossOf cyI 319 u.2.2.2.2.2.2.1, kx_a q_lessBy cyI 319 u.2.2.2.2.2.2.2.1, kx_a q_value cyI 1914 u.2.2.2.2.2.2.2.2.1, kx_a q_number cyI 1914 u.2.2.2.2.2.2.2.2.2.1, kx_3 q_joined j_v j_n u.2.2.2.2.2.2.2.2.2.2.1 u.2.2.2.2.2.2.2.2.2.2.2.1 u.2.2.2.2.2.2.2.2.2.2.2.2.1, kx_a j_v cyI 12 u.2.2.2.2.2.2.2.2.2.2.2.2.2.1, kx_a j_n cyI 12 u.2.2.2.2.2.2.2.2.2.2.2.2.2.2.1, kx_3 h0 a_v a_n u.2.2.2.2.2.2.2.2.2.2.2.2.2.2.2.1 u.2.2.2.2.2.2.2.2.2.2.2.2.2.2.2.2.1 u.2.2.2.2.2.2.2.2.2.2.2.2.2.2.2.2.2.1, kx_a a_v cyI 12 u.2.2.2.2.2.2.2.2.2.2.2.2.2.2.2.2.2.2.1, kx_a a_n cyI 12 u.2.2.2.2.2.2.2.2.2.2.2.2.2.2.2.2.2.2.2] t.heap ∧ va_K (dC, dI) vwCl [(cyI, .int)] t ∧ va_D (va_A [kx_4 m_ q_row q_t t_ h0 k0 w_ z_ slots old, kx_2 q_t q_row q_joined q_from q_to q_size q_lossOf q_lessBy q_value q_number nodes here, kx_0 q_row q_cell len, kx_a q_cell cyI 160 f, kx_a q_from cyI 319 ff, kx_a q_to cyI 319 ft, kx_a q_size cyI 319 fs, kx_a q_lossOf cyI 319 fo, kx_a q_lessBy cyI 319 fe, kx_a q_value cyI 1914 uv, kx_a q_number cyI 1914 un, kx_3 q_joined j_v j_n js jl je, kx_a j_v cyI 12 jv, kx_a j_n cyI 12 jn, kx_3 h0 a_v a_n vs lo le, kx_a a_v cyI 12 fv, kx_a a_n cyI 12 fn] sz) [kx_4 m_ q_row q_t t_ h0 k0 w_ z_ slots u.1, kx_2 q_t q_row q_joined q_from q_to q_size q_lossOf q_lessBy q_value q_number u.2.1 u.2.2.1, kx_0 q_row q_cell len, kx_a q_cell cyI 160 f, kx_a q_from cyI 319 u.2.2.2.1, kx_a q_to cyI 319 u.2.2.2.2.1, kx_a q_size cyI 319 u.2.2.2.2.2.1, kx_a q_lossOf cyI 319 u.2.2.2.2.2.2.1, kx_a q_lessBy cyI 319 u.2.2.2.2.2.2.2.1, kx_a q_value cyI 1914 u.2.2.2.2.2.2.2.2.1, kx_a q_number cyI 1914 u.2.2.2.2.2.2.2.2.2.1, kx_3 q_joined j_v j_n u.2.2.2.2.2.2.2.2.2.2.1 u.2.2.2.2.2.2.2.2.2.2.2.1 u.2.2.2.2.2.2.2.2.2.2.2.2.1, kx_a j_v cyI 12 u.2.2.2.2.2.2.2.2.2.2.2.2.2.1, kx_a j_n cyI 12 u.2.2.2.2.2.2.2.2.2.2.2.2.2.2.1, kx_3 h0 a_v a_n u.2.2.2.2.2.2.2.2.2.2.2.2.2.2.2.1 u.2.2.2.2.2.2.2.2.2.2.2.2.2.2.2.2.1 u.2.2.2.2.2.2.2.2.2.2.2.2.2.2.2.2.2.1, kx_a a_v cyI 12 u.2.2.2.2.2.2.2.2.2.2.2.2.2.2.2.2.2.2.1, kx_a a_n cyI 12 u.2.2.2.2.2.2.2.2.2.2.2.2.2.2.2.2.2.2.2]) (va_A [kx_4 m_ q_row q_t t_ h0 k0 w_ z_ slots old, kx_2 q_t q_row q_joined q_from q_to q_size q_lossOf q_lessBy q_value q_number nodes here, kx_0 q_row q_cell len, kx_a q_cell cyI 160 f, kx_a q_from cyI 319 ff, kx_a q_to cyI 319 ft, kx_a q_size cyI 319 fs, kx_a q_lossOf cyI 319 fo, kx_a q_lessBy cyI 319 fe, kx_a q_value cyI 1914 uv, kx_a q_number cyI 1914 un, kx_3 q_joined j_v j_n js jl je, kx_a j_v cyI 12 jv, kx_a j_n cyI 12 jn, kx_3 h0 a_v a_n vs lo le, kx_a a_v cyI 12 fv, kx_a a_n cyI 12 fn] sz)) 0 0 (va_A [kx_4 m_ q_row q_t t_ h0 k0 w_ z_ slots old, kx_2 q_t q_row q_joined q_from q_to q_size q_lossOf q_lessBy q_value q_number nodes here, kx_0 q_row q_cell len, kx_a q_cell cyI 160 f, kx_a q_from cyI 319 ff, kx_a q_to cyI 319 ft, kx_a q_size cyI 319 fs, kx_a q_lossOf cyI 319 fo, kx_a q_lessBy cyI 319 fe, kx_a q_value cyI 1914 uv, kx_a q_number cyI 1914 un, kx_3 q_joined j_v j_n js jl je, kx_a j_v cyI 12 jv, kx_a j_n cyI 12 jn, kx_3 h0 a_v a_n vs lo le, kx_a a_v cyI 12 fv, kx_a a_n cyI 12 fn] sz) := by
  refine Met.ofW (cc := cX4_failed) (maxL := 7) (ret := (some .int)) (by decide) rfl ?_
  intro p e s m args below meth c s₁ B hml hv
  obtain ⟨rfl, hsz, hP, hK, hD0, hN0⟩ := hv
  have hx := B.exec
  have hb := B.bytes
  have hr := B.returns
  have hts := atoms_spec (ws := wsX4_failed) B.pre
  have hown : s.vm.findClass RX4 = some m.cls := findClass_of_methodNamed B.named
  have hlocks := B.notSynchronized
  subst hsz
  have hD := hD0.self (sz := s.heap.size)
  generalize hAe : va_A [kx_4 m_ q_row q_t t_ h0 k0 w_ z_ slots old, kx_2 q_t q_row q_joined q_from q_to q_size q_lossOf q_lessBy q_value q_number nodes here, kx_0 q_row q_cell len, kx_a q_cell cyI 160 f, kx_a q_from cyI 319 ff, kx_a q_to cyI 319 ft, kx_a q_size cyI 319 fs, kx_a q_lossOf cyI 319 fo, kx_a q_lessBy cyI 319 fe, kx_a q_value cyI 1914 uv, kx_a q_number cyI 1914 un, kx_3 q_joined j_v j_n js jl je, kx_a j_v cyI 12 jv, kx_a j_n cyI 12 jn, kx_3 h0 a_v a_n vs lo le, kx_a a_v cyI 12 fv, kx_a a_n cyI 12 fn] s.heap.size = A at hD ⊢
  have hA : ∀ q : Nat, s.heap.size ≤ q → A q := fun q h => by rw [← hAe]; exact Or.inr h
  have hS : va_S A s.heap s.heap [] := va_S.rf
  have hP : va_P (dC, dI) vwCl [kx_4 m_ q_row q_t t_ h0 k0 w_ z_ slots old, kx_2 q_t q_row q_joined q_from q_to q_size q_lossOf q_lessBy q_value q_number nodes here, kx_0 q_row q_cell len, kx_a q_cell cyI 160 f, kx_a q_from cyI 319 ff, kx_a q_to cyI 319 ft, kx_a q_size cyI 319 fs, kx_a q_lossOf cyI 319 fo, kx_a q_lessBy cyI 319 fe, kx_a q_value cyI 1914 uv, kx_a q_number cyI 1914 un, kx_3 q_joined j_v j_n js jl je, kx_a j_v cyI 12 jv, kx_a j_n cyI 12 jn, kx_3 h0 a_v a_n vs lo le, kx_a a_v cyI 12 fv, kx_a a_n cyI 12 fn] s.heap := hP
  have hl := lv_entry ([.ref m_, .int p0, .int p1, .int p2, .int p3]) (n := 7) (Nat.le_of_ble_eq_true rfl)
  rw [lg_entry_eq]
  generalize (lg_sl ([.ref m_, .int p0, .int p1, .int p2, .int p3]) ++ List.replicate (7 - (lg_sl ([.ref m_, .int p0, .int p1, .int p2, .int p3])).length) Slot.unset).toArray = ls at hl ⊢
  have hl : lv_has ls 7 [(0, .ref m_), (1, .int p0), (2, .int p1), (3, .int p2), (4, .int p3)] := hl
  have hf_12 := hts (.fieldLink RX4 12 "MajorityIndex" "row" "LMajorityIndex$Row;") (List.mem_of_getElem? (i := 1) rfl)
  have hi_4 : ∀ w ∈ u_ws RX4 TX4 9, w ∈ wsX4_failed := fun w h => List.mem_cons_of_mem _ (List.mem_append_left _ (List.mem_append_left _ (List.mem_append_left _ (List.mem_append_right _ h))))
  have hf_35 := hts (.fieldLink RX4 35 "MajorityIndex" "votes" "LMajorityIndex$Votes;") (List.mem_of_getElem? (i := 2) rfl)
  have hf_174 := hts (.fieldLink RX4 174 "MajorityIndex$Votes" "size" "I") (List.mem_of_getElem? (i := 3) rfl)
  have hi_3 : ∀ w ∈ u_ws RX3 TX3 5, w ∈ wsX4_failed := fun w h => List.mem_cons_of_mem _ (List.mem_append_left _ (List.mem_append_left _ (List.mem_append_right _ h)))
  refine lv_aload_n hx hb dX4_failed_0 rfl (lv_at hl 0 rfl) ?_
  refine va_get (D := (dC, dI)) (ci := 4) (v := .ref q_row) (C := RX4) (T := TX4) (N := 9) hx hb hts hi_4 hown hK hP 0 rfl rfl 0 (by decide) hf_12 (fun _ h9 => h9) rfl dX4_failed_1 ?_
  refine lv_iload_n hx hb dX4_failed_4 rfl (lv_at hl 1 rfl) ?_
  refine lv_iload_n hx hb dX4_failed_5 rfl (lv_at hl 2 rfl) ?_
  have hPc := hP.sub (ws' := [kx_0 q_row q_cell len]) [2] rfl
  have hKc := hK.sub (tys' := []) [] rfl
  refine vp_callSi (W.runV (As := [.int p0, .int p1]) (rest := []) ⟨hx, hb, hml, hown, hts⟩ (c_X0_hasRange l dC dI q_row q_cell len p0 p1) (cwV 2 hts gX4_failed_X0_hasRange rfl rfl rfl (by decide +kernel) ⟨Nat.le_of_ble_eq_true rfl, Nat.le_of_ble_eq_true rfl⟩) ⟨fun a U g mk q => by obtain ⟨q0, qP, qK⟩ := q; exact ⟨q0, qP, va_K.moved (u := U) (U := U.calling g mk a) (Vm.Alike.refl U.vm) qK⟩, kx_rc0 hKc hPc (q0 := 0) rfl, fun U hU hW => ⟨rfl, by rw [hU]; exact hPc, va_K.moved hW.alike hKc⟩⟩ rfl rfl hl.1 rfl (lv_room (Nat.le_of_ble_eq_true rfl)) dX4_failed_6 ⟨Nat.le_of_ble_eq_true rfl, Nat.le_of_ble_eq_true rfl⟩) (fun r_1 w_1 => ?_)
  rcases w_1 with ⟨rfl, w_1⟩ | ⟨rfl, w_1⟩
  · have w_1 : (0 ≤ p0.toInt ∧ p0.toInt < p1.toInt ∧ p1.toInt ≤ len.toInt) := w_1
    refine lv_if_eq (tgt := 21) hx hb dX4_failed_9 (by decide) (fun c_2 => ?_) (fun c_2 => ?_)
    · exact absurd c_2 (by decide)
    · refine lv_iload_n hx hb dX4_failed_12 rfl (lv_at hl 3 rfl) ?_
      refine lv_iload hx hb dX4_failed_13 (lv_at hl 4 rfl) ?_
      have hPc := hP.sub (ws' := []) [] rfl
      have hKc := hK.sub (tys' := []) [] rfl
      refine vp_callSi (W.runS (As := [.int p2, .int p3]) (rest := []) ⟨hx, hb, hml, hown, hts⟩ (c_X4_isShare l dC dI p2 p3) (va_cwS 2 hts gX4_failed_X4_isShare rfl rfl rfl (by decide +kernel) ⟨Nat.le_of_ble_eq_true rfl, Nat.le_of_ble_eq_true rfl⟩) ⟨fun a U g mk q => by obtain ⟨q0, qP, qK⟩ := q; exact ⟨q0, qP, va_K.moved (u := U) (U := U.calling g mk a) (Vm.Alike.refl U.vm) qK⟩, fun U hU hW => ⟨rfl, by rw [hU]; exact hPc, va_K.moved hW.alike hKc⟩⟩ rfl rfl hl.1 rfl (lv_room (Nat.le_of_ble_eq_true rfl)) dX4_failed_15 ⟨Nat.le_of_ble_eq_true rfl, Nat.le_of_ble_eq_true rfl⟩) (fun r_3 w_3 => ?_)
      rcases w_3 with ⟨rfl, w_3⟩ | ⟨rfl, w_3⟩
      · have w_3 : (1 ≤ p2.toInt ∧ p2.toInt ≤ p3.toInt ∧ p3.toInt ≤ 999) := w_3
        refine lv_if_ne (tgt := 23) hx hb dX4_failed_18 (by decide) (fun c_4 => ?_) (fun c_4 => ?_)
        · refine lv_aload_n hx hb dX4_failed_23 rfl (lv_at hl 0 rfl) ?_
          refine lv_iload_n hx hb dX4_failed_24 rfl (lv_at hl 3 rfl) ?_
          refine lv_iload hx hb dX4_failed_25 (lv_at hl 4 rfl) ?_
          have hPc := hP.sub (ws' := [kx_4 m_ q_row q_t t_ h0 k0 w_ z_ slots old]) [0] rfl
          have hKc := hK.sub (tys' := []) [] rfl
          refine vp_callSi (W.runV (As := [.int p2, .int p3]) (rest := []) ⟨hx, hb, hml, hown, hts⟩ (c_X4_isEnough l dC dI m_ q_row q_t t_ h0 k0 w_ z_ slots old p2 p3) (cwV 2 hts gX4_failed_X4_isEnough rfl rfl rfl (by decide +kernel) ⟨Nat.le_of_ble_eq_true rfl, Nat.le_of_ble_eq_true rfl⟩) ⟨fun a U g mk q => by obtain ⟨q0, qP, qK⟩ := q; exact ⟨q0, qP, va_K.moved (u := U) (U := U.calling g mk a) (Vm.Alike.refl U.vm) qK⟩, kx_rc4 hKc hPc (q0 := 0) rfl, fun U hU hW => ⟨rfl, by rw [hU]; exact hPc, va_K.moved hW.alike hKc⟩⟩ rfl rfl hl.1 rfl (lv_room (Nat.le_of_ble_eq_true rfl)) dX4_failed_27 ⟨Nat.le_of_ble_eq_true rfl, Nat.le_of_ble_eq_true rfl⟩) (fun r_5 w_5 => ?_)
          rcases w_5 with ⟨rfl, w_5⟩ | ⟨rfl, w_5⟩
          · have w_5 : (0 : Int) ≤ 1 := w_5
            refine lv_if_ne (tgt := 36) hx hb dX4_failed_30 (by decide) (fun c_6 => ?_) (fun c_6 => ?_)
            · refine lv_aload_n hx hb dX4_failed_36 rfl (lv_at hl 0 rfl) ?_
              obtain ⟨hPc, hDc, hFc, hCc⟩ := kx_preM (wc := [kx_4 m_ q_row q_t t_ h0 k0 w_ z_ slots old, kx_2 q_t q_row q_joined q_from q_to q_size q_lossOf q_lessBy q_value q_number nodes here, kx_0 q_row q_cell len, kx_a q_cell cyI 160 f, kx_a q_from cyI 319 ff, kx_a q_to cyI 319 ft, kx_a q_size cyI 319 fs, kx_a q_lossOf cyI 319 fo, kx_a q_lessBy cyI 319 fe, kx_a q_value cyI 1914 uv, kx_a q_number cyI 1914 un, kx_3 q_joined j_v j_n js jl je, kx_a j_v cyI 12 jv, kx_a j_n cyI 12 jn]) hP hD hS hA [true, true, true, true, true, true, true, true, true, true, true, true, true, true, false, false, false] rfl
              have hKc := hK
              refine va_callr (va_runV (As := []) (rest := []) ⟨hx, hb, hml, hown, hts⟩ (kx_un (c_X4_laidTree_x l dC dI m_ q_row q_t t_ h0 k0 w_ z_ slots old q_joined q_from q_to q_size q_lossOf q_lessBy q_value q_number nodes here q_cell cyI len f ff ft fs fo uv un fe j_v j_n js jl je jv jn s.heap.size a0 a1 s0 sl0 sl1 l0)) (cwV 0 hts gX4_failed_X4_laidTree rfl rfl rfl (by decide +kernel) ⟨Nat.le_of_ble_eq_true rfl, Nat.le_of_ble_eq_true rfl⟩) ⟨fun a U g mk q => by obtain ⟨q0, q1, qP, qK, qD⟩ := q; exact ⟨q0, q1, qP, va_K.moved (u := U) (U := U.calling g mk a) (Vm.Alike.refl U.vm) qK, qD⟩, kx_rc4 hKc hPc (q0 := 0) rfl, fun U hU hW => ⟨rfl, by rw [hU], by rw [hU]; exact hPc, va_K.moved hW.alike hKc, hDc.weaken (fun _ _ _ _ => trivial)⟩⟩ rfl rfl hl.1 rfl (lv_room (Nat.le_of_ble_eq_true rfl)) dX4_failed_37 ⟨Nat.le_of_ble_eq_true rfl, Nat.le_of_ble_eq_true rfl⟩) hS (fun q _ h => hFc q h) hFc (fun u ra t H1 locs ht hvm w_7 hB hz1 hk1 hS => ?_)
              obtain ⟨o_8, o_9, o_10, o_11, o_12, o_13, o_14, o_15, o_16, o_17, o_18, o_19, o_20, o_21, o_22⟩ := u
              dsimp only at w_7 hB
              obtain ⟨er, hP1, hK1, hD1⟩ := hB
              rw [ht] at hP1
              have hK1 := va_K.moved hvm.symm hK1
              obtain ⟨hP, hD⟩ := kx_joinM (w2 := [kx_4 m_ q_row q_t t_ h0 k0 w_ z_ slots o_8, kx_2 q_t q_row q_joined q_from q_to q_size q_lossOf q_lessBy q_value q_number o_9 o_10, kx_0 q_row q_cell len, kx_a q_cell cyI 160 f, kx_a q_from cyI 319 o_11, kx_a q_to cyI 319 o_12, kx_a q_size cyI 319 o_13, kx_a q_lossOf cyI 319 o_14, kx_a q_lessBy cyI 319 o_15, kx_a q_value cyI 1914 o_16, kx_a q_number cyI 1914 o_17, kx_3 q_joined j_v j_n o_18 o_19 o_20, kx_a j_v cyI 12 o_21, kx_a j_n cyI 12 o_22, kx_3 h0 a_v a_n vs lo le, kx_a a_v cyI 12 fv, kx_a a_n cyI 12 fn]) hP hD hP1 hD1 hk1 hFc [true, true, true, true, true, true, true, true, true, true, true, true, true, true, false, false, false] hCc rfl
              clear hP1 hD1 hK1 hk1 hz1 hFc hDc hPc hKc hCc
              generalize H1 = H at hP hS ⊢
              have w_7 : o_8.toInt = 0 ∧ o_10 = slots ∧ sixes o_13 ∧ mj_C slots.toNatClampNeg f o_11 o_12 o_13 o_14 o_15 o_16 o_17 o_9.toInt len.toInt ∧ 0 ≤ o_9.toInt ∧ o_9.toInt ≤ 319 ∧ treeOk o_11 o_12 o_9.toInt len.toInt := w_7
              rw [er]
              have i_hs := congrArg Int32.toInt w_7.2.1
              refine lv_astore (lv' := [(5, .ref q_t), (0, .ref m_), (1, .int p0), (2, .int p1), (3, .int p2), (4, .int p3)]) hx hb dX4_failed_40 hl (by decide) rfl (fun ls hl => ?_)
              refine lv_aload hx hb dX4_failed_42 (lv_at hl 0 rfl) ?_
              refine lv_aload_n hx hb dX4_failed_44 rfl (lv_at hl 1 rfl) ?_
              refine va_get (D := (dC, dI)) (ci := 4) (v := .ref h0) (C := RX4) (T := TX4) (N := 9) hx hb hts hi_4 hown hK hP 0 rfl rfl 3 (by decide) hf_35 (fun _ h9 => h9) rfl dX4_failed_45 ?_
              refine lv_iload_n hx hb dX4_failed_48 rfl (lv_at hl 2 rfl) ?_
              refine lv_iload_n hx hb dX4_failed_49 rfl (lv_at hl 3 rfl) ?_
              obtain ⟨hPc, hDc, hFc, hCc⟩ := kx_preM (wc := [kx_2 q_t q_row q_joined q_from q_to q_size q_lossOf q_lessBy q_value q_number o_9 o_10, kx_a q_from cyI 319 o_11, kx_a q_to cyI 319 o_12, kx_a q_size cyI 319 o_13, kx_a q_lossOf cyI 319 o_14, kx_a q_value cyI 1914 o_16, kx_a q_number cyI 1914 o_17, kx_3 h0 a_v a_n vs lo le, kx_a a_v cyI 12 fv, kx_a a_n cyI 12 fn]) hP hD hS hA [false, true, false, false, true, true, true, true, false, true, true, false, false, false, true, true, true] rfl
              have hKc := hK
              refine va_callv (va_runV (As := [.ref h0, .int p0, .int p1]) (rest := []) ⟨hx, hb, hml, hown, hts⟩ (kx_un (c_X2_gather l dC dI q_t q_row q_joined q_from q_to q_size q_lossOf q_lessBy q_value q_number o_9 o_10 h0 a_v a_n cyI vs lo le fv fn o_11 o_12 o_13 o_14 o_16 o_17 p0 p1 H.size w_7.2.2.2.2.1 w_7.2.2.2.2.2.1 w_7.2.2.1)) (cwV 3 hts gX4_failed_X2_gather rfl rfl rfl (by decide +kernel) ⟨Nat.le_of_ble_eq_true rfl, Nat.le_of_ble_eq_true rfl⟩) ⟨fun a U g mk q => by obtain ⟨q0, q1, qP, qK, qD⟩ := q; exact ⟨q0, q1, qP, va_K.moved (u := U) (U := U.calling g mk a) (Vm.Alike.refl U.vm) qK, qD⟩, kx_rc2 hKc hPc (q0 := 0) rfl, fun U hU hW => ⟨rfl, by rw [hU], by rw [hU]; exact hPc, va_K.moved hW.alike hKc, hDc.weaken (fun _ _ _ _ => trivial)⟩⟩ rfl rfl hl.1 rfl (lv_room (Nat.le_of_ble_eq_true rfl)) dX4_failed_50 ⟨Nat.le_of_ble_eq_true rfl, Nat.le_of_ble_eq_true rfl⟩) hS (fun q _ h => hFc q h) hFc (fun u t H1 locs ht hvm w_23 hB hz1 hk1 hS => ?_)
              obtain ⟨o_24, o_25, o_26, o_27, o_28⟩ := u
              dsimp only at w_23 hB
              obtain ⟨hP1, hK1, hD1⟩ := hB
              rw [ht] at hP1
              have hK1 := va_K.moved hvm.symm hK1
              obtain ⟨hP, hD⟩ := kx_joinM (w2 := [kx_4 m_ q_row q_t t_ h0 k0 w_ z_ slots o_8, kx_2 q_t q_row q_joined q_from q_to q_size q_lossOf q_lessBy q_value q_number o_9 o_10, kx_0 q_row q_cell len, kx_a q_cell cyI 160 f, kx_a q_from cyI 319 o_11, kx_a q_to cyI 319 o_12, kx_a q_size cyI 319 o_13, kx_a q_lossOf cyI 319 o_14, kx_a q_lessBy cyI 319 o_15, kx_a q_value cyI 1914 o_16, kx_a q_number cyI 1914 o_17, kx_3 q_joined j_v j_n o_18 o_19 o_20, kx_a j_v cyI 12 o_21, kx_a j_n cyI 12 o_22, kx_3 h0 a_v a_n o_24 o_25 o_26, kx_a a_v cyI 12 o_27, kx_a a_n cyI 12 o_28]) hP hD hP1 hD1 hk1 hFc [false, true, false, false, true, true, true, true, false, true, true, false, false, false, true, true, true] hCc rfl
              clear hP1 hD1 hK1 hk1 hz1 hFc hDc hPc hKc hCc
              generalize H1 = H at hP hS ⊢
              have w_23 : 0 ≤ o_24.toInt ∧ o_24.toInt ≤ 12 := w_23
              refine lv_aload_n hx hb dX4_failed_53 rfl (lv_at hl 1 rfl) ?_
              refine va_get (D := (dC, dI)) (ci := 4) (v := .ref h0) (C := RX4) (T := TX4) (N := 9) hx hb hts hi_4 hown hK hP 0 rfl rfl 3 (by decide) hf_35 (fun _ h9 => h9) rfl dX4_failed_54 ?_
              refine va_get (D := (dC, dI)) (ci := 3) (v := .int o_24) (C := RX3) (T := TX3) (N := 5) hx hb hts hi_3 hown hK hP 14 rfl rfl 2 (by decide) hf_174 (fun _ h9 => h9) rfl dX4_failed_57 ?_
              refine lv_istore (lv' := [(6, .int o_24), (5, .ref q_t), (0, .ref m_), (1, .int p0), (2, .int p1), (3, .int p2), (4, .int p3)]) hx hb dX4_failed_60 hl (by decide) rfl (fun ls hl => ?_)
              refine lv_aload_n hx hb dX4_failed_62 rfl (lv_at hl 2 rfl) ?_
              refine lv_aload hx hb dX4_failed_63 (lv_at hl 1 rfl) ?_
              refine lv_iload_n hx hb dX4_failed_65 rfl (lv_at hl 3 rfl) ?_
              refine lv_iload_n hx hb dX4_failed_66 rfl (lv_at hl 4 rfl) ?_
              refine lv_iload_n hx hb dX4_failed_67 rfl (lv_at hl 5 rfl) ?_
              refine lv_iload hx hb dX4_failed_68 (lv_at hl 6 rfl) ?_
              obtain ⟨hPc, hDc, hFc, hCc⟩ := kx_pre (wc := [kx_4 m_ q_row q_t t_ h0 k0 w_ z_ slots o_8, kx_0 q_row q_cell len, kx_a q_cell cyI 160 f, kx_2 q_t q_row q_joined q_from q_to q_size q_lossOf q_lessBy q_value q_number o_9 o_10, kx_a q_from cyI 319 o_11, kx_a q_to cyI 319 o_12, kx_a q_size cyI 319 o_13, kx_a q_lossOf cyI 319 o_14, kx_a q_value cyI 1914 o_16, kx_a q_number cyI 1914 o_17, kx_3 h0 a_v a_n o_24 o_25 o_26, kx_a a_v cyI 12 o_27, kx_a a_n cyI 12 o_28]) hP hD hS hA [0, 2, 3, 1, 4, 5, 6, 7, 9, 10, 14, 15, 16] (by decide) rfl
              have hKc := hK
              refine va_callv (va_runV (As := [.ref q_t, .int p0, .int p1, .int p2, .int p3]) (rest := []) ⟨hx, hb, hml, hown, hts⟩ (c_X4_gatherHeavy l dC dI m_ q_row q_t t_ h0 k0 w_ z_ slots o_8 q_joined q_from q_to q_size q_lossOf q_lessBy q_value q_number o_9 o_10 q_cell cyI len f o_11 o_12 o_13 o_14 o_16 o_17 a_v a_n cyI o_24 o_25 o_26 o_27 o_28 p0 p1 p2 p3 H.size w_7.2.2.2.2.1 w_7.2.2.2.2.2.1 w_7.2.2.1 (om_10 w_1.1) (om_167 a1 w_1.2.2)) (cwV 5 hts gX4_failed_X4_gatherHeavy rfl rfl rfl (by decide +kernel) ⟨Nat.le_of_ble_eq_true rfl, Nat.le_of_ble_eq_true rfl⟩) ⟨fun a U g mk q => by obtain ⟨q0, q1, qP, qK, qD, qn0⟩ := q; exact ⟨q0, q1, qP, va_K.moved (u := U) (U := U.calling g mk a) (Vm.Alike.refl U.vm) qK, qD, va_Nw.same (u := U) (U := U.calling g mk a) rfl rfl qn0⟩, kx_rc4 hKc hPc (q0 := 0) rfl, fun U hU hW => ⟨rfl, by rw [hU], by rw [hU]; exact hPc, va_K.moved hW.alike hKc, hDc.weaken (fun _ _ _ _ => trivial), va_Nw.warmM hW hN0⟩⟩ rfl rfl hl.1 rfl (lv_room (Nat.le_of_ble_eq_true rfl)) dX4_failed_70 ⟨Nat.le_of_ble_eq_true rfl, Nat.le_of_ble_eq_true rfl⟩) hS (fun q _ h => hFc q h) hFc (fun u t H1 locs ht hvm w_29 hB hz1 hk1 hS => ?_)
              obtain ⟨o_30, o_31, o_32, o_33, o_34⟩ := u
              dsimp only at w_29 hB
              obtain ⟨hP1, hK1, hD1⟩ := hB
              rw [ht] at hP1
              have hK1 := va_K.moved hvm.symm hK1
              obtain ⟨hP, hD⟩ := kx_join (w2 := [kx_a q_lessBy cyI 319 o_15, kx_3 q_joined j_v j_n o_18 o_19 o_20, kx_a j_v cyI 12 o_21, kx_a j_n cyI 12 o_22, kx_4 m_ q_row q_t t_ h0 k0 w_ z_ slots o_8, kx_0 q_row q_cell len, kx_a q_cell cyI 160 f, kx_2 q_t q_row q_joined q_from q_to q_size q_lossOf q_lessBy q_value q_number o_9 o_10, kx_a q_from cyI 319 o_11, kx_a q_to cyI 319 o_12, kx_a q_size cyI 319 o_13, kx_a q_lossOf cyI 319 o_14, kx_a q_value cyI 1914 o_16, kx_a q_number cyI 1914 o_17, kx_3 h0 a_v a_n o_30 o_31 o_32, kx_a a_v cyI 12 o_33, kx_a a_n cyI 12 o_34]) hP hD hP1 hD1 hk1 hFc [0, 2, 3, 1, 4, 5, 6, 7, 9, 10, 14, 15, 16] [8, 11, 12, 13] hCc rfl (by decide) (by decide)
              clear hP1 hD1 hK1 hk1 hz1 hFc hDc hPc hKc hCc
              generalize H1 = H at hP hS ⊢
              have w_29 : 0 ≤ o_30.toInt ∧ o_30.toInt ≤ 12 := w_29
              refine lv_iload hx hb dX4_failed_73 (lv_at hl 0 rfl) ?_
              refine lv_aload_n hx hb dX4_failed_75 rfl (lv_at hl 2 rfl) ?_
              refine va_get (D := (dC, dI)) (ci := 4) (v := .ref h0) (C := RX4) (T := TX4) (N := 9) hx hb hts hi_4 hown hK hP 4 rfl rfl 3 (by decide) hf_35 (fun _ h9 => h9) rfl dX4_failed_76 ?_
              refine va_get (D := (dC, dI)) (ci := 3) (v := .int o_30) (C := RX3) (T := TX3) (N := 5) hx hb hts hi_3 hown hK hP 14 rfl rfl 2 (by decide) hf_174 (fun _ h9 => h9) rfl dX4_failed_79 ?_
              refine lv_isub hx hb dX4_failed_82 ?_
              refine lv_topi (fun y_35 ey_35 => ?_)
              obtain ⟨hP9, hD9⟩ := kx_sub (w2 := [kx_4 m_ q_row q_t t_ h0 k0 w_ z_ slots o_8, kx_2 q_t q_row q_joined q_from q_to q_size q_lossOf q_lessBy q_value q_number o_9 o_10, kx_0 q_row q_cell len, kx_a q_cell cyI 160 f, kx_a q_from cyI 319 o_11, kx_a q_to cyI 319 o_12, kx_a q_size cyI 319 o_13, kx_a q_lossOf cyI 319 o_14, kx_a q_lessBy cyI 319 o_15, kx_a q_value cyI 1914 o_16, kx_a q_number cyI 1914 o_17, kx_3 q_joined j_v j_n o_18 o_19 o_20, kx_a j_v cyI 12 o_21, kx_a j_n cyI 12 o_22, kx_3 h0 a_v a_n o_30 o_31 o_32, kx_a a_v cyI 12 o_33, kx_a a_n cyI 12 o_34]) hP hD [4, 7, 5, 6, 8, 9, 10, 11, 0, 12, 13, 1, 2, 3, 14, 15, 16] (by decide) rfl
              have hK9 := hK
              exact W.iret (v := y_35) hx hb hr (hlocks := hlocks) (fun t ht hW => ⟨⟨y_35, (o_8, o_9, o_10, o_11, o_12, o_13, o_14, o_15, o_16, o_17, o_18, o_19, o_20, o_21, o_22, o_30, o_31, o_32, o_33, o_34), rfl, ⟨(fun _ => ⟨w_7.2.1, w_7.2.2.2.1⟩), w_7.2.2.1⟩, by rw [ht]; exact hP9, va_K.moved hW.alike hK9, hD9⟩, hS.F ht⟩) hS.2.2 dX4_failed_83
            · exact absurd c_6 (by decide)
          · have w_5 : (0 : Int) ≤ 1 := w_5
            refine lv_if_ne (tgt := 36) hx hb dX4_failed_30 (by decide) (fun c_36 => ?_) (fun c_36 => ?_)
            · exact absurd c_36 (by decide)
            · refine lv_bipush (v := (-2)) hx hb dX4_failed_33 (by decide) ?_
              have hP9 := hP
              have hD9 := hD
              have hK9 := hK
              exact W.iret (v := (-2)) hx hb hr (hlocks := hlocks) (fun t ht hW => ⟨⟨(-2), (old, nodes, here, ff, ft, fs, fo, fe, uv, un, js, jl, je, jv, jn, vs, lo, le, fv, fn), rfl, ⟨l0, s0⟩, by rw [ht]; exact hP9, va_K.moved hW.alike hK9, hD9⟩, hS.F ht⟩) hS.2.2 dX4_failed_35
        · exact absurd c_4 (by decide)
      · have w_3 : (p2.toInt < 1 ∨ p3.toInt < p2.toInt ∨ 999 < p3.toInt) := w_3
        refine lv_if_ne (tgt := 23) hx hb dX4_failed_18 (by decide) (fun c_37 => ?_) (fun c_37 => ?_)
        · exact absurd c_37 (by decide)
        · refine lv_iconst (v := (-1)) hx hb dX4_failed_21 (by decide) ?_
          have hP9 := hP
          have hD9 := hD
          have hK9 := hK
          exact W.iret (v := (-1)) hx hb hr (hlocks := hlocks) (fun t ht hW => ⟨⟨(-1), (old, nodes, here, ff, ft, fs, fo, fe, uv, un, js, jl, je, jv, jn, vs, lo, le, fv, fn), rfl, ⟨l0, s0⟩, by rw [ht]; exact hP9, va_K.moved hW.alike hK9, hD9⟩, hS.F ht⟩) hS.2.2 dX4_failed_22
  · have w_1 : (p0.toInt < 0 ∨ p1.toInt ≤ p0.toInt ∨ len.toInt < p1.toInt) := w_1
    refine lv_if_eq (tgt := 21) hx hb dX4_failed_9 (by decide) (fun c_38 => ?_) (fun c_38 => ?_)
    · refine lv_iconst (v := (-1)) hx hb dX4_failed_21 (by decide) ?_
      have hP9 := hP
      have hD9 := hD
      have hK9 := hK
      exact W.iret (v := (-1)) hx hb hr (hlocks := hlocks) (fun t ht hW => ⟨⟨(-1), (old, nodes, here, ff, ft, fs, fo, fe, uv, un, js, jl, je, jv, jn, vs, lo, le, fv, fn), rfl, ⟨l0, s0⟩, by rw [ht]; exact hP9, va_K.moved hW.alike hK9, hD9⟩, hS.F ht⟩) hS.2.2 dX4_failed_22
    · exact absurd c_38 (by decide)



theorem mj_old {K : Nat} {f f2 ff ft fs fo fe uv un : Nat → Int32} {nd n l r : Int} (hC : ∀ k : Nat, (k : Int) < nd → mj_ok K f ff ft fs fo fe uv un k) (ht : treeOk ff ft nd n) (hf : ∀ p : Nat, ((p : Int) < l ∨ r ≤ (p : Int)) → f2 p = f p) : ∀ k : Nat, (k : Int) < nd → ¬ mj_hit ff ft l r k → mj_ok K f2 ff ft fs fo fe uv un k := by
  intro k hk hn
  obtain ⟨d, μ, L, c, t⟩ := hC k hk
  obtain ⟨a1, a2, a3, a4⟩ := ht k hk
  have n1 := ki_nat (ff k) rfl a1
  have n2 := ki_nat (ft k) rfl (by omega)
  refine ⟨d, μ, L, c, mj_T_row d _ _ _ _ _ _ t (fun p h1 h2 => hf p ?_)⟩
  unfold mj_hit at hn
  omega
theorem mj_fill_out {f : Nat → Int32} {l r : Nat} {v : Int32} {p : Nat} (h : p < l ∨ r ≤ p) : mj_fill f l r v p = f p := by
  unfold mj_fill
  rw [if_neg (by omega)]
theorem mj_turn_out {f : Nat → Int32} {l r p : Nat} (h : p < l ∨ r ≤ p) : mj_turn f l r p = f p := by
  unfold mj_turn
  rw [if_neg (by omega)]
theorem mj_C_new {K : Nat} {f f2 ff ft fs fo fe uv un fs2 fo2 fe2 uv2 un2 : Nat → Int32} {nd n : Int} (h : mj_C K f ff ft fs fo fe uv un nd n) (ok : ∀ k : Nat, (k : Int) < nd → mj_ok K f2 ff ft fs2 fo2 fe2 uv2 un2 k) : mj_C K f2 ff ft fs2 fo2 fe2 uv2 un2 nd n := ⟨h.1, h.2.1, h.2.2.1, h.2.2.2.1, h.2.2.2.2.1, h.2.2.2.2.2.1, ok⟩

set_option maxHeartbeats 4000000 in
set_option maxRecDepth 100000 in
theorem c_X4_overwrite_xx (l : Launch) (dC : Nat → ClassId) (dI : Nat → Nat → Nat) (m_ : Nat) (q_row : Nat) (q_t : Nat) (t_ : Nat) (h0 : Nat) (k0 : Nat) (w_ : Nat) (z_ : Nat) (slots : Int32) (old : Int32) (q_joined : Nat) (q_from : Nat) (q_to : Nat) (q_size : Nat) (q_lossOf : Nat) (q_lessBy : Nat) (q_value : Nat) (q_number : Nat) (nodes : Int32) (here : Int32) (q_cell : Nat) (cyI : ClassId) (len : Int32) (f : Nat → Int32) (ff : Nat → Int32) (ft : Nat → Int32) (fs : Nat → Int32) (fo : Nat → Int32) (uv : Nat → Int32) (un : Nat → Int32) (fe : Nat → Int32) (j_v : Nat) (j_n : Nat) (js : Int32) (jl : Int32) (je : Int32) (jv : Nat → Int32) (jn : Nat → Int32) (p0 : Int32) (p1 : Int32) (p2 : Int32) (sz : Nat) (b0 : 0 ≤ nodes.toInt) (c0 : nodes.toInt ≤ 319) (c1 : len.toInt ≤ 160) (s0 : sixes fs) (t0 : treeOk ff ft nodes.toInt len.toInt) (d0 : 0 ≤ p0.toInt) (d1 : p1.toInt ≤ 160) (d2 : p0.toInt < p1.toInt) (kh0 : 1 ≤ here.toInt) (kh1 : here.toInt ≤ 6) (hC : mj_C here.toNatClampNeg f ff ft fs fo fe uv un nodes.toInt len.toInt) : kx_MQ l (dC, dI) yX4_overwrite wsX4_overwrite ({ frames := 5, cells := 0, slots := 0, locals := 225 }) [.ref m_, .ref q_t, .int p0, .int p1, .int p2] [kx_4 m_ q_row q_t t_ h0 k0 w_ z_ slots old, kx_2 q_t q_row q_joined q_from q_to q_size q_lossOf q_lessBy q_value q_number nodes here, kx_0 q_row q_cell len, kx_a q_cell cyI 160 f, kx_a q_from cyI 319 ff, kx_a q_to cyI 319 ft, kx_a q_size cyI 319 fs, kx_a q_lossOf cyI 319 fo, kx_a q_lessBy cyI 319 fe, kx_a q_value cyI 1914 uv, kx_a q_number cyI 1914 un, kx_3 q_joined j_v j_n js jl je, kx_a j_v cyI 12 jv, kx_a j_n cyI 12 jn] [(cyI, .int)] sz (fun A => va_Qi (fun (r : Int32) (u : (Nat → Int32) × (Nat → Int32) × (Nat → Int32) × (Nat → Int32) × (Nat → Int32) × (Nat → Int32) × Int32 × Int32 × Int32 × (Nat → Int32) × (Nat → Int32)) => u.1 = mj_fill f p0.toNatClampNeg p1.toNatClampNeg p2 ∧ sixes u.2.1 ∧ mj_C here.toNatClampNeg u.1 ff ft u.2.1 u.2.2.1 u.2.2.2.1 u.2.2.2.2.1 u.2.2.2.2.2.1 nodes.toInt len.toInt) (fun (u : (Nat → Int32) × (Nat → Int32) × (Nat → Int32) × (Nat → Int32) × (Nat → Int32) × (Nat → Int32) × Int32 × Int32 × Int32 × (Nat → Int32) × (Nat → Int32)) (t : State) => va_P (dC, dI) vwCl [kx_4 m_ q_row q_t t_ h0 k0 w_ z_ slots old, kx_2 q_t q_row q_joined q_from q_to q_size q_lossOf q_lessBy q_value q_number nodes here, kx_0 q_row q_cell len, kx_a q_cell cyI 160 u.1, kx_a q_from cyI 319 ff, kx_a q_to cyI 319 ft, kx_a q_size cyI 319 u.2.1, kx_a q_lossOf cyI 319 u.2.2.1, kx_a q_lessBy cyI 319 u.2.2.2.1, kx_a q_value cyI 1914 u.2.2.2.2.1, kx_a q_number cyI 1914 u.2.2.2.2.2.1, kx_3 q_joined j_v j_n u.2.2.2.2.2.2.1 u.2.2.2.2.2.2.2.1 u.2.2.2.2.2.2.2.2.1, kx_a j_v cyI 12 u.2.2.2.2.2.2.2.2.2.1, kx_a j_n cyI 12 u.2.2.2.2.2.2.2.2.2.2] t.heap ∧ va_K (dC, dI) vwCl [(cyI, .int)] t ∧ va_D A [kx_4 m_ q_row q_t t_ h0 k0 w_ z_ slots old, kx_2 q_t q_row q_joined q_from q_to q_size q_lossOf q_lessBy q_value q_number nodes here, kx_0 q_row q_cell len, kx_a q_cell cyI 160 u.1, kx_a q_from cyI 319 ff, kx_a q_to cyI 319 ft, kx_a q_size cyI 319 u.2.1, kx_a q_lossOf cyI 319 u.2.2.1, kx_a q_lessBy cyI 319 u.2.2.2.1, kx_a q_value cyI 1914 u.2.2.2.2.1, kx_a q_number cyI 1914 u.2.2.2.2.2.1, kx_3 q_joined j_v j_n u.2.2.2.2.2.2.1 u.2.2.2.2.2.2.2.1 u.2.2.2.2.2.2.2.2.1, kx_a j_v cyI 12 u.2.2.2.2.2.2.2.2.2.1, kx_a j_n cyI 12 u.2.2.2.2.2.2.2.2.2.2]) A) := by
  refine kx_stQ (ws := wsX4_overwrite) (cc := cX4_overwrite) (maxL := 6) (ret := (some .int)) (by decide) rfl (Nat.le_of_ble_eq_true rfl) ?_
  intro p e s m below meth c A ls hx hb hr hlocks hts hown hml hA hS hP hK hD hl
  have hown : s.vm.findClass RX4 = some m.cls := hown
  have hl : lv_has ls 6 [(0, .ref m_), (1, .ref q_t), (2, .int p0), (3, .int p1), (4, .int p2)] := hl
  have hf_12 := hts (.fieldLink RX4 12 "MajorityIndex" "row" "LMajorityIndex$Row;") (List.mem_of_getElem? (i := 1) rfl)
  have hi_4 : ∀ w ∈ u_ws RX4 TX4 9, w ∈ wsX4_overwrite := fun w h => List.mem_cons_of_mem _ (List.mem_append_left _ (List.mem_append_left _ (List.mem_append_left _ (List.mem_append_right _ h))))
  have hf_110 := hts (.fieldLink RX4 110 "MajorityIndex$Row" "cell" "[I") (List.mem_of_getElem? (i := 2) rfl)
  have hi_0 : ∀ w ∈ u_ws RX0 TX0 2, w ∈ wsX4_overwrite := fun w h => List.mem_cons_of_mem _ (List.mem_append_left _ (List.mem_append_left _ (List.mem_append_right _ h)))
  refine lv_iload_n hx hb dX4_overwrite_0 rfl (lv_at hl 2 rfl) ?_
  refine lv_istore (lv' := [(5, .int p0), (0, .ref m_), (1, .ref q_t), (2, .int p0), (3, .int p1), (4, .int p2)]) hx hb dX4_overwrite_1 hl (by decide) rfl (fun ls hl => ?_)
  have LP1 : ∀ (n : Nat) (i : Int32) (gc : Nat → Int32), (p0.toInt ≤ i.toInt) → (i.toInt ≤ p1.toInt) → (gc = mj_fill f p0.toNatClampNeg i.toNatClampNeg p2) → (p1.toInt - i.toInt).toNat < n → ∀ (H : Heap) (locs : List Loc), va_P (dC, dI) vwCl [kx_4 m_ q_row q_t t_ h0 k0 w_ z_ slots old, kx_2 q_t q_row q_joined q_from q_to q_size q_lossOf q_lessBy q_value q_number nodes here, kx_0 q_row q_cell len, kx_a q_cell cyI 160 gc, kx_a q_from cyI 319 ff, kx_a q_to cyI 319 ft, kx_a q_size cyI 319 fs, kx_a q_lossOf cyI 319 fo, kx_a q_lessBy cyI 319 fe, kx_a q_value cyI 1914 uv, kx_a q_number cyI 1914 un, kx_3 q_joined j_v j_n js jl je, kx_a j_v cyI 12 jv, kx_a j_n cyI 12 jn] H → va_D A [kx_4 m_ q_row q_t t_ h0 k0 w_ z_ slots old, kx_2 q_t q_row q_joined q_from q_to q_size q_lossOf q_lessBy q_value q_number nodes here, kx_0 q_row q_cell len, kx_a q_cell cyI 160 gc, kx_a q_from cyI 319 ff, kx_a q_to cyI 319 ft, kx_a q_size cyI 319 fs, kx_a q_lossOf cyI 319 fo, kx_a q_lessBy cyI 319 fe, kx_a q_value cyI 1914 uv, kx_a q_number cyI 1914 un, kx_3 q_joined j_v j_n js jl je, kx_a j_v cyI 12 jv, kx_a j_n cyI 12 jn] → va_S A s.heap H locs → ∀ (ls : Array Slot), lv_has ls 6 [(5, .int i), (0, .ref m_), (1, .ref q_t), (2, .int p0), (3, .int p1), (4, .int p2)] → W p l e (headSpec wsX4_overwrite ({ frames := 5, cells := 0, slots := 0, locals := 225 })).room s m ([.ref m_, .ref q_t, .int p0, .int p1, .int p2] : List Value).toArray below meth c H locs 0 0 (MQ below (va_Qi (fun (r : Int32) (u : (Nat → Int32) × (Nat → Int32) × (Nat → Int32) × (Nat → Int32) × (Nat → Int32) × (Nat → Int32) × Int32 × Int32 × Int32 × (Nat → Int32) × (Nat → Int32)) => u.1 = mj_fill f p0.toNatClampNeg p1.toNatClampNeg p2 ∧ sixes u.2.1 ∧ mj_C here.toNatClampNeg u.1 ff ft u.2.1 u.2.2.1 u.2.2.2.1 u.2.2.2.2.1 u.2.2.2.2.2.1 nodes.toInt len.toInt) (fun (u : (Nat → Int32) × (Nat → Int32) × (Nat → Int32) × (Nat → Int32) × (Nat → Int32) × (Nat → Int32) × Int32 × Int32 × Int32 × (Nat → Int32) × (Nat → Int32)) (t : State) => va_P (dC, dI) vwCl [kx_4 m_ q_row q_t t_ h0 k0 w_ z_ slots old, kx_2 q_t q_row q_joined q_from q_to q_size q_lossOf q_lessBy q_value q_number nodes here, kx_0 q_row q_cell len, kx_a q_cell cyI 160 u.1, kx_a q_from cyI 319 ff, kx_a q_to cyI 319 ft, kx_a q_size cyI 319 u.2.1, kx_a q_lossOf cyI 319 u.2.2.1, kx_a q_lessBy cyI 319 u.2.2.2.1, kx_a q_value cyI 1914 u.2.2.2.2.1, kx_a q_number cyI 1914 u.2.2.2.2.2.1, kx_3 q_joined j_v j_n u.2.2.2.2.2.2.1 u.2.2.2.2.2.2.2.1 u.2.2.2.2.2.2.2.2.1, kx_a j_v cyI 12 u.2.2.2.2.2.2.2.2.2.1, kx_a j_n cyI 12 u.2.2.2.2.2.2.2.2.2.2] t.heap ∧ va_K (dC, dI) vwCl [(cyI, .int)] t ∧ va_D A [kx_4 m_ q_row q_t t_ h0 k0 w_ z_ slots old, kx_2 q_t q_row q_joined q_from q_to q_size q_lossOf q_lessBy q_value q_number nodes here, kx_0 q_row q_cell len, kx_a q_cell cyI 160 u.1, kx_a q_from cyI 319 ff, kx_a q_to cyI 319 ft, kx_a q_size cyI 319 u.2.1, kx_a q_lossOf cyI 319 u.2.2.1, kx_a q_lessBy cyI 319 u.2.2.2.1, kx_a q_value cyI 1914 u.2.2.2.2.1, kx_a q_number cyI 1914 u.2.2.2.2.2.1, kx_3 q_joined j_v j_n u.2.2.2.2.2.2.1 u.2.2.2.2.2.2.2.1 u.2.2.2.2.2.2.2.2.1, kx_a j_v cyI 12 u.2.2.2.2.2.2.2.2.2.1, kx_a j_n cyI 12 u.2.2.2.2.2.2.2.2.2.2]) A) ([.ref m_, .ref q_t, .int p0, .int p1, .int p2] : List Value).toArray s 0 0 A) (F0 m 3 ls []) := by
    intro n
    induction n with
    | zero => intro i gc LP1_h0 LP1_h1 LP1_h2 hn; exact absurd hn (Nat.not_lt_zero _)
    | succ n ih1 =>
      intro i gc LP1_h0 LP1_h1 LP1_h2 hn1 H locs hP hD hS ls hl
      have n_i := ki_nat i rfl (om_0 d0 LP1_h0)
      have n_p0 := ki_nat p0 rfl (om_10 d0)
      have n_p1 := ki_nat p1 rfl (om_21 d0 d2)
      refine lv_iload hx hb dX4_overwrite_3 (lv_at hl 0 rfl) ?_
      refine lv_iload_n hx hb dX4_overwrite_5 rfl (lv_at hl 4 rfl) ?_
      refine lv_icmp_ge (tgt := 27) hx hb dX4_overwrite_6 (by decide) (fun c_1 => ?_) (fun c_1 => ?_)
      · have i_1 : p1.toInt ≤ i.toInt := kc_le c_1
        refine lv_aload_n hx hb dX4_overwrite_27 rfl (lv_at hl 2 rfl) ?_
        refine lv_iload_n hx hb dX4_overwrite_28 rfl (lv_at hl 3 rfl) ?_
        refine lv_iload_n hx hb dX4_overwrite_29 rfl (lv_at hl 4 rfl) ?_
        obtain ⟨hPc, hDc, hFc, hCc⟩ := kx_preM (wc := [kx_2 q_t q_row q_joined q_from q_to q_size q_lossOf q_lessBy q_value q_number nodes here, kx_0 q_row q_cell len, kx_a q_cell cyI 160 gc, kx_a q_from cyI 319 ff, kx_a q_to cyI 319 ft, kx_a q_size cyI 319 fs, kx_a q_lossOf cyI 319 fo, kx_a q_lessBy cyI 319 fe, kx_a q_value cyI 1914 uv, kx_a q_number cyI 1914 un, kx_3 q_joined j_v j_n js jl je, kx_a j_v cyI 12 jv, kx_a j_n cyI 12 jn]) hP hD hS hA [false, true, true, true, true, true, true, true, true, true, true, true, true, true] rfl
        have hKc := hK
        refine va_calli (va_runV (As := [.int p0, .int p1]) (rest := []) ⟨hx, hb, hml, hown, hts⟩ (kx_un (c_X2_renew_x l dC dI q_t q_row q_joined q_from q_to q_size q_lossOf q_lessBy q_value q_number nodes here q_cell cyI len gc ff ft fs fo uv un fe j_v j_n js jl je jv jn p0 p1 H.size b0 c0 c1 s0 t0 kh0 kh1 hC.2.2.2.2.1 (mj_old hC.2.2.2.2.2.2 t0 (fun p hp => by rw [LP1_h2]; exact mj_fill_out (by omega))))) (cwV 2 hts gX4_overwrite_X2_renew rfl rfl rfl (by decide +kernel) ⟨Nat.le_of_ble_eq_true rfl, Nat.le_of_ble_eq_true rfl⟩) ⟨fun a U g mk q => by obtain ⟨q0, q1, qP, qK, qD⟩ := q; exact ⟨q0, q1, qP, va_K.moved (u := U) (U := U.calling g mk a) (Vm.Alike.refl U.vm) qK, qD⟩, kx_rc2 hKc hPc (q0 := 0) rfl, fun U hU hW => ⟨rfl, by rw [hU], by rw [hU]; exact hPc, va_K.moved hW.alike hKc, hDc.weaken (fun _ _ _ _ => trivial)⟩⟩ rfl rfl hl.1 rfl (lv_room (Nat.le_of_ble_eq_true rfl)) dX4_overwrite_30 ⟨Nat.le_of_ble_eq_true rfl, Nat.le_of_ble_eq_true rfl⟩) hS (fun q _ h => hFc q h) hFc (fun r_2 u t H1 locs ht hvm w_2 hB hz1 hk1 hS => ?_)
        obtain ⟨o_3, o_4, o_5, o_6, o_7, o_8, o_9, o_10, o_11, o_12⟩ := u
        dsimp only at w_2 hB
        obtain ⟨hP1, hK1, hD1⟩ := hB
        rw [ht] at hP1
        have hK1 := va_K.moved hvm.symm hK1
        obtain ⟨hP, hD⟩ := kx_joinM (w2 := [kx_4 m_ q_row q_t t_ h0 k0 w_ z_ slots old, kx_2 q_t q_row q_joined q_from q_to q_size q_lossOf q_lessBy q_value q_number nodes here, kx_0 q_row q_cell len, kx_a q_cell cyI 160 gc, kx_a q_from cyI 319 ff, kx_a q_to cyI 319 ft, kx_a q_size cyI 319 o_3, kx_a q_lossOf cyI 319 o_4, kx_a q_lessBy cyI 319 o_5, kx_a q_value cyI 1914 o_6, kx_a q_number cyI 1914 o_7, kx_3 q_joined j_v j_n o_8 o_9 o_10, kx_a j_v cyI 12 o_11, kx_a j_n cyI 12 o_12]) hP hD hP1 hD1 hk1 hFc [false, true, true, true, true, true, true, true, true, true, true, true, true, true] hCc rfl
        clear hP1 hD1 hK1 hk1 hz1 hFc hDc hPc hKc hCc
        generalize H1 = H at hP hS ⊢
        have w_2 : sixes o_3 ∧ ∀ k : Nat, (k : Int) < nodes.toInt → mj_ok here.toNatClampNeg gc ff ft o_3 o_4 o_5 o_6 o_7 k := w_2
        have hP9 := hP
        have hD9 := hD
        have hK9 := hK
        exact W.iret (v := r_2) hx hb hr (hlocks := hlocks) (fun t ht hW => ⟨⟨r_2, (gc, o_3, o_4, o_5, o_6, o_7, o_8, o_9, o_10, o_11, o_12), rfl, ⟨(by (try dsimp only); rw [LP1_h2, show i.toNatClampNeg = p1.toNatClampNeg by omega]), w_2.1, mj_C_new hC w_2.2⟩, by rw [ht]; exact hP9, va_K.moved hW.alike hK9, hD9⟩, hS.F ht⟩) hS.2.2 dX4_overwrite_33
      · have i_1 : i.toInt < p1.toInt := kc_nle c_1
        refine lv_aload_n hx hb dX4_overwrite_9 rfl (lv_at hl 1 rfl) ?_
        refine va_get (D := (dC, dI)) (ci := 4) (v := .ref q_row) (C := RX4) (T := TX4) (N := 9) hx hb hts hi_4 hown hK hP 0 rfl rfl 0 (by decide) hf_12 (fun _ h9 => h9) rfl dX4_overwrite_10 ?_
        refine va_get (D := (dC, dI)) (ci := 0) (v := .ref q_cell) (C := RX0) (T := TX0) (N := 2) hx hb hts hi_0 hown hK hP 2 rfl rfl 0 (by decide) hf_110 (fun _ h9 => h9) rfl dX4_overwrite_13 ?_
        refine lv_iload hx hb dX4_overwrite_16 (lv_at hl 0 rfl) ?_
        refine lv_iload hx hb dX4_overwrite_18 (lv_at hl 5 rfl) ?_
        refine va_iast hx hb hK hP hD hS 3 0 rfl rfl (ki_in (om_0 d0 LP1_h0) (om_1 d1 i_1)) dX4_overwrite_20 (fun H locs hP hD hS => ?_)
        obtain ⟨hP, hD⟩ := kx_re (w2 := [kx_4 m_ q_row q_t t_ h0 k0 w_ z_ slots old, kx_2 q_t q_row q_joined q_from q_to q_size q_lossOf q_lessBy q_value q_number nodes here, kx_0 q_row q_cell len, kx_a q_cell cyI 160 (upd gc i.toNatClampNeg p2), kx_a q_from cyI 319 ff, kx_a q_to cyI 319 ft, kx_a q_size cyI 319 fs, kx_a q_lossOf cyI 319 fo, kx_a q_lessBy cyI 319 fe, kx_a q_value cyI 1914 uv, kx_a q_number cyI 1914 un, kx_3 q_joined j_v j_n js jl je, kx_a j_v cyI 12 jv, kx_a j_n cyI 12 jn]) hP hD rfl
        obtain ⟨x_13, ex_13⟩ : ∃ y : Int32, y = i + 1 := ⟨_, rfl⟩
        have i_13 : x_13.toInt = i.toInt + 1 := ki_add ex_13 rfl rfl (om_2 d0 LP1_h0) (om_238 d1 LP1_h1)
        refine lv_iinc (v := x_13) (lv' := [(5, .int x_13), (0, .ref m_), (1, .ref q_t), (2, .int p0), (3, .int p1), (4, .int p2)]) hx hb dX4_overwrite_21 hl (k := 0) rfl (by rw [ex_13]; rfl) (by decide) rfl (fun ls hl => ?_)
        refine lv_goto (tgt := 3) hx hb dX4_overwrite_24 (by decide) ?_
        have n_14 := ki_nat x_13 rfl (om_89 d0 LP1_h0 i_13)
        exact ih1 x_13 (upd gc i.toNatClampNeg p2) (om_4 LP1_h0 i_13) (om_54 i_1 i_13) (by rw [LP1_h2]; exact mj_fill_step (by omega) (by omega)) (om_mu hn1 (om_5 i_13) (om_6 i_1)) _ _ hP hD hS ls (lv_sub hl [0, 1, 2, 3, 4, 5] rfl)
  exact LP1 ((p1.toInt - p0.toInt : Int).toNat + 1) p0 f om_7 (om_414 d2) (mj_fill_0 _ _ (Nat.le_refl _)).symm (Nat.lt_succ_self _) _ _ hP hD hS ls (lv_sub hl [0, 1, 2, 3, 4, 5] rfl)

set_option maxHeartbeats 4000000 in
set_option maxRecDepth 100000 in
theorem c_X4_set_X (l : Launch) (dC : Nat → ClassId) (dI : Nat → Nat → Nat) (m_ : Nat) (q_row : Nat) (q_t : Nat) (t_ : Nat) (h0 : Nat) (k0 : Nat) (w_ : Nat) (z_ : Nat) (slots : Int32) (old : Int32) (q_joined : Nat) (q_from : Nat) (q_to : Nat) (q_size : Nat) (q_lossOf : Nat) (q_lessBy : Nat) (q_value : Nat) (q_number : Nat) (nodes : Int32) (here : Int32) (q_cell : Nat) (cyI : ClassId) (len : Int32) (f : Nat → Int32) (ff : Nat → Int32) (ft : Nat → Int32) (fs : Nat → Int32) (fo : Nat → Int32) (uv : Nat → Int32) (un : Nat → Int32) (fe : Nat → Int32) (j_v : Nat) (j_n : Nat) (js : Int32) (jl : Int32) (je : Int32) (jv : Nat → Int32) (jn : Nat → Int32) (p0 : Int32) (p1 : Int32) (sz : Nat) (a0 : 0 ≤ len.toInt) (a1 : len.toInt ≤ 160) (s0 : sixes fs) (sl0 : 1 ≤ slots.toInt) (sl1 : slots.toInt ≤ 6) (l0 : laidX old slots here f ff ft fs fo fe uv un nodes len) (s1 : shorts f) : kx_MQ l (dC, dI) yX4_set wsX4_set ({ frames := 6, cells := 0, slots := 0, locals := 270 }) [.ref m_, .int p0, .int p1] [kx_4 m_ q_row q_t t_ h0 k0 w_ z_ slots old, kx_2 q_t q_row q_joined q_from q_to q_size q_lossOf q_lessBy q_value q_number nodes here, kx_0 q_row q_cell len, kx_a q_cell cyI 160 f, kx_a q_from cyI 319 ff, kx_a q_to cyI 319 ft, kx_a q_size cyI 319 fs, kx_a q_lossOf cyI 319 fo, kx_a q_lessBy cyI 319 fe, kx_a q_value cyI 1914 uv, kx_a q_number cyI 1914 un, kx_3 q_joined j_v j_n js jl je, kx_a j_v cyI 12 jv, kx_a j_n cyI 12 jn] [(cyI, .int)] sz (fun A => va_Qi (fun (r : Int32) (u : Int32 × Int32 × Int32 × (Nat → Int32) × (Nat → Int32) × (Nat → Int32) × (Nat → Int32) × (Nat → Int32) × (Nat → Int32) × (Nat → Int32) × Int32 × Int32 × Int32 × (Nat → Int32) × (Nat → Int32) × (Nat → Int32)) => (((0 ≤ p0.toInt ∧ p0.toInt < len.toInt ∧ -32768 ≤ p1.toInt ∧ p1.toInt ≤ 32767) ∧ u.2.2.2.2.2.2.2.2.2.2.2.2.2.2.2 = upd f p0.toNatClampNeg p1) ∨ ((p0.toInt < 0 ∨ len.toInt ≤ p0.toInt ∨ p1.toInt < -32768 ∨ 32767 < p1.toInt) ∧ u.2.2.2.2.2.2.2.2.2.2.2.2.2.2.2 = f ∧ r = -1)) ∧ shorts u.2.2.2.2.2.2.2.2.2.2.2.2.2.2.2 ∧ laidX u.1 slots u.2.2.1 u.2.2.2.2.2.2.2.2.2.2.2.2.2.2.2 u.2.2.2.1 u.2.2.2.2.1 u.2.2.2.2.2.1 u.2.2.2.2.2.2.1 u.2.2.2.2.2.2.2.1 u.2.2.2.2.2.2.2.2.1 u.2.2.2.2.2.2.2.2.2.1 u.2.1 len ∧ sixes u.2.2.2.2.2.1) (fun (u : Int32 × Int32 × Int32 × (Nat → Int32) × (Nat → Int32) × (Nat → Int32) × (Nat → Int32) × (Nat → Int32) × (Nat → Int32) × (Nat → Int32) × Int32 × Int32 × Int32 × (Nat → Int32) × (Nat → Int32) × (Nat → Int32)) (t : State) => va_P (dC, dI) vwCl [kx_4 m_ q_row q_t t_ h0 k0 w_ z_ slots u.1, kx_2 q_t q_row q_joined q_from q_to q_size q_lossOf q_lessBy q_value q_number u.2.1 u.2.2.1, kx_0 q_row q_cell len, kx_a q_cell cyI 160 u.2.2.2.2.2.2.2.2.2.2.2.2.2.2.2, kx_a q_from cyI 319 u.2.2.2.1, kx_a q_to cyI 319 u.2.2.2.2.1, kx_a q_size cyI 319 u.2.2.2.2.2.1, kx_a q_lossOf cyI 319 u.2.2.2.2.2.2.1, kx_a q_lessBy cyI 319 u.2.2.2.2.2.2.2.1, kx_a q_value cyI 1914 u.2.2.2.2.2.2.2.2.1, kx_a q_number cyI 1914 u.2.2.2.2.2.2.2.2.2.1, kx_3 q_joined j_v j_n u.2.2.2.2.2.2.2.2.2.2.1 u.2.2.2.2.2.2.2.2.2.2.2.1 u.2.2.2.2.2.2.2.2.2.2.2.2.1, kx_a j_v cyI 12 u.2.2.2.2.2.2.2.2.2.2.2.2.2.1, kx_a j_n cyI 12 u.2.2.2.2.2.2.2.2.2.2.2.2.2.2.1] t.heap ∧ va_K (dC, dI) vwCl [(cyI, .int)] t ∧ va_D A [kx_4 m_ q_row q_t t_ h0 k0 w_ z_ slots u.1, kx_2 q_t q_row q_joined q_from q_to q_size q_lossOf q_lessBy q_value q_number u.2.1 u.2.2.1, kx_0 q_row q_cell len, kx_a q_cell cyI 160 u.2.2.2.2.2.2.2.2.2.2.2.2.2.2.2, kx_a q_from cyI 319 u.2.2.2.1, kx_a q_to cyI 319 u.2.2.2.2.1, kx_a q_size cyI 319 u.2.2.2.2.2.1, kx_a q_lossOf cyI 319 u.2.2.2.2.2.2.1, kx_a q_lessBy cyI 319 u.2.2.2.2.2.2.2.1, kx_a q_value cyI 1914 u.2.2.2.2.2.2.2.2.1, kx_a q_number cyI 1914 u.2.2.2.2.2.2.2.2.2.1, kx_3 q_joined j_v j_n u.2.2.2.2.2.2.2.2.2.2.1 u.2.2.2.2.2.2.2.2.2.2.2.1 u.2.2.2.2.2.2.2.2.2.2.2.2.1, kx_a j_v cyI 12 u.2.2.2.2.2.2.2.2.2.2.2.2.2.1, kx_a j_n cyI 12 u.2.2.2.2.2.2.2.2.2.2.2.2.2.2.1]) A) := by
  refine kx_stQ (ws := wsX4_set) (cc := cX4_set) (maxL := 3) (ret := (some .int)) (by decide) rfl (Nat.le_of_ble_eq_true rfl) ?_
  intro p e s m below meth c A ls hx hb hr hlocks hts hown hml hA hS hP hK hD hl
  have hown : s.vm.findClass RX4 = some m.cls := hown
  have hl : lv_has ls 3 [(0, .ref m_), (1, .int p0), (2, .int p1)] := hl
  have hf_12 := hts (.fieldLink RX4 12 "MajorityIndex" "row" "LMajorityIndex$Row;") (List.mem_of_getElem? (i := 1) rfl)
  have hi_4 : ∀ w ∈ u_ws RX4 TX4 9, w ∈ wsX4_set := fun w h => List.mem_cons_of_mem _ (List.mem_append_left _ (List.mem_append_left _ (List.mem_append_left _ (List.mem_append_right _ h))))
  refine lv_aload_n hx hb dX4_set_0 rfl (lv_at hl 0 rfl) ?_
  refine va_get (D := (dC, dI)) (ci := 4) (v := .ref q_row) (C := RX4) (T := TX4) (N := 9) hx hb hts hi_4 hown hK hP 0 rfl rfl 0 (by decide) hf_12 (fun _ h9 => h9) rfl dX4_set_1 ?_
  refine lv_iload_n hx hb dX4_set_4 rfl (lv_at hl 1 rfl) ?_
  have hPc := hP.sub (ws' := [kx_0 q_row q_cell len]) [2] rfl
  have hKc := hK.sub (tys' := []) [] rfl
  refine vp_callSi (W.runV (As := [.int p0]) (rest := []) ⟨hx, hb, hml, hown, hts⟩ (c_X0_hasPlace l dC dI q_row q_cell len p0) (cwV 1 hts gX4_set_X0_hasPlace rfl rfl rfl (by decide +kernel) ⟨Nat.le_of_ble_eq_true rfl, Nat.le_of_ble_eq_true rfl⟩) ⟨fun a U g mk q => by obtain ⟨q0, qP, qK⟩ := q; exact ⟨q0, qP, va_K.moved (u := U) (U := U.calling g mk a) (Vm.Alike.refl U.vm) qK⟩, kx_rc0 hKc hPc (q0 := 0) rfl, fun U hU hW => ⟨rfl, by rw [hU]; exact hPc, va_K.moved hW.alike hKc⟩⟩ rfl rfl hl.1 rfl (lv_room (Nat.le_of_ble_eq_true rfl)) dX4_set_5 ⟨Nat.le_of_ble_eq_true rfl, Nat.le_of_ble_eq_true rfl⟩) (fun r_1 w_1 => ?_)
  rcases w_1 with ⟨rfl, w_1⟩ | ⟨rfl, w_1⟩
  · have w_1 : (0 ≤ p0.toInt ∧ p0.toInt < len.toInt) := w_1
    refine lv_if_eq (tgt := 18) hx hb dX4_set_8 (by decide) (fun c_2 => ?_) (fun c_2 => ?_)
    · exact absurd c_2 (by decide)
    · refine lv_iload_n hx hb dX4_set_11 rfl (lv_at hl 2 rfl) ?_
      have hPc := hP.sub (ws' := []) [] rfl
      have hKc := hK.sub (tys' := []) [] rfl
      refine vp_callSi (W.runS (As := [.int p1]) (rest := []) ⟨hx, hb, hml, hown, hts⟩ (c_X4_isValue l dC dI p1) (va_cwS 1 hts gX4_set_X4_isValue rfl rfl rfl (by decide +kernel) ⟨Nat.le_of_ble_eq_true rfl, Nat.le_of_ble_eq_true rfl⟩) ⟨fun a U g mk q => by obtain ⟨q0, qP, qK⟩ := q; exact ⟨q0, qP, va_K.moved (u := U) (U := U.calling g mk a) (Vm.Alike.refl U.vm) qK⟩, fun U hU hW => ⟨rfl, by rw [hU]; exact hPc, va_K.moved hW.alike hKc⟩⟩ rfl rfl hl.1 rfl (lv_room (Nat.le_of_ble_eq_true rfl)) dX4_set_12 ⟨Nat.le_of_ble_eq_true rfl, Nat.le_of_ble_eq_true rfl⟩) (fun r_3 w_3 => ?_)
      rcases w_3 with ⟨rfl, w_3⟩ | ⟨rfl, w_3⟩
      · have w_3 : (-32768 ≤ p1.toInt ∧ p1.toInt ≤ 32767) := w_3
        refine lv_if_ne (tgt := 20) hx hb dX4_set_15 (by decide) (fun c_4 => ?_) (fun c_4 => ?_)
        · refine lv_aload_n hx hb dX4_set_20 rfl (lv_at hl 0 rfl) ?_
          refine lv_aload_n hx hb dX4_set_21 rfl (lv_at hl 0 rfl) ?_
          have hPc := hP
          have hKc := hK
          have hDc := hD
          have hFc := kx_free hD hS hA
          refine va_callr (va_runV (As := []) (rest := [.ref m_]) ⟨hx, hb, hml, hown, hts⟩ (kx_un (c_X4_laidTree_x l dC dI m_ q_row q_t t_ h0 k0 w_ z_ slots old q_joined q_from q_to q_size q_lossOf q_lessBy q_value q_number nodes here q_cell cyI len f ff ft fs fo uv un fe j_v j_n js jl je jv jn s.heap.size a0 a1 s0 sl0 sl1 l0)) (cwV 0 hts gX4_set_X4_laidTree rfl rfl rfl (by decide +kernel) ⟨Nat.le_of_ble_eq_true rfl, Nat.le_of_ble_eq_true rfl⟩) ⟨fun a U g mk q => by obtain ⟨q0, q1, qP, qK, qD⟩ := q; exact ⟨q0, q1, qP, va_K.moved (u := U) (U := U.calling g mk a) (Vm.Alike.refl U.vm) qK, qD⟩, kx_rc4 hKc hPc (q0 := 0) rfl, fun U hU hW => ⟨rfl, by rw [hU], by rw [hU]; exact hPc, va_K.moved hW.alike hKc, hDc.weaken (fun _ _ _ _ => trivial)⟩⟩ rfl rfl hl.1 rfl (lv_room (Nat.le_of_ble_eq_true rfl)) dX4_set_22 ⟨Nat.le_of_ble_eq_true rfl, Nat.le_of_ble_eq_true rfl⟩) hS (fun q _ h => hFc q h) hFc (fun u ra t H1 locs ht hvm w_5 hB hz1 hk1 hS => ?_)
          obtain ⟨o_6, o_7, o_8, o_9, o_10, o_11, o_12, o_13, o_14, o_15, o_16, o_17, o_18, o_19, o_20⟩ := u
          dsimp only at w_5 hB
          obtain ⟨er, hP1, hK1, hD1⟩ := hB
          rw [ht] at hP1
          have hK1 := va_K.moved hvm.symm hK1
          have hD := hD1.weaken (fun _ q _ h => hFc q.1 h)
          have hP := hP1
          clear hP1 hD1 hK1 hk1 hz1 hFc hDc hPc hKc
          generalize H1 = H at hP hS ⊢
          have w_5 : o_6.toInt = 0 ∧ o_8 = slots ∧ sixes o_11 ∧ mj_C slots.toNatClampNeg f o_9 o_10 o_11 o_12 o_13 o_14 o_15 o_7.toInt len.toInt ∧ 0 ≤ o_7.toInt ∧ o_7.toInt ≤ 319 ∧ treeOk o_9 o_10 o_7.toInt len.toInt := w_5
          rw [er]
          refine lv_iload_n hx hb dX4_set_25 rfl (lv_at hl 1 rfl) ?_
          refine lv_iload_n hx hb dX4_set_26 rfl (lv_at hl 1 rfl) ?_
          refine lv_iconst (v := 1) hx hb dX4_set_27 (by decide) ?_
          refine lv_iadd hx hb dX4_set_28 ?_
          refine lv_topi (fun y_21 ey_21 => ?_)
          have i_21 : y_21.toInt = p0.toInt + 1 := ki_add ey_21 rfl rfl (om_13 w_1.1) (om_3 a1 w_1.2)
          refine lv_iload_n hx hb dX4_set_29 rfl (lv_at hl 2 rfl) ?_
          have hPc := hP
          have hKc := hK
          have hDc := hD
          have hFc := kx_free hD hS hA
          refine va_calli (va_runV (As := [.ref q_t, .int p0, .int y_21, .int p1]) (rest := []) ⟨hx, hb, hml, hown, hts⟩ (kx_un (c_X4_overwrite_xx l dC dI m_ q_row q_t t_ h0 k0 w_ z_ slots o_6 q_joined q_from q_to q_size q_lossOf q_lessBy q_value q_number o_7 o_8 q_cell cyI len f o_9 o_10 o_11 o_12 o_14 o_15 o_13 j_v j_n o_16 o_17 o_18 o_19 o_20 p0 y_21 p1 H.size w_5.2.2.2.2.1 w_5.2.2.2.2.2.1 a1 w_5.2.2.1 w_5.2.2.2.2.2.2 (om_10 w_1.1) (om_188 a1 w_1.2 i_21) (om_301 i_21) (by rw [w_5.2.1]; omega) (by rw [w_5.2.1]; omega) (by rw [w_5.2.1]; exact w_5.2.2.2.1))) (cwV 4 hts gX4_set_X4_overwrite rfl rfl rfl (by decide +kernel) ⟨Nat.le_of_ble_eq_true rfl, Nat.le_of_ble_eq_true rfl⟩) ⟨fun a U g mk q => by obtain ⟨q0, q1, qP, qK, qD⟩ := q; exact ⟨q0, q1, qP, va_K.moved (u := U) (U := U.calling g mk a) (Vm.Alike.refl U.vm) qK, qD⟩, kx_rc4 hKc hPc (q0 := 0) rfl, fun U hU hW => ⟨rfl, by rw [hU], by rw [hU]; exact hPc, va_K.moved hW.alike hKc, hDc.weaken (fun _ _ _ _ => trivial)⟩⟩ rfl rfl hl.1 rfl (lv_room (Nat.le_of_ble_eq_true rfl)) dX4_set_30 ⟨Nat.le_of_ble_eq_true rfl, Nat.le_of_ble_eq_true rfl⟩) hS (fun q _ h => hFc q h) hFc (fun r_22 u t H1 locs ht hvm w_22 hB hz1 hk1 hS => ?_)
          obtain ⟨o_23, o_24, o_25, o_26, o_27, o_28, o_29, o_30, o_31, o_32, o_33⟩ := u
          dsimp only at w_22 hB
          obtain ⟨hP1, hK1, hD1⟩ := hB
          rw [ht] at hP1
          have hK1 := va_K.moved hvm.symm hK1
          have hD := hD1.weaken (fun _ q _ h => hFc q.1 h)
          have hP := hP1
          clear hP1 hD1 hK1 hk1 hz1 hFc hDc hPc hKc
          generalize H1 = H at hP hS ⊢
          have w_22 : o_23 = mj_fill f p0.toNatClampNeg y_21.toNatClampNeg p1 ∧ sixes o_24 ∧ mj_C o_8.toNatClampNeg o_23 o_9 o_10 o_24 o_25 o_26 o_27 o_28 o_7.toInt len.toInt := w_22
          have hP9 := hP
          have hD9 := hD
          have hK9 := hK
          have n_34 := ki_nat y_21 rfl (om_34 w_1.1 i_21)
          have n_p0 := ki_nat p0 rfl (om_10 w_1.1)
          have e_f : o_23 = upd f p0.toNatClampNeg p1 := w_22.1.trans (mj_fill_one f p1 (by omega))
          exact W.iret (v := r_22) hx hb hr (hlocks := hlocks) (fun t ht hW => ⟨⟨r_22, (o_6, o_7, o_8, o_9, o_10, o_24, o_25, o_26, o_27, o_28, o_29, o_30, o_31, o_32, o_33, o_23), rfl, ⟨Or.inl ⟨by omega, e_f⟩, (by (try dsimp only); rw [e_f]; exact shorts_upd s1 (by omega) (by omega)), (fun _ => ⟨w_5.2.1, (by have h9 := w_22.2.2; rw [w_5.2.1] at h9; exact h9)⟩), w_22.2.1⟩, by rw [ht]; exact hP9, va_K.moved hW.alike hK9, hD9⟩, hS.F ht⟩) hS.2.2 dX4_set_33
        · exact absurd c_4 (by decide)
      · have w_3 : (p1.toInt < -32768 ∨ 32767 < p1.toInt) := w_3
        refine lv_if_ne (tgt := 20) hx hb dX4_set_15 (by decide) (fun c_35 => ?_) (fun c_35 => ?_)
        · exact absurd c_35 (by decide)
        · refine lv_iconst (v := (-1)) hx hb dX4_set_18 (by decide) ?_
          have hP9 := hP
          have hD9 := hD
          have hK9 := hK
          exact W.iret (v := (-1)) hx hb hr (hlocks := hlocks) (fun t ht hW => ⟨⟨(-1), (old, nodes, here, ff, ft, fs, fo, fe, uv, un, js, jl, je, jv, jn, f), rfl, ⟨Or.inr ⟨by omega, rfl, rfl⟩, s1, l0, s0⟩, by rw [ht]; exact hP9, va_K.moved hW.alike hK9, hD9⟩, hS.F ht⟩) hS.2.2 dX4_set_19
  · have w_1 : (p0.toInt < 0 ∨ len.toInt ≤ p0.toInt) := w_1
    refine lv_if_eq (tgt := 18) hx hb dX4_set_8 (by decide) (fun c_36 => ?_) (fun c_36 => ?_)
    · refine lv_iconst (v := (-1)) hx hb dX4_set_18 (by decide) ?_
      have hP9 := hP
      have hD9 := hD
      have hK9 := hK
      exact W.iret (v := (-1)) hx hb hr (hlocks := hlocks) (fun t ht hW => ⟨⟨(-1), (old, nodes, here, ff, ft, fs, fo, fe, uv, un, js, jl, je, jv, jn, f), rfl, ⟨Or.inr ⟨by omega, rfl, rfl⟩, s1, l0, s0⟩, by rw [ht]; exact hP9, va_K.moved hW.alike hK9, hD9⟩, hS.F ht⟩) hS.2.2 dX4_set_19
    · exact absurd c_36 (by decide)

set_option maxHeartbeats 4000000 in
set_option maxRecDepth 100000 in
theorem c_X4_fill_X (l : Launch) (dC : Nat → ClassId) (dI : Nat → Nat → Nat) (m_ : Nat) (q_row : Nat) (q_t : Nat) (t_ : Nat) (h0 : Nat) (k0 : Nat) (w_ : Nat) (z_ : Nat) (slots : Int32) (old : Int32) (q_joined : Nat) (q_from : Nat) (q_to : Nat) (q_size : Nat) (q_lossOf : Nat) (q_lessBy : Nat) (q_value : Nat) (q_number : Nat) (nodes : Int32) (here : Int32) (q_cell : Nat) (cyI : ClassId) (len : Int32) (f : Nat → Int32) (ff : Nat → Int32) (ft : Nat → Int32) (fs : Nat → Int32) (fo : Nat → Int32) (uv : Nat → Int32) (un : Nat → Int32) (fe : Nat → Int32) (j_v : Nat) (j_n : Nat) (js : Int32) (jl : Int32) (je : Int32) (jv : Nat → Int32) (jn : Nat → Int32) (p0 : Int32) (p1 : Int32) (p2 : Int32) (sz : Nat) (a0 : 0 ≤ len.toInt) (a1 : len.toInt ≤ 160) (s0 : sixes fs) (sl0 : 1 ≤ slots.toInt) (sl1 : slots.toInt ≤ 6) (l0 : laidX old slots here f ff ft fs fo fe uv un nodes len) (s1 : shorts f) : kx_MQ l (dC, dI) yX4_fill wsX4_fill ({ frames := 6, cells := 0, slots := 0, locals := 270 }) [.ref m_, .int p0, .int p1, .int p2] [kx_4 m_ q_row q_t t_ h0 k0 w_ z_ slots old, kx_2 q_t q_row q_joined q_from q_to q_size q_lossOf q_lessBy q_value q_number nodes here, kx_0 q_row q_cell len, kx_a q_cell cyI 160 f, kx_a q_from cyI 319 ff, kx_a q_to cyI 319 ft, kx_a q_size cyI 319 fs, kx_a q_lossOf cyI 319 fo, kx_a q_lessBy cyI 319 fe, kx_a q_value cyI 1914 uv, kx_a q_number cyI 1914 un, kx_3 q_joined j_v j_n js jl je, kx_a j_v cyI 12 jv, kx_a j_n cyI 12 jn] [(cyI, .int)] sz (fun A => va_Qi (fun (r : Int32) (u : Int32 × Int32 × Int32 × (Nat → Int32) × (Nat → Int32) × (Nat → Int32) × (Nat → Int32) × (Nat → Int32) × (Nat → Int32) × (Nat → Int32) × Int32 × Int32 × Int32 × (Nat → Int32) × (Nat → Int32) × (Nat → Int32)) => (((0 ≤ p0.toInt ∧ p0.toInt < p1.toInt ∧ p1.toInt ≤ len.toInt ∧ -32768 ≤ p2.toInt ∧ p2.toInt ≤ 32767) ∧ u.2.2.2.2.2.2.2.2.2.2.2.2.2.2.2 = mj_fill f p0.toNatClampNeg p1.toNatClampNeg p2) ∨ ((p0.toInt < 0 ∨ p1.toInt ≤ p0.toInt ∨ len.toInt < p1.toInt ∨ p2.toInt < -32768 ∨ 32767 < p2.toInt) ∧ u.2.2.2.2.2.2.2.2.2.2.2.2.2.2.2 = f ∧ r = -1)) ∧ shorts u.2.2.2.2.2.2.2.2.2.2.2.2.2.2.2 ∧ laidX u.1 slots u.2.2.1 u.2.2.2.2.2.2.2.2.2.2.2.2.2.2.2 u.2.2.2.1 u.2.2.2.2.1 u.2.2.2.2.2.1 u.2.2.2.2.2.2.1 u.2.2.2.2.2.2.2.1 u.2.2.2.2.2.2.2.2.1 u.2.2.2.2.2.2.2.2.2.1 u.2.1 len ∧ sixes u.2.2.2.2.2.1) (fun (u : Int32 × Int32 × Int32 × (Nat → Int32) × (Nat → Int32) × (Nat → Int32) × (Nat → Int32) × (Nat → Int32) × (Nat → Int32) × (Nat → Int32) × Int32 × Int32 × Int32 × (Nat → Int32) × (Nat → Int32) × (Nat → Int32)) (t : State) => va_P (dC, dI) vwCl [kx_4 m_ q_row q_t t_ h0 k0 w_ z_ slots u.1, kx_2 q_t q_row q_joined q_from q_to q_size q_lossOf q_lessBy q_value q_number u.2.1 u.2.2.1, kx_0 q_row q_cell len, kx_a q_cell cyI 160 u.2.2.2.2.2.2.2.2.2.2.2.2.2.2.2, kx_a q_from cyI 319 u.2.2.2.1, kx_a q_to cyI 319 u.2.2.2.2.1, kx_a q_size cyI 319 u.2.2.2.2.2.1, kx_a q_lossOf cyI 319 u.2.2.2.2.2.2.1, kx_a q_lessBy cyI 319 u.2.2.2.2.2.2.2.1, kx_a q_value cyI 1914 u.2.2.2.2.2.2.2.2.1, kx_a q_number cyI 1914 u.2.2.2.2.2.2.2.2.2.1, kx_3 q_joined j_v j_n u.2.2.2.2.2.2.2.2.2.2.1 u.2.2.2.2.2.2.2.2.2.2.2.1 u.2.2.2.2.2.2.2.2.2.2.2.2.1, kx_a j_v cyI 12 u.2.2.2.2.2.2.2.2.2.2.2.2.2.1, kx_a j_n cyI 12 u.2.2.2.2.2.2.2.2.2.2.2.2.2.2.1] t.heap ∧ va_K (dC, dI) vwCl [(cyI, .int)] t ∧ va_D A [kx_4 m_ q_row q_t t_ h0 k0 w_ z_ slots u.1, kx_2 q_t q_row q_joined q_from q_to q_size q_lossOf q_lessBy q_value q_number u.2.1 u.2.2.1, kx_0 q_row q_cell len, kx_a q_cell cyI 160 u.2.2.2.2.2.2.2.2.2.2.2.2.2.2.2, kx_a q_from cyI 319 u.2.2.2.1, kx_a q_to cyI 319 u.2.2.2.2.1, kx_a q_size cyI 319 u.2.2.2.2.2.1, kx_a q_lossOf cyI 319 u.2.2.2.2.2.2.1, kx_a q_lessBy cyI 319 u.2.2.2.2.2.2.2.1, kx_a q_value cyI 1914 u.2.2.2.2.2.2.2.2.1, kx_a q_number cyI 1914 u.2.2.2.2.2.2.2.2.2.1, kx_3 q_joined j_v j_n u.2.2.2.2.2.2.2.2.2.2.1 u.2.2.2.2.2.2.2.2.2.2.2.1 u.2.2.2.2.2.2.2.2.2.2.2.2.1, kx_a j_v cyI 12 u.2.2.2.2.2.2.2.2.2.2.2.2.2.1, kx_a j_n cyI 12 u.2.2.2.2.2.2.2.2.2.2.2.2.2.2.1]) A) := by
  refine kx_stQ (ws := wsX4_fill) (cc := cX4_fill) (maxL := 4) (ret := (some .int)) (by decide) rfl (Nat.le_of_ble_eq_true rfl) ?_
  intro p e s m below meth c A ls hx hb hr hlocks hts hown hml hA hS hP hK hD hl
  have hown : s.vm.findClass RX4 = some m.cls := hown
  have hl : lv_has ls 4 [(0, .ref m_), (1, .int p0), (2, .int p1), (3, .int p2)] := hl
  have hf_12 := hts (.fieldLink RX4 12 "MajorityIndex" "row" "LMajorityIndex$Row;") (List.mem_of_getElem? (i := 1) rfl)
  have hi_4 : ∀ w ∈ u_ws RX4 TX4 9, w ∈ wsX4_fill := fun w h => List.mem_cons_of_mem _ (List.mem_append_left _ (List.mem_append_left _ (List.mem_append_left _ (List.mem_append_right _ h))))
  refine lv_aload_n hx hb dX4_fill_0 rfl (lv_at hl 0 rfl) ?_
  refine va_get (D := (dC, dI)) (ci := 4) (v := .ref q_row) (C := RX4) (T := TX4) (N := 9) hx hb hts hi_4 hown hK hP 0 rfl rfl 0 (by decide) hf_12 (fun _ h9 => h9) rfl dX4_fill_1 ?_
  refine lv_iload_n hx hb dX4_fill_4 rfl (lv_at hl 1 rfl) ?_
  refine lv_iload_n hx hb dX4_fill_5 rfl (lv_at hl 2 rfl) ?_
  have hPc := hP.sub (ws' := [kx_0 q_row q_cell len]) [2] rfl
  have hKc := hK.sub (tys' := []) [] rfl
  refine vp_callSi (W.runV (As := [.int p0, .int p1]) (rest := []) ⟨hx, hb, hml, hown, hts⟩ (c_X0_hasRange l dC dI q_row q_cell len p0 p1) (cwV 2 hts gX4_fill_X0_hasRange rfl rfl rfl (by decide +kernel) ⟨Nat.le_of_ble_eq_true rfl, Nat.le_of_ble_eq_true rfl⟩) ⟨fun a U g mk q => by obtain ⟨q0, qP, qK⟩ := q; exact ⟨q0, qP, va_K.moved (u := U) (U := U.calling g mk a) (Vm.Alike.refl U.vm) qK⟩, kx_rc0 hKc hPc (q0 := 0) rfl, fun U hU hW => ⟨rfl, by rw [hU]; exact hPc, va_K.moved hW.alike hKc⟩⟩ rfl rfl hl.1 rfl (lv_room (Nat.le_of_ble_eq_true rfl)) dX4_fill_6 ⟨Nat.le_of_ble_eq_true rfl, Nat.le_of_ble_eq_true rfl⟩) (fun r_1 w_1 => ?_)
  rcases w_1 with ⟨rfl, w_1⟩ | ⟨rfl, w_1⟩
  · have w_1 : (0 ≤ p0.toInt ∧ p0.toInt < p1.toInt ∧ p1.toInt ≤ len.toInt) := w_1
    refine lv_if_eq (tgt := 19) hx hb dX4_fill_9 (by decide) (fun c_2 => ?_) (fun c_2 => ?_)
    · exact absurd c_2 (by decide)
    · refine lv_iload_n hx hb dX4_fill_12 rfl (lv_at hl 3 rfl) ?_
      have hPc := hP.sub (ws' := []) [] rfl
      have hKc := hK.sub (tys' := []) [] rfl
      refine vp_callSi (W.runS (As := [.int p2]) (rest := []) ⟨hx, hb, hml, hown, hts⟩ (c_X4_isValue l dC dI p2) (va_cwS 1 hts gX4_fill_X4_isValue rfl rfl rfl (by decide +kernel) ⟨Nat.le_of_ble_eq_true rfl, Nat.le_of_ble_eq_true rfl⟩) ⟨fun a U g mk q => by obtain ⟨q0, qP, qK⟩ := q; exact ⟨q0, qP, va_K.moved (u := U) (U := U.calling g mk a) (Vm.Alike.refl U.vm) qK⟩, fun U hU hW => ⟨rfl, by rw [hU]; exact hPc, va_K.moved hW.alike hKc⟩⟩ rfl rfl hl.1 rfl (lv_room (Nat.le_of_ble_eq_true rfl)) dX4_fill_13 ⟨Nat.le_of_ble_eq_true rfl, Nat.le_of_ble_eq_true rfl⟩) (fun r_3 w_3 => ?_)
      rcases w_3 with ⟨rfl, w_3⟩ | ⟨rfl, w_3⟩
      · have w_3 : (-32768 ≤ p2.toInt ∧ p2.toInt ≤ 32767) := w_3
        refine lv_if_ne (tgt := 21) hx hb dX4_fill_16 (by decide) (fun c_4 => ?_) (fun c_4 => ?_)
        · refine lv_aload_n hx hb dX4_fill_21 rfl (lv_at hl 0 rfl) ?_
          refine lv_aload_n hx hb dX4_fill_22 rfl (lv_at hl 0 rfl) ?_
          have hPc := hP
          have hKc := hK
          have hDc := hD
          have hFc := kx_free hD hS hA
          refine va_callr (va_runV (As := []) (rest := [.ref m_]) ⟨hx, hb, hml, hown, hts⟩ (kx_un (c_X4_laidTree_x l dC dI m_ q_row q_t t_ h0 k0 w_ z_ slots old q_joined q_from q_to q_size q_lossOf q_lessBy q_value q_number nodes here q_cell cyI len f ff ft fs fo uv un fe j_v j_n js jl je jv jn s.heap.size a0 a1 s0 sl0 sl1 l0)) (cwV 0 hts gX4_fill_X4_laidTree rfl rfl rfl (by decide +kernel) ⟨Nat.le_of_ble_eq_true rfl, Nat.le_of_ble_eq_true rfl⟩) ⟨fun a U g mk q => by obtain ⟨q0, q1, qP, qK, qD⟩ := q; exact ⟨q0, q1, qP, va_K.moved (u := U) (U := U.calling g mk a) (Vm.Alike.refl U.vm) qK, qD⟩, kx_rc4 hKc hPc (q0 := 0) rfl, fun U hU hW => ⟨rfl, by rw [hU], by rw [hU]; exact hPc, va_K.moved hW.alike hKc, hDc.weaken (fun _ _ _ _ => trivial)⟩⟩ rfl rfl hl.1 rfl (lv_room (Nat.le_of_ble_eq_true rfl)) dX4_fill_23 ⟨Nat.le_of_ble_eq_true rfl, Nat.le_of_ble_eq_true rfl⟩) hS (fun q _ h => hFc q h) hFc (fun u ra t H1 locs ht hvm w_5 hB hz1 hk1 hS => ?_)
          obtain ⟨o_6, o_7, o_8, o_9, o_10, o_11, o_12, o_13, o_14, o_15, o_16, o_17, o_18, o_19, o_20⟩ := u
          dsimp only at w_5 hB
          obtain ⟨er, hP1, hK1, hD1⟩ := hB
          rw [ht] at hP1
          have hK1 := va_K.moved hvm.symm hK1
          have hD := hD1.weaken (fun _ q _ h => hFc q.1 h)
          have hP := hP1
          clear hP1 hD1 hK1 hk1 hz1 hFc hDc hPc hKc
          generalize H1 = H at hP hS ⊢
          have w_5 : o_6.toInt = 0 ∧ o_8 = slots ∧ sixes o_11 ∧ mj_C slots.toNatClampNeg f o_9 o_10 o_11 o_12 o_13 o_14 o_15 o_7.toInt len.toInt ∧ 0 ≤ o_7.toInt ∧ o_7.toInt ≤ 319 ∧ treeOk o_9 o_10 o_7.toInt len.toInt := w_5
          rw [er]
          refine lv_iload_n hx hb dX4_fill_26 rfl (lv_at hl 1 rfl) ?_
          refine lv_iload_n hx hb dX4_fill_27 rfl (lv_at hl 2 rfl) ?_
          refine lv_iload_n hx hb dX4_fill_28 rfl (lv_at hl 3 rfl) ?_
          have hPc := hP
          have hKc := hK
          have hDc := hD
          have hFc := kx_free hD hS hA
          refine va_calli (va_runV (As := [.ref q_t, .int p0, .int p1, .int p2]) (rest := []) ⟨hx, hb, hml, hown, hts⟩ (kx_un (c_X4_overwrite_xx l dC dI m_ q_row q_t t_ h0 k0 w_ z_ slots o_6 q_joined q_from q_to q_size q_lossOf q_lessBy q_value q_number o_7 o_8 q_cell cyI len f o_9 o_10 o_11 o_12 o_14 o_15 o_13 j_v j_n o_16 o_17 o_18 o_19 o_20 p0 p1 p2 H.size w_5.2.2.2.2.1 w_5.2.2.2.2.2.1 a1 w_5.2.2.1 w_5.2.2.2.2.2.2 (om_10 w_1.1) (om_167 a1 w_1.2.2) (om_11 w_1.2.1) (by rw [w_5.2.1]; omega) (by rw [w_5.2.1]; omega) (by rw [w_5.2.1]; exact w_5.2.2.2.1))) (cwV 4 hts gX4_fill_X4_overwrite rfl rfl rfl (by decide +kernel) ⟨Nat.le_of_ble_eq_true rfl, Nat.le_of_ble_eq_true rfl⟩) ⟨fun a U g mk q => by obtain ⟨q0, q1, qP, qK, qD⟩ := q; exact ⟨q0, q1, qP, va_K.moved (u := U) (U := U.calling g mk a) (Vm.Alike.refl U.vm) qK, qD⟩, kx_rc4 hKc hPc (q0 := 0) rfl, fun U hU hW => ⟨rfl, by rw [hU], by rw [hU]; exact hPc, va_K.moved hW.alike hKc, hDc.weaken (fun _ _ _ _ => trivial)⟩⟩ rfl rfl hl.1 rfl (lv_room (Nat.le_of_ble_eq_true rfl)) dX4_fill_29 ⟨Nat.le_of_ble_eq_true rfl, Nat.le_of_ble_eq_true rfl⟩) hS (fun q _ h => hFc q h) hFc (fun r_21 u t H1 locs ht hvm w_21 hB hz1 hk1 hS => ?_)
          obtain ⟨o_22, o_23, o_24, o_25, o_26, o_27, o_28, o_29, o_30, o_31, o_32⟩ := u
          dsimp only at w_21 hB
          obtain ⟨hP1, hK1, hD1⟩ := hB
          rw [ht] at hP1
          have hK1 := va_K.moved hvm.symm hK1
          have hD := hD1.weaken (fun _ q _ h => hFc q.1 h)
          have hP := hP1
          clear hP1 hD1 hK1 hk1 hz1 hFc hDc hPc hKc
          generalize H1 = H at hP hS ⊢
          have w_21 : o_22 = mj_fill f p0.toNatClampNeg p1.toNatClampNeg p2 ∧ sixes o_23 ∧ mj_C o_8.toNatClampNeg o_22 o_9 o_10 o_23 o_24 o_25 o_26 o_27 o_7.toInt len.toInt := w_21
          have hP9 := hP
          have hD9 := hD
          have hK9 := hK
          have e_f : o_22 = mj_fill f p0.toNatClampNeg p1.toNatClampNeg p2 := w_21.1
          exact W.iret (v := r_21) hx hb hr (hlocks := hlocks) (fun t ht hW => ⟨⟨r_21, (o_6, o_7, o_8, o_9, o_10, o_23, o_24, o_25, o_26, o_27, o_28, o_29, o_30, o_31, o_32, o_22), rfl, ⟨Or.inl ⟨by omega, e_f⟩, (by (try dsimp only); rw [e_f]; exact shorts_fill s1 (by omega) (by omega)), (fun _ => ⟨w_5.2.1, (by have h9 := w_21.2.2; rw [w_5.2.1] at h9; exact h9)⟩), w_21.2.1⟩, by rw [ht]; exact hP9, va_K.moved hW.alike hK9, hD9⟩, hS.F ht⟩) hS.2.2 dX4_fill_32
        · exact absurd c_4 (by decide)
      · have w_3 : (p2.toInt < -32768 ∨ 32767 < p2.toInt) := w_3
        refine lv_if_ne (tgt := 21) hx hb dX4_fill_16 (by decide) (fun c_33 => ?_) (fun c_33 => ?_)
        · exact absurd c_33 (by decide)
        · refine lv_iconst (v := (-1)) hx hb dX4_fill_19 (by decide) ?_
          have hP9 := hP
          have hD9 := hD
          have hK9 := hK
          exact W.iret (v := (-1)) hx hb hr (hlocks := hlocks) (fun t ht hW => ⟨⟨(-1), (old, nodes, here, ff, ft, fs, fo, fe, uv, un, js, jl, je, jv, jn, f), rfl, ⟨Or.inr ⟨by omega, rfl, rfl⟩, s1, l0, s0⟩, by rw [ht]; exact hP9, va_K.moved hW.alike hK9, hD9⟩, hS.F ht⟩) hS.2.2 dX4_fill_20
  · have w_1 : (p0.toInt < 0 ∨ p1.toInt ≤ p0.toInt ∨ len.toInt < p1.toInt) := w_1
    refine lv_if_eq (tgt := 19) hx hb dX4_fill_9 (by decide) (fun c_34 => ?_) (fun c_34 => ?_)
    · refine lv_iconst (v := (-1)) hx hb dX4_fill_19 (by decide) ?_
      have hP9 := hP
      have hD9 := hD
      have hK9 := hK
      exact W.iret (v := (-1)) hx hb hr (hlocks := hlocks) (fun t ht hW => ⟨⟨(-1), (old, nodes, here, ff, ft, fs, fo, fe, uv, un, js, jl, je, jv, jn, f), rfl, ⟨Or.inr ⟨by omega, rfl, rfl⟩, s1, l0, s0⟩, by rw [ht]; exact hP9, va_K.moved hW.alike hK9, hD9⟩, hS.F ht⟩) hS.2.2 dX4_fill_20
    · exact absurd c_34 (by decide)

set_option maxHeartbeats 4000000 in
set_option maxRecDepth 100000 in
theorem c_X4_turn_X (l : Launch) (dC : Nat → ClassId) (dI : Nat → Nat → Nat) (m_ : Nat) (q_row : Nat) (q_t : Nat) (t_ : Nat) (h0 : Nat) (k0 : Nat) (w_ : Nat) (z_ : Nat) (slots : Int32) (old : Int32) (q_joined : Nat) (q_from : Nat) (q_to : Nat) (q_size : Nat) (q_lossOf : Nat) (q_lessBy : Nat) (q_value : Nat) (q_number : Nat) (nodes : Int32) (here : Int32) (q_cell : Nat) (cyI : ClassId) (len : Int32) (f : Nat → Int32) (ff : Nat → Int32) (ft : Nat → Int32) (fs : Nat → Int32) (fo : Nat → Int32) (uv : Nat → Int32) (un : Nat → Int32) (fe : Nat → Int32) (j_v : Nat) (j_n : Nat) (js : Int32) (jl : Int32) (je : Int32) (jv : Nat → Int32) (jn : Nat → Int32) (p0 : Int32) (p1 : Int32) (sz : Nat) (a0 : 0 ≤ len.toInt) (a1 : len.toInt ≤ 160) (s0 : sixes fs) (sl0 : 1 ≤ slots.toInt) (sl1 : slots.toInt ≤ 6) (l0 : laidX old slots here f ff ft fs fo fe uv un nodes len) (s1 : shorts f) : kx_MQ l (dC, dI) yX4_turn wsX4_turn ({ frames := 6, cells := 0, slots := 0, locals := 270 }) [.ref m_, .int p0, .int p1] [kx_4 m_ q_row q_t t_ h0 k0 w_ z_ slots old, kx_2 q_t q_row q_joined q_from q_to q_size q_lossOf q_lessBy q_value q_number nodes here, kx_0 q_row q_cell len, kx_a q_cell cyI 160 f, kx_a q_from cyI 319 ff, kx_a q_to cyI 319 ft, kx_a q_size cyI 319 fs, kx_a q_lossOf cyI 319 fo, kx_a q_lessBy cyI 319 fe, kx_a q_value cyI 1914 uv, kx_a q_number cyI 1914 un, kx_3 q_joined j_v j_n js jl je, kx_a j_v cyI 12 jv, kx_a j_n cyI 12 jn] [(cyI, .int)] sz (fun A => va_Qi (fun (r : Int32) (u : Int32 × Int32 × Int32 × (Nat → Int32) × (Nat → Int32) × (Nat → Int32) × (Nat → Int32) × (Nat → Int32) × (Nat → Int32) × (Nat → Int32) × Int32 × Int32 × Int32 × (Nat → Int32) × (Nat → Int32) × (Nat → Int32)) => (((0 ≤ p0.toInt ∧ p0.toInt < p1.toInt ∧ p1.toInt ≤ len.toInt) ∧ u.2.2.2.2.2.2.2.2.2.2.2.2.2.2.2 = mj_turn f p0.toNatClampNeg p1.toNatClampNeg) ∨ ((p0.toInt < 0 ∨ p1.toInt ≤ p0.toInt ∨ len.toInt < p1.toInt) ∧ u.2.2.2.2.2.2.2.2.2.2.2.2.2.2.2 = f ∧ r = -1)) ∧ shorts u.2.2.2.2.2.2.2.2.2.2.2.2.2.2.2 ∧ laidX u.1 slots u.2.2.1 u.2.2.2.2.2.2.2.2.2.2.2.2.2.2.2 u.2.2.2.1 u.2.2.2.2.1 u.2.2.2.2.2.1 u.2.2.2.2.2.2.1 u.2.2.2.2.2.2.2.1 u.2.2.2.2.2.2.2.2.1 u.2.2.2.2.2.2.2.2.2.1 u.2.1 len ∧ sixes u.2.2.2.2.2.1) (fun (u : Int32 × Int32 × Int32 × (Nat → Int32) × (Nat → Int32) × (Nat → Int32) × (Nat → Int32) × (Nat → Int32) × (Nat → Int32) × (Nat → Int32) × Int32 × Int32 × Int32 × (Nat → Int32) × (Nat → Int32) × (Nat → Int32)) (t : State) => va_P (dC, dI) vwCl [kx_4 m_ q_row q_t t_ h0 k0 w_ z_ slots u.1, kx_2 q_t q_row q_joined q_from q_to q_size q_lossOf q_lessBy q_value q_number u.2.1 u.2.2.1, kx_0 q_row q_cell len, kx_a q_cell cyI 160 u.2.2.2.2.2.2.2.2.2.2.2.2.2.2.2, kx_a q_from cyI 319 u.2.2.2.1, kx_a q_to cyI 319 u.2.2.2.2.1, kx_a q_size cyI 319 u.2.2.2.2.2.1, kx_a q_lossOf cyI 319 u.2.2.2.2.2.2.1, kx_a q_lessBy cyI 319 u.2.2.2.2.2.2.2.1, kx_a q_value cyI 1914 u.2.2.2.2.2.2.2.2.1, kx_a q_number cyI 1914 u.2.2.2.2.2.2.2.2.2.1, kx_3 q_joined j_v j_n u.2.2.2.2.2.2.2.2.2.2.1 u.2.2.2.2.2.2.2.2.2.2.2.1 u.2.2.2.2.2.2.2.2.2.2.2.2.1, kx_a j_v cyI 12 u.2.2.2.2.2.2.2.2.2.2.2.2.2.1, kx_a j_n cyI 12 u.2.2.2.2.2.2.2.2.2.2.2.2.2.2.1] t.heap ∧ va_K (dC, dI) vwCl [(cyI, .int)] t ∧ va_D A [kx_4 m_ q_row q_t t_ h0 k0 w_ z_ slots u.1, kx_2 q_t q_row q_joined q_from q_to q_size q_lossOf q_lessBy q_value q_number u.2.1 u.2.2.1, kx_0 q_row q_cell len, kx_a q_cell cyI 160 u.2.2.2.2.2.2.2.2.2.2.2.2.2.2.2, kx_a q_from cyI 319 u.2.2.2.1, kx_a q_to cyI 319 u.2.2.2.2.1, kx_a q_size cyI 319 u.2.2.2.2.2.1, kx_a q_lossOf cyI 319 u.2.2.2.2.2.2.1, kx_a q_lessBy cyI 319 u.2.2.2.2.2.2.2.1, kx_a q_value cyI 1914 u.2.2.2.2.2.2.2.2.1, kx_a q_number cyI 1914 u.2.2.2.2.2.2.2.2.2.1, kx_3 q_joined j_v j_n u.2.2.2.2.2.2.2.2.2.2.1 u.2.2.2.2.2.2.2.2.2.2.2.1 u.2.2.2.2.2.2.2.2.2.2.2.2.1, kx_a j_v cyI 12 u.2.2.2.2.2.2.2.2.2.2.2.2.2.1, kx_a j_n cyI 12 u.2.2.2.2.2.2.2.2.2.2.2.2.2.2.1]) A) := by
  refine kx_stQ (ws := wsX4_turn) (cc := cX4_turn) (maxL := 6) (ret := (some .int)) (by decide) rfl (Nat.le_of_ble_eq_true rfl) ?_
  intro p e s m below meth c A ls hx hb hr hlocks hts hown hml hA hS hP hK hD hl
  have hown : s.vm.findClass RX4 = some m.cls := hown
  have hl : lv_has ls 6 [(0, .ref m_), (1, .int p0), (2, .int p1)] := hl
  have hf_12 := hts (.fieldLink RX4 12 "MajorityIndex" "row" "LMajorityIndex$Row;") (List.mem_of_getElem? (i := 1) rfl)
  have hi_4 : ∀ w ∈ u_ws RX4 TX4 9, w ∈ wsX4_turn := fun w h => List.mem_cons_of_mem _ (List.mem_append_left _ (List.mem_append_left _ (List.mem_append_left _ (List.mem_append_right _ h))))
  refine lv_aload_n hx hb dX4_turn_0 rfl (lv_at hl 0 rfl) ?_
  refine va_get (D := (dC, dI)) (ci := 4) (v := .ref q_row) (C := RX4) (T := TX4) (N := 9) hx hb hts hi_4 hown hK hP 0 rfl rfl 0 (by decide) hf_12 (fun _ h9 => h9) rfl dX4_turn_1 ?_
  refine lv_iload_n hx hb dX4_turn_4 rfl (lv_at hl 1 rfl) ?_
  refine lv_iload_n hx hb dX4_turn_5 rfl (lv_at hl 2 rfl) ?_
  have hPc := hP.sub (ws' := [kx_0 q_row q_cell len]) [2] rfl
  have hKc := hK.sub (tys' := []) [] rfl
  refine vp_callSi (W.runV (As := [.int p0, .int p1]) (rest := []) ⟨hx, hb, hml, hown, hts⟩ (c_X0_hasRange l dC dI q_row q_cell len p0 p1) (cwV 2 hts gX4_turn_X0_hasRange rfl rfl rfl (by decide +kernel) ⟨Nat.le_of_ble_eq_true rfl, Nat.le_of_ble_eq_true rfl⟩) ⟨fun a U g mk q => by obtain ⟨q0, qP, qK⟩ := q; exact ⟨q0, qP, va_K.moved (u := U) (U := U.calling g mk a) (Vm.Alike.refl U.vm) qK⟩, kx_rc0 hKc hPc (q0 := 0) rfl, fun U hU hW => ⟨rfl, by rw [hU]; exact hPc, va_K.moved hW.alike hKc⟩⟩ rfl rfl hl.1 rfl (lv_room (Nat.le_of_ble_eq_true rfl)) dX4_turn_6 ⟨Nat.le_of_ble_eq_true rfl, Nat.le_of_ble_eq_true rfl⟩) (fun r_1 w_1 => ?_)
  rcases w_1 with ⟨rfl, w_1⟩ | ⟨rfl, w_1⟩
  · have w_1 : (0 ≤ p0.toInt ∧ p0.toInt < p1.toInt ∧ p1.toInt ≤ len.toInt) := w_1
    refine lv_if_ne (tgt := 14) hx hb dX4_turn_9 (by decide) (fun c_2 => ?_) (fun c_2 => ?_)
    · refine lv_aload_n hx hb dX4_turn_14 rfl (lv_at hl 0 rfl) ?_
      have hPc := hP
      have hKc := hK
      have hDc := hD
      have hFc := kx_free hD hS hA
      refine va_callr (va_runV (As := []) (rest := []) ⟨hx, hb, hml, hown, hts⟩ (kx_un (c_X4_laidTree_x l dC dI m_ q_row q_t t_ h0 k0 w_ z_ slots old q_joined q_from q_to q_size q_lossOf q_lessBy q_value q_number nodes here q_cell cyI len f ff ft fs fo uv un fe j_v j_n js jl je jv jn s.heap.size a0 a1 s0 sl0 sl1 l0)) (cwV 0 hts gX4_turn_X4_laidTree rfl rfl rfl (by decide +kernel) ⟨Nat.le_of_ble_eq_true rfl, Nat.le_of_ble_eq_true rfl⟩) ⟨fun a U g mk q => by obtain ⟨q0, q1, qP, qK, qD⟩ := q; exact ⟨q0, q1, qP, va_K.moved (u := U) (U := U.calling g mk a) (Vm.Alike.refl U.vm) qK, qD⟩, kx_rc4 hKc hPc (q0 := 0) rfl, fun U hU hW => ⟨rfl, by rw [hU], by rw [hU]; exact hPc, va_K.moved hW.alike hKc, hDc.weaken (fun _ _ _ _ => trivial)⟩⟩ rfl rfl hl.1 rfl (lv_room (Nat.le_of_ble_eq_true rfl)) dX4_turn_15 ⟨Nat.le_of_ble_eq_true rfl, Nat.le_of_ble_eq_true rfl⟩) hS (fun q _ h => hFc q h) hFc (fun u ra t H1 locs ht hvm w_3 hB hz1 hk1 hS => ?_)
      obtain ⟨o_4, o_5, o_6, o_7, o_8, o_9, o_10, o_11, o_12, o_13, o_14, o_15, o_16, o_17, o_18⟩ := u
      dsimp only at w_3 hB
      obtain ⟨er, hP1, hK1, hD1⟩ := hB
      rw [ht] at hP1
      have hK1 := va_K.moved hvm.symm hK1
      have hD := hD1.weaken (fun _ q _ h => hFc q.1 h)
      have hP := hP1
      clear hP1 hD1 hK1 hk1 hz1 hFc hDc hPc hKc
      generalize H1 = H at hP hS ⊢
      have w_3 : o_4.toInt = 0 ∧ o_6 = slots ∧ sixes o_9 ∧ mj_C slots.toNatClampNeg f o_7 o_8 o_9 o_10 o_11 o_12 o_13 o_5.toInt len.toInt ∧ 0 ≤ o_5.toInt ∧ o_5.toInt ≤ 319 ∧ treeOk o_7 o_8 o_5.toInt len.toInt := w_3
      rw [er]
      refine lv_astore_n (lv' := [(3, .ref q_t), (0, .ref m_), (1, .int p0), (2, .int p1)]) hx hb dX4_turn_18 rfl hl (by decide) rfl (fun ls hl => ?_)
      refine lv_iload_n hx hb dX4_turn_19 rfl (lv_at hl 2 rfl) ?_
      refine lv_istore (lv' := [(4, .int p0), (3, .ref q_t), (0, .ref m_), (1, .int p0), (2, .int p1)]) hx hb dX4_turn_20 hl (by decide) rfl (fun ls hl => ?_)
      refine lv_iload_n hx hb dX4_turn_22 rfl (lv_at hl 4 rfl) ?_
      refine lv_iconst (v := 1) hx hb dX4_turn_23 (by decide) ?_
      refine lv_isub hx hb dX4_turn_24 ?_
      refine lv_topi (fun y_19 ey_19 => ?_)
      have i_19 : y_19.toInt = p1.toInt - 1 := ki_sub ey_19 rfl rfl (om_17 w_1.1 w_1.2.1) (om_183 a1 w_1.2.2)
      refine lv_istore (lv' := [(5, .int y_19), (4, .int p0), (3, .ref q_t), (0, .ref m_), (1, .int p0), (2, .int p1)]) hx hb dX4_turn_25 hl (by decide) rfl (fun ls hl => ?_)
      have LP1 : ∀ (n : Nat) (lf : Int32) (rg : Int32) (gc : Nat → Int32), (p0.toInt ≤ lf.toInt) → (lf.toInt + rg.toInt = p0.toInt + p1.toInt - 1) → (lf.toInt ≤ rg.toInt + 1) → (-1 ≤ rg.toInt) → (gc = mj_tu f p0.toNatClampNeg p1.toNatClampNeg (lf.toNatClampNeg - p0.toNatClampNeg)) → (rg.toInt - lf.toInt).toNat < n → ∀ (H : Heap) (locs : List Loc), va_P (dC, dI) vwCl [kx_4 m_ q_row q_t t_ h0 k0 w_ z_ slots o_4, kx_2 q_t q_row q_joined q_from q_to q_size q_lossOf q_lessBy q_value q_number o_5 o_6, kx_0 q_row q_cell len, kx_a q_cell cyI 160 gc, kx_a q_from cyI 319 o_7, kx_a q_to cyI 319 o_8, kx_a q_size cyI 319 o_9, kx_a q_lossOf cyI 319 o_10, kx_a q_lessBy cyI 319 o_11, kx_a q_value cyI 1914 o_12, kx_a q_number cyI 1914 o_13, kx_3 q_joined j_v j_n o_14 o_15 o_16, kx_a j_v cyI 12 o_17, kx_a j_n cyI 12 o_18] H → va_D A [kx_4 m_ q_row q_t t_ h0 k0 w_ z_ slots o_4, kx_2 q_t q_row q_joined q_from q_to q_size q_lossOf q_lessBy q_value q_number o_5 o_6, kx_0 q_row q_cell len, kx_a q_cell cyI 160 gc, kx_a q_from cyI 319 o_7, kx_a q_to cyI 319 o_8, kx_a q_size cyI 319 o_9, kx_a q_lossOf cyI 319 o_10, kx_a q_lessBy cyI 319 o_11, kx_a q_value cyI 1914 o_12, kx_a q_number cyI 1914 o_13, kx_3 q_joined j_v j_n o_14 o_15 o_16, kx_a j_v cyI 12 o_17, kx_a j_n cyI 12 o_18] → va_S A s.heap H locs → ∀ (ls : Array Slot), lv_has ls 6 [(5, .int rg), (4, .int lf), (3, .ref q_t), (0, .ref m_), (1, .int p0), (2, .int p1)] → W p l e (headSpec wsX4_turn ({ frames := 6, cells := 0, slots := 0, locals := 270 })).room s m ([.ref m_, .int p0, .int p1] : List Value).toArray below meth c H locs 0 0 (MQ below (va_Qi (fun (r : Int32) (u : Int32 × Int32 × Int32 × (Nat → Int32) × (Nat → Int32) × (Nat → Int32) × (Nat → Int32) × (Nat → Int32) × (Nat → Int32) × (Nat → Int32) × Int32 × Int32 × Int32 × (Nat → Int32) × (Nat → Int32) × (Nat → Int32)) => (((0 ≤ p0.toInt ∧ p0.toInt < p1.toInt ∧ p1.toInt ≤ len.toInt) ∧ u.2.2.2.2.2.2.2.2.2.2.2.2.2.2.2 = mj_turn f p0.toNatClampNeg p1.toNatClampNeg) ∨ ((p0.toInt < 0 ∨ p1.toInt ≤ p0.toInt ∨ len.toInt < p1.toInt) ∧ u.2.2.2.2.2.2.2.2.2.2.2.2.2.2.2 = f ∧ r = -1)) ∧ shorts u.2.2.2.2.2.2.2.2.2.2.2.2.2.2.2 ∧ laidX u.1 slots u.2.2.1 u.2.2.2.2.2.2.2.2.2.2.2.2.2.2.2 u.2.2.2.1 u.2.2.2.2.1 u.2.2.2.2.2.1 u.2.2.2.2.2.2.1 u.2.2.2.2.2.2.2.1 u.2.2.2.2.2.2.2.2.1 u.2.2.2.2.2.2.2.2.2.1 u.2.1 len ∧ sixes u.2.2.2.2.2.1) (fun (u : Int32 × Int32 × Int32 × (Nat → Int32) × (Nat → Int32) × (Nat → Int32) × (Nat → Int32) × (Nat → Int32) × (Nat → Int32) × (Nat → Int32) × Int32 × Int32 × Int32 × (Nat → Int32) × (Nat → Int32) × (Nat → Int32)) (t : State) => va_P (dC, dI) vwCl [kx_4 m_ q_row q_t t_ h0 k0 w_ z_ slots u.1, kx_2 q_t q_row q_joined q_from q_to q_size q_lossOf q_lessBy q_value q_number u.2.1 u.2.2.1, kx_0 q_row q_cell len, kx_a q_cell cyI 160 u.2.2.2.2.2.2.2.2.2.2.2.2.2.2.2, kx_a q_from cyI 319 u.2.2.2.1, kx_a q_to cyI 319 u.2.2.2.2.1, kx_a q_size cyI 319 u.2.2.2.2.2.1, kx_a q_lossOf cyI 319 u.2.2.2.2.2.2.1, kx_a q_lessBy cyI 319 u.2.2.2.2.2.2.2.1, kx_a q_value cyI 1914 u.2.2.2.2.2.2.2.2.1, kx_a q_number cyI 1914 u.2.2.2.2.2.2.2.2.2.1, kx_3 q_joined j_v j_n u.2.2.2.2.2.2.2.2.2.2.1 u.2.2.2.2.2.2.2.2.2.2.2.1 u.2.2.2.2.2.2.2.2.2.2.2.2.1, kx_a j_v cyI 12 u.2.2.2.2.2.2.2.2.2.2.2.2.2.1, kx_a j_n cyI 12 u.2.2.2.2.2.2.2.2.2.2.2.2.2.2.1] t.heap ∧ va_K (dC, dI) vwCl [(cyI, .int)] t ∧ va_D A [kx_4 m_ q_row q_t t_ h0 k0 w_ z_ slots u.1, kx_2 q_t q_row q_joined q_from q_to q_size q_lossOf q_lessBy q_value q_number u.2.1 u.2.2.1, kx_0 q_row q_cell len, kx_a q_cell cyI 160 u.2.2.2.2.2.2.2.2.2.2.2.2.2.2.2, kx_a q_from cyI 319 u.2.2.2.1, kx_a q_to cyI 319 u.2.2.2.2.1, kx_a q_size cyI 319 u.2.2.2.2.2.1, kx_a q_lossOf cyI 319 u.2.2.2.2.2.2.1, kx_a q_lessBy cyI 319 u.2.2.2.2.2.2.2.1, kx_a q_value cyI 1914 u.2.2.2.2.2.2.2.2.1, kx_a q_number cyI 1914 u.2.2.2.2.2.2.2.2.2.1, kx_3 q_joined j_v j_n u.2.2.2.2.2.2.2.2.2.2.1 u.2.2.2.2.2.2.2.2.2.2.2.1 u.2.2.2.2.2.2.2.2.2.2.2.2.1, kx_a j_v cyI 12 u.2.2.2.2.2.2.2.2.2.2.2.2.2.1, kx_a j_n cyI 12 u.2.2.2.2.2.2.2.2.2.2.2.2.2.2.1]) A) ([.ref m_, .int p0, .int p1] : List Value).toArray s 0 0 A) (F0 m 27 ls []) := by
        intro n
        induction n with
        | zero => intro lf rg gc LP1_h0 LP1_h1 LP1_h2 LP1_h3 LP1_h4 hn; exact absurd hn (Nat.not_lt_zero _)
        | succ n ih1 =>
          intro lf rg gc LP1_h0 LP1_h1 LP1_h2 LP1_h3 LP1_h4 hn1 H locs hP hD hS ls hl
          have n_lf := ki_nat lf rfl (om_0 w_1.1 LP1_h0)
          have n_p0 := ki_nat p0 rfl (om_10 w_1.1)
          have n_p1 := ki_nat p1 rfl (om_21 w_1.1 w_1.2.1)
          refine lv_iload hx hb dX4_turn_27 (lv_at hl 1 rfl) ?_
          refine lv_iload hx hb dX4_turn_29 (lv_at hl 0 rfl) ?_
          refine lv_icmp_ge (tgt := 54) hx hb dX4_turn_31 (by decide) (fun c_20 => ?_) (fun c_20 => ?_)
          · have i_20 : rg.toInt ≤ lf.toInt := kc_le c_20
            refine lv_aload_n hx hb dX4_turn_54 rfl (lv_at hl 2 rfl) ?_
            refine lv_iload_n hx hb dX4_turn_55 rfl (lv_at hl 4 rfl) ?_
            refine lv_iload_n hx hb dX4_turn_56 rfl (lv_at hl 5 rfl) ?_
            obtain ⟨hPc, hDc, hFc, hCc⟩ := kx_preM (wc := [kx_2 q_t q_row q_joined q_from q_to q_size q_lossOf q_lessBy q_value q_number o_5 o_6, kx_0 q_row q_cell len, kx_a q_cell cyI 160 gc, kx_a q_from cyI 319 o_7, kx_a q_to cyI 319 o_8, kx_a q_size cyI 319 o_9, kx_a q_lossOf cyI 319 o_10, kx_a q_lessBy cyI 319 o_11, kx_a q_value cyI 1914 o_12, kx_a q_number cyI 1914 o_13, kx_3 q_joined j_v j_n o_14 o_15 o_16, kx_a j_v cyI 12 o_17, kx_a j_n cyI 12 o_18]) hP hD hS hA [false, true, true, true, true, true, true, true, true, true, true, true, true, true] rfl
            have hKc := hK
            refine va_calli (va_runV (As := [.int p0, .int p1]) (rest := []) ⟨hx, hb, hml, hown, hts⟩ (kx_un (c_X2_renew_x l dC dI q_t q_row q_joined q_from q_to q_size q_lossOf q_lessBy q_value q_number o_5 o_6 q_cell cyI len gc o_7 o_8 o_9 o_10 o_12 o_13 o_11 j_v j_n o_14 o_15 o_16 o_17 o_18 p0 p1 H.size w_3.2.2.2.2.1 w_3.2.2.2.2.2.1 a1 w_3.2.2.1 w_3.2.2.2.2.2.2 (by rw [w_3.2.1]; omega) (by rw [w_3.2.1]; omega) w_3.2.2.2.1.2.2.2.2.1 (by rw [w_3.2.1]; exact mj_old w_3.2.2.2.1.2.2.2.2.2.2 w_3.2.2.2.2.2.2 (fun p hp => (by rw [show gc = mj_turn f p0.toNatClampNeg p1.toNatClampNeg by rw [LP1_h4]; exact mj_tu_end (by omega) (by omega) (by omega)]; exact mj_turn_out (by omega)))))) (cwV 2 hts gX4_turn_X2_renew rfl rfl rfl (by decide +kernel) ⟨Nat.le_of_ble_eq_true rfl, Nat.le_of_ble_eq_true rfl⟩) ⟨fun a U g mk q => by obtain ⟨q0, q1, qP, qK, qD⟩ := q; exact ⟨q0, q1, qP, va_K.moved (u := U) (U := U.calling g mk a) (Vm.Alike.refl U.vm) qK, qD⟩, kx_rc2 hKc hPc (q0 := 0) rfl, fun U hU hW => ⟨rfl, by rw [hU], by rw [hU]; exact hPc, va_K.moved hW.alike hKc, hDc.weaken (fun _ _ _ _ => trivial)⟩⟩ rfl rfl hl.1 rfl (lv_room (Nat.le_of_ble_eq_true rfl)) dX4_turn_57 ⟨Nat.le_of_ble_eq_true rfl, Nat.le_of_ble_eq_true rfl⟩) hS (fun q _ h => hFc q h) hFc (fun r_21 u t H1 locs ht hvm w_21 hB hz1 hk1 hS => ?_)
            obtain ⟨o_22, o_23, o_24, o_25, o_26, o_27, o_28, o_29, o_30, o_31⟩ := u
            dsimp only at w_21 hB
            obtain ⟨hP1, hK1, hD1⟩ := hB
            rw [ht] at hP1
            have hK1 := va_K.moved hvm.symm hK1
            obtain ⟨hP, hD⟩ := kx_joinM (w2 := [kx_4 m_ q_row q_t t_ h0 k0 w_ z_ slots o_4, kx_2 q_t q_row q_joined q_from q_to q_size q_lossOf q_lessBy q_value q_number o_5 o_6, kx_0 q_row q_cell len, kx_a q_cell cyI 160 gc, kx_a q_from cyI 319 o_7, kx_a q_to cyI 319 o_8, kx_a q_size cyI 319 o_22, kx_a q_lossOf cyI 319 o_23, kx_a q_lessBy cyI 319 o_24, kx_a q_value cyI 1914 o_25, kx_a q_number cyI 1914 o_26, kx_3 q_joined j_v j_n o_27 o_28 o_29, kx_a j_v cyI 12 o_30, kx_a j_n cyI 12 o_31]) hP hD hP1 hD1 hk1 hFc [false, true, true, true, true, true, true, true, true, true, true, true, true, true] hCc rfl
            clear hP1 hD1 hK1 hk1 hz1 hFc hDc hPc hKc hCc
            generalize H1 = H at hP hS ⊢
            have w_21 : sixes o_22 ∧ ∀ k : Nat, (k : Int) < o_5.toInt → mj_ok o_6.toNatClampNeg gc o_7 o_8 o_22 o_23 o_24 o_25 o_26 k := w_21
            have hP9 := hP
            have hD9 := hD
            have hK9 := hK
            have e_f : gc = mj_turn f p0.toNatClampNeg p1.toNatClampNeg := by rw [LP1_h4]; exact mj_tu_end (by omega) (by omega) (by omega)
            exact W.iret (v := r_21) hx hb hr (hlocks := hlocks) (fun t ht hW => ⟨⟨r_21, (o_4, o_5, o_6, o_7, o_8, o_22, o_23, o_24, o_25, o_26, o_27, o_28, o_29, o_30, o_31, gc), rfl, ⟨Or.inl ⟨by omega, e_f⟩, (by (try dsimp only); rw [e_f]; exact shorts_turn s1 (by omega)), (fun _ => ⟨w_3.2.1, (by have h9 := w_21.2; rw [w_3.2.1] at h9; exact mj_C_new w_3.2.2.2.1 h9)⟩), w_21.1⟩, by rw [ht]; exact hP9, va_K.moved hW.alike hK9, hD9⟩, hS.F ht⟩) hS.2.2 dX4_turn_60
          · have i_20 : lf.toInt < rg.toInt := kc_nle c_20
            refine lv_aload_n hx hb dX4_turn_34 rfl (lv_at hl 3 rfl) ?_
            refine va_get (D := (dC, dI)) (ci := 4) (v := .ref q_row) (C := RX4) (T := TX4) (N := 9) hx hb hts hi_4 hown hK hP 0 rfl rfl 0 (by decide) hf_12 (fun _ h9 => h9) rfl dX4_turn_35 ?_
            refine lv_iload hx hb dX4_turn_38 (lv_at hl 1 rfl) ?_
            refine lv_iload hx hb dX4_turn_40 (lv_at hl 0 rfl) ?_
            obtain ⟨hPc, hDc, hFc, hCc⟩ := kx_preM (wc := [kx_0 q_row q_cell len, kx_a q_cell cyI 160 gc]) hP hD hS hA [false, false, true, true, false, false, false, false, false, false, false, false, false, false] rfl
            have hKc := hK
            refine va_callv (va_runV (As := [.int lf, .int rg]) (rest := []) ⟨hx, hb, hml, hown, hts⟩ (kx_un (c_X0_exchange l dC dI q_row q_cell cyI len gc lf rg H.size (om_0 w_1.1 LP1_h0) (om_465 a1 w_1.2.1 w_1.2.2 LP1_h1 i_20) (om_466 w_1.1 w_1.2.1 LP1_h1 LP1_h3 i_20) (om_467 a1 w_1.2.2 LP1_h0 LP1_h1))) (cwV 2 hts gX4_turn_X0_exchange rfl rfl rfl (by decide +kernel) ⟨Nat.le_of_ble_eq_true rfl, Nat.le_of_ble_eq_true rfl⟩) ⟨fun a U g mk q => by obtain ⟨q0, q1, qP, qK, qD⟩ := q; exact ⟨q0, q1, qP, va_K.moved (u := U) (U := U.calling g mk a) (Vm.Alike.refl U.vm) qK, qD⟩, kx_rc0 hKc hPc (q0 := 0) rfl, fun U hU hW => ⟨rfl, by rw [hU], by rw [hU]; exact hPc, va_K.moved hW.alike hKc, hDc.weaken (fun _ _ _ _ => trivial)⟩⟩ rfl rfl hl.1 rfl (lv_room (Nat.le_of_ble_eq_true rfl)) dX4_turn_42 ⟨Nat.le_of_ble_eq_true rfl, Nat.le_of_ble_eq_true rfl⟩) hS (fun q _ h => hFc q h) hFc (fun u t H1 locs ht hvm w_32 hB hz1 hk1 hS => ?_)
            obtain ⟨o_33, rfl⟩ : ∃ z, z = u := ⟨_, rfl⟩
            obtain ⟨hP1, hK1, hD1⟩ := hB
            rw [ht] at hP1
            have hK1 := va_K.moved hvm.symm hK1
            obtain ⟨hP, hD⟩ := kx_joinM (w2 := [kx_4 m_ q_row q_t t_ h0 k0 w_ z_ slots o_4, kx_2 q_t q_row q_joined q_from q_to q_size q_lossOf q_lessBy q_value q_number o_5 o_6, kx_0 q_row q_cell len, kx_a q_cell cyI 160 o_33, kx_a q_from cyI 319 o_7, kx_a q_to cyI 319 o_8, kx_a q_size cyI 319 o_9, kx_a q_lossOf cyI 319 o_10, kx_a q_lessBy cyI 319 o_11, kx_a q_value cyI 1914 o_12, kx_a q_number cyI 1914 o_13, kx_3 q_joined j_v j_n o_14 o_15 o_16, kx_a j_v cyI 12 o_17, kx_a j_n cyI 12 o_18]) hP hD hP1 hD1 hk1 hFc [false, false, true, true, false, false, false, false, false, false, false, false, false, false] hCc rfl
            clear hP1 hD1 hK1 hk1 hz1 hFc hDc hPc hKc hCc
            generalize H1 = H at hP hS ⊢
            have w_32 : o_33 = upd (upd gc lf.toNatClampNeg (gc rg.toNatClampNeg)) rg.toNatClampNeg (gc lf.toNatClampNeg) := w_32
            obtain ⟨x_34, ex_34⟩ : ∃ y : Int32, y = lf + 1 := ⟨_, rfl⟩
            have i_34 : x_34.toInt = lf.toInt + 1 := ki_add ex_34 rfl rfl (om_2 w_1.1 LP1_h0) (om_468 a1 w_1.2.1 w_1.2.2 LP1_h1 i_20)
            refine lv_iinc (v := x_34) (lv' := [(4, .int x_34), (5, .int rg), (3, .ref q_t), (0, .ref m_), (1, .int p0), (2, .int p1)]) hx hb dX4_turn_45 hl (k := 1) rfl (by rw [ex_34]; rfl) (by decide) rfl (fun ls hl => ?_)
            obtain ⟨x_35, ex_35⟩ : ∃ y : Int32, y = rg + (-1) := ⟨_, rfl⟩
            have i_35 : x_35.toInt = rg.toInt + (-1) := ki_add ex_35 rfl rfl (om_193 LP1_h3) (om_469 a1 w_1.2.2 LP1_h0 LP1_h1)
            refine lv_iinc (v := x_35) (lv' := [(5, .int x_35), (4, .int x_34), (3, .ref q_t), (0, .ref m_), (1, .int p0), (2, .int p1)]) hx hb dX4_turn_48 hl (k := 1) rfl (by rw [ex_35]; rfl) (by decide) rfl (fun ls hl => ?_)
            refine lv_goto (tgt := 27) hx hb dX4_turn_51 (by decide) ?_
            have n_36 := ki_nat x_34 rfl (om_89 w_1.1 LP1_h0 i_34)
            have n_rg := ki_nat rg rfl (om_466 w_1.1 w_1.2.1 LP1_h1 LP1_h3 i_20)
            exact ih1 x_34 x_35 o_33 (om_4 LP1_h0 i_34) (om_470 LP1_h1 i_34 i_35) (om_471 i_20 i_34 i_35) (om_472 w_1.1 w_1.2.1 LP1_h1 LP1_h3 i_20 i_35) (by rw [w_32, LP1_h4]; exact mj_tu_step (by omega) (by omega) (by omega) (by omega) (by omega)) (om_mu hn1 (om_198 i_34 i_35) (om_6 i_20)) _ _ hP hD hS ls (lv_sub hl [0, 1, 2, 3, 4, 5] rfl)
      exact LP1 ((y_19.toInt - p0.toInt : Int).toNat + 1) p0 y_19 f om_7 (om_473 i_19) (om_474 w_1.2.1 i_19) (om_200 w_1.1 w_1.2.1 i_19) (mj_tu_0 _ _ _ (by omega)).symm (Nat.lt_succ_self _) _ _ hP hD hS ls (lv_sub hl [0, 1, 2, 3, 4, 5] rfl)
    · exact absurd c_2 (by decide)
  · have w_1 : (p0.toInt < 0 ∨ p1.toInt ≤ p0.toInt ∨ len.toInt < p1.toInt) := w_1
    refine lv_if_ne (tgt := 14) hx hb dX4_turn_9 (by decide) (fun c_37 => ?_) (fun c_37 => ?_)
    · exact absurd c_37 (by decide)
    · refine lv_iconst (v := (-1)) hx hb dX4_turn_12 (by decide) ?_
      have hP9 := hP
      have hD9 := hD
      have hK9 := hK
      exact W.iret (v := (-1)) hx hb hr (hlocks := hlocks) (fun t ht hW => ⟨⟨(-1), (old, nodes, here, ff, ft, fs, fo, fe, uv, un, js, jl, je, jv, jn, f), rfl, ⟨Or.inr ⟨by omega, rfl, rfl⟩, s1, l0, s0⟩, by rw [ht]; exact hP9, va_K.moved hW.alike hK9, hD9⟩, hS.F ht⟩) hS.2.2 dX4_turn_13

set_option maxHeartbeats 4000000 in
set_option maxRecDepth 100000 in
theorem c_X4_swap_X (l : Launch) (dC : Nat → ClassId) (dI : Nat → Nat → Nat) (m_ : Nat) (q_row : Nat) (q_t : Nat) (t_ : Nat) (h0 : Nat) (k0 : Nat) (w_ : Nat) (z_ : Nat) (slots : Int32) (old : Int32) (q_joined : Nat) (q_from : Nat) (q_to : Nat) (q_size : Nat) (q_lossOf : Nat) (q_lessBy : Nat) (q_value : Nat) (q_number : Nat) (nodes : Int32) (here : Int32) (q_cell : Nat) (cyI : ClassId) (len : Int32) (f : Nat → Int32) (ff : Nat → Int32) (ft : Nat → Int32) (fs : Nat → Int32) (fo : Nat → Int32) (uv : Nat → Int32) (un : Nat → Int32) (fe : Nat → Int32) (j_v : Nat) (j_n : Nat) (js : Int32) (jl : Int32) (je : Int32) (jv : Nat → Int32) (jn : Nat → Int32) (p0 : Int32) (p1 : Int32) (sz : Nat) (a0 : 0 ≤ len.toInt) (a1 : len.toInt ≤ 160) (s0 : sixes fs) (sl0 : 1 ≤ slots.toInt) (sl1 : slots.toInt ≤ 6) (l0 : laidX old slots here f ff ft fs fo fe uv un nodes len) (s1 : shorts f) : kx_MQ l (dC, dI) yX4_swap wsX4_swap ({ frames := 6, cells := 0, slots := 0, locals := 270 }) [.ref m_, .int p0, .int p1] [kx_4 m_ q_row q_t t_ h0 k0 w_ z_ slots old, kx_2 q_t q_row q_joined q_from q_to q_size q_lossOf q_lessBy q_value q_number nodes here, kx_0 q_row q_cell len, kx_a q_cell cyI 160 f, kx_a q_from cyI 319 ff, kx_a q_to cyI 319 ft, kx_a q_size cyI 319 fs, kx_a q_lossOf cyI 319 fo, kx_a q_lessBy cyI 319 fe, kx_a q_value cyI 1914 uv, kx_a q_number cyI 1914 un, kx_3 q_joined j_v j_n js jl je, kx_a j_v cyI 12 jv, kx_a j_n cyI 12 jn] [(cyI, .int)] sz (fun A => va_Qi (fun (r : Int32) (u : Int32 × Int32 × Int32 × (Nat → Int32) × (Nat → Int32) × (Nat → Int32) × (Nat → Int32) × (Nat → Int32) × (Nat → Int32) × (Nat → Int32) × Int32 × Int32 × Int32 × (Nat → Int32) × (Nat → Int32) × (Nat → Int32)) => (((0 ≤ p0.toInt ∧ p0.toInt < len.toInt ∧ 0 ≤ p1.toInt ∧ p1.toInt < len.toInt) ∧ u.2.2.2.2.2.2.2.2.2.2.2.2.2.2.2 = mj_ex f p0.toNatClampNeg p1.toNatClampNeg) ∨ ((p0.toInt < 0 ∨ len.toInt ≤ p0.toInt ∨ p1.toInt < 0 ∨ len.toInt ≤ p1.toInt) ∧ u.2.2.2.2.2.2.2.2.2.2.2.2.2.2.2 = f ∧ r = -1)) ∧ shorts u.2.2.2.2.2.2.2.2.2.2.2.2.2.2.2 ∧ laidX u.1 slots u.2.2.1 u.2.2.2.2.2.2.2.2.2.2.2.2.2.2.2 u.2.2.2.1 u.2.2.2.2.1 u.2.2.2.2.2.1 u.2.2.2.2.2.2.1 u.2.2.2.2.2.2.2.1 u.2.2.2.2.2.2.2.2.1 u.2.2.2.2.2.2.2.2.2.1 u.2.1 len ∧ sixes u.2.2.2.2.2.1) (fun (u : Int32 × Int32 × Int32 × (Nat → Int32) × (Nat → Int32) × (Nat → Int32) × (Nat → Int32) × (Nat → Int32) × (Nat → Int32) × (Nat → Int32) × Int32 × Int32 × Int32 × (Nat → Int32) × (Nat → Int32) × (Nat → Int32)) (t : State) => va_P (dC, dI) vwCl [kx_4 m_ q_row q_t t_ h0 k0 w_ z_ slots u.1, kx_2 q_t q_row q_joined q_from q_to q_size q_lossOf q_lessBy q_value q_number u.2.1 u.2.2.1, kx_0 q_row q_cell len, kx_a q_cell cyI 160 u.2.2.2.2.2.2.2.2.2.2.2.2.2.2.2, kx_a q_from cyI 319 u.2.2.2.1, kx_a q_to cyI 319 u.2.2.2.2.1, kx_a q_size cyI 319 u.2.2.2.2.2.1, kx_a q_lossOf cyI 319 u.2.2.2.2.2.2.1, kx_a q_lessBy cyI 319 u.2.2.2.2.2.2.2.1, kx_a q_value cyI 1914 u.2.2.2.2.2.2.2.2.1, kx_a q_number cyI 1914 u.2.2.2.2.2.2.2.2.2.1, kx_3 q_joined j_v j_n u.2.2.2.2.2.2.2.2.2.2.1 u.2.2.2.2.2.2.2.2.2.2.2.1 u.2.2.2.2.2.2.2.2.2.2.2.2.1, kx_a j_v cyI 12 u.2.2.2.2.2.2.2.2.2.2.2.2.2.1, kx_a j_n cyI 12 u.2.2.2.2.2.2.2.2.2.2.2.2.2.2.1] t.heap ∧ va_K (dC, dI) vwCl [(cyI, .int)] t ∧ va_D A [kx_4 m_ q_row q_t t_ h0 k0 w_ z_ slots u.1, kx_2 q_t q_row q_joined q_from q_to q_size q_lossOf q_lessBy q_value q_number u.2.1 u.2.2.1, kx_0 q_row q_cell len, kx_a q_cell cyI 160 u.2.2.2.2.2.2.2.2.2.2.2.2.2.2.2, kx_a q_from cyI 319 u.2.2.2.1, kx_a q_to cyI 319 u.2.2.2.2.1, kx_a q_size cyI 319 u.2.2.2.2.2.1, kx_a q_lossOf cyI 319 u.2.2.2.2.2.2.1, kx_a q_lessBy cyI 319 u.2.2.2.2.2.2.2.1, kx_a q_value cyI 1914 u.2.2.2.2.2.2.2.2.1, kx_a q_number cyI 1914 u.2.2.2.2.2.2.2.2.2.1, kx_3 q_joined j_v j_n u.2.2.2.2.2.2.2.2.2.2.1 u.2.2.2.2.2.2.2.2.2.2.2.1 u.2.2.2.2.2.2.2.2.2.2.2.2.1, kx_a j_v cyI 12 u.2.2.2.2.2.2.2.2.2.2.2.2.2.1, kx_a j_n cyI 12 u.2.2.2.2.2.2.2.2.2.2.2.2.2.2.1]) A) := by
  refine kx_stQ (ws := wsX4_swap) (cc := cX4_swap) (maxL := 4) (ret := (some .int)) (by decide) rfl (Nat.le_of_ble_eq_true rfl) ?_
  intro p e s m below meth c A ls hx hb hr hlocks hts hown hml hA hS hP hK hD hl
  have hown : s.vm.findClass RX4 = some m.cls := hown
  have hl : lv_has ls 4 [(0, .ref m_), (1, .int p0), (2, .int p1)] := hl
  have hf_12 := hts (.fieldLink RX4 12 "MajorityIndex" "row" "LMajorityIndex$Row;") (List.mem_of_getElem? (i := 1) rfl)
  have hi_4 : ∀ w ∈ u_ws RX4 TX4 9, w ∈ wsX4_swap := fun w h => List.mem_cons_of_mem _ (List.mem_append_left _ (List.mem_append_left _ (List.mem_append_left _ (List.mem_append_right _ h))))
  have hm_91 := hts (.methodLink RX4 91 Lib.Math.min.name) (List.mem_of_getElem? (i := 2) rfl)
  have hms_min := hts (.static Lib.Math.min.name) (List.mem_of_getElem? (i := 3) rfl)
  have hz_math := hts (.initialized "java/lang/Math") (List.mem_of_getElem? (i := 4) rfl)
  have hmc_min := hts (.code Lib.Math.min.name Lib.Math.min.code 2 (some .int)) (List.mem_of_getElem? (i := 5) rfl)
  have hm_96 := hts (.methodLink RX4 96 Lib.Math.max.name) (List.mem_of_getElem? (i := 6) rfl)
  have hms_max := hts (.static Lib.Math.max.name) (List.mem_of_getElem? (i := 7) rfl)
  have hmc_max := hts (.code Lib.Math.max.name Lib.Math.max.code 2 (some .int)) (List.mem_of_getElem? (i := 8) rfl)
  refine lv_aload_n hx hb dX4_swap_0 rfl (lv_at hl 0 rfl) ?_
  refine va_get (D := (dC, dI)) (ci := 4) (v := .ref q_row) (C := RX4) (T := TX4) (N := 9) hx hb hts hi_4 hown hK hP 0 rfl rfl 0 (by decide) hf_12 (fun _ h9 => h9) rfl dX4_swap_1 ?_
  refine lv_iload_n hx hb dX4_swap_4 rfl (lv_at hl 1 rfl) ?_
  have hPc := hP.sub (ws' := [kx_0 q_row q_cell len]) [2] rfl
  have hKc := hK.sub (tys' := []) [] rfl
  refine vp_callSi (W.runV (As := [.int p0]) (rest := []) ⟨hx, hb, hml, hown, hts⟩ (c_X0_hasPlace l dC dI q_row q_cell len p0) (cwV 1 hts gX4_swap_X0_hasPlace rfl rfl rfl (by decide +kernel) ⟨Nat.le_of_ble_eq_true rfl, Nat.le_of_ble_eq_true rfl⟩) ⟨fun a U g mk q => by obtain ⟨q0, qP, qK⟩ := q; exact ⟨q0, qP, va_K.moved (u := U) (U := U.calling g mk a) (Vm.Alike.refl U.vm) qK⟩, kx_rc0 hKc hPc (q0 := 0) rfl, fun U hU hW => ⟨rfl, by rw [hU]; exact hPc, va_K.moved hW.alike hKc⟩⟩ rfl rfl hl.1 rfl (lv_room (Nat.le_of_ble_eq_true rfl)) dX4_swap_5 ⟨Nat.le_of_ble_eq_true rfl, Nat.le_of_ble_eq_true rfl⟩) (fun r_1 w_1 => ?_)
  rcases w_1 with ⟨rfl, w_1⟩ | ⟨rfl, w_1⟩
  · have w_1 : (0 ≤ p0.toInt ∧ p0.toInt < len.toInt) := w_1
    refine lv_if_eq (tgt := 22) hx hb dX4_swap_8 (by decide) (fun c_2 => ?_) (fun c_2 => ?_)
    · exact absurd c_2 (by decide)
    · refine lv_aload_n hx hb dX4_swap_11 rfl (lv_at hl 0 rfl) ?_
      refine va_get (D := (dC, dI)) (ci := 4) (v := .ref q_row) (C := RX4) (T := TX4) (N := 9) hx hb hts hi_4 hown hK hP 0 rfl rfl 0 (by decide) hf_12 (fun _ h9 => h9) rfl dX4_swap_12 ?_
      refine lv_iload_n hx hb dX4_swap_15 rfl (lv_at hl 2 rfl) ?_
      have hPc := hP.sub (ws' := [kx_0 q_row q_cell len]) [2] rfl
      have hKc := hK.sub (tys' := []) [] rfl
      refine vp_callSi (W.runV (As := [.int p1]) (rest := []) ⟨hx, hb, hml, hown, hts⟩ (c_X0_hasPlace l dC dI q_row q_cell len p1) (cwV 1 hts gX4_swap_X0_hasPlace rfl rfl rfl (by decide +kernel) ⟨Nat.le_of_ble_eq_true rfl, Nat.le_of_ble_eq_true rfl⟩) ⟨fun a U g mk q => by obtain ⟨q0, qP, qK⟩ := q; exact ⟨q0, qP, va_K.moved (u := U) (U := U.calling g mk a) (Vm.Alike.refl U.vm) qK⟩, kx_rc0 hKc hPc (q0 := 0) rfl, fun U hU hW => ⟨rfl, by rw [hU]; exact hPc, va_K.moved hW.alike hKc⟩⟩ rfl rfl hl.1 rfl (lv_room (Nat.le_of_ble_eq_true rfl)) dX4_swap_16 ⟨Nat.le_of_ble_eq_true rfl, Nat.le_of_ble_eq_true rfl⟩) (fun r_3 w_3 => ?_)
      rcases w_3 with ⟨rfl, w_3⟩ | ⟨rfl, w_3⟩
      · have w_3 : (0 ≤ p1.toInt ∧ p1.toInt < len.toInt) := w_3
        refine lv_if_ne (tgt := 24) hx hb dX4_swap_19 (by decide) (fun c_4 => ?_) (fun c_4 => ?_)
        · refine lv_aload_n hx hb dX4_swap_24 rfl (lv_at hl 0 rfl) ?_
          have hPc := hP
          have hKc := hK
          have hDc := hD
          have hFc := kx_free hD hS hA
          refine va_callr (va_runV (As := []) (rest := []) ⟨hx, hb, hml, hown, hts⟩ (kx_un (c_X4_laidTree_x l dC dI m_ q_row q_t t_ h0 k0 w_ z_ slots old q_joined q_from q_to q_size q_lossOf q_lessBy q_value q_number nodes here q_cell cyI len f ff ft fs fo uv un fe j_v j_n js jl je jv jn s.heap.size a0 a1 s0 sl0 sl1 l0)) (cwV 0 hts gX4_swap_X4_laidTree rfl rfl rfl (by decide +kernel) ⟨Nat.le_of_ble_eq_true rfl, Nat.le_of_ble_eq_true rfl⟩) ⟨fun a U g mk q => by obtain ⟨q0, q1, qP, qK, qD⟩ := q; exact ⟨q0, q1, qP, va_K.moved (u := U) (U := U.calling g mk a) (Vm.Alike.refl U.vm) qK, qD⟩, kx_rc4 hKc hPc (q0 := 0) rfl, fun U hU hW => ⟨rfl, by rw [hU], by rw [hU]; exact hPc, va_K.moved hW.alike hKc, hDc.weaken (fun _ _ _ _ => trivial)⟩⟩ rfl rfl hl.1 rfl (lv_room (Nat.le_of_ble_eq_true rfl)) dX4_swap_25 ⟨Nat.le_of_ble_eq_true rfl, Nat.le_of_ble_eq_true rfl⟩) hS (fun q _ h => hFc q h) hFc (fun u ra t H1 locs ht hvm w_5 hB hz1 hk1 hS => ?_)
          obtain ⟨o_6, o_7, o_8, o_9, o_10, o_11, o_12, o_13, o_14, o_15, o_16, o_17, o_18, o_19, o_20⟩ := u
          dsimp only at w_5 hB
          obtain ⟨er, hP1, hK1, hD1⟩ := hB
          rw [ht] at hP1
          have hK1 := va_K.moved hvm.symm hK1
          have hD := hD1.weaken (fun _ q _ h => hFc q.1 h)
          have hP := hP1
          clear hP1 hD1 hK1 hk1 hz1 hFc hDc hPc hKc
          generalize H1 = H at hP hS ⊢
          have w_5 : o_6.toInt = 0 ∧ o_8 = slots ∧ sixes o_11 ∧ mj_C slots.toNatClampNeg f o_9 o_10 o_11 o_12 o_13 o_14 o_15 o_7.toInt len.toInt ∧ 0 ≤ o_7.toInt ∧ o_7.toInt ≤ 319 ∧ treeOk o_9 o_10 o_7.toInt len.toInt := w_5
          rw [er]
          refine lv_astore_n (lv' := [(3, .ref q_t), (0, .ref m_), (1, .int p0), (2, .int p1)]) hx hb dX4_swap_28 rfl hl (by decide) rfl (fun ls hl => ?_)
          refine lv_aload_n hx hb dX4_swap_29 rfl (lv_at hl 1 rfl) ?_
          refine va_get (D := (dC, dI)) (ci := 4) (v := .ref q_row) (C := RX4) (T := TX4) (N := 9) hx hb hts hi_4 hown hK hP 0 rfl rfl 0 (by decide) hf_12 (fun _ h9 => h9) rfl dX4_swap_30 ?_
          refine lv_iload_n hx hb dX4_swap_33 rfl (lv_at hl 2 rfl) ?_
          refine lv_iload_n hx hb dX4_swap_34 rfl (lv_at hl 3 rfl) ?_
          obtain ⟨hPc, hDc, hFc, hCc⟩ := kx_preM (wc := [kx_0 q_row q_cell len, kx_a q_cell cyI 160 f]) hP hD hS hA [false, false, true, true, false, false, false, false, false, false, false, false, false, false] rfl
          have hKc := hK
          refine va_callv (va_runV (As := [.int p0, .int p1]) (rest := []) ⟨hx, hb, hml, hown, hts⟩ (kx_un (c_X0_exchange l dC dI q_row q_cell cyI len f p0 p1 H.size (om_10 w_1.1) (om_143 a1 w_1.2) (om_10 w_3.1) (om_143 a1 w_3.2))) (cwV 2 hts gX4_swap_X0_exchange rfl rfl rfl (by decide +kernel) ⟨Nat.le_of_ble_eq_true rfl, Nat.le_of_ble_eq_true rfl⟩) ⟨fun a U g mk q => by obtain ⟨q0, q1, qP, qK, qD⟩ := q; exact ⟨q0, q1, qP, va_K.moved (u := U) (U := U.calling g mk a) (Vm.Alike.refl U.vm) qK, qD⟩, kx_rc0 hKc hPc (q0 := 0) rfl, fun U hU hW => ⟨rfl, by rw [hU], by rw [hU]; exact hPc, va_K.moved hW.alike hKc, hDc.weaken (fun _ _ _ _ => trivial)⟩⟩ rfl rfl hl.1 rfl (lv_room (Nat.le_of_ble_eq_true rfl)) dX4_swap_35 ⟨Nat.le_of_ble_eq_true rfl, Nat.le_of_ble_eq_true rfl⟩) hS (fun q _ h => hFc q h) hFc (fun u t H1 locs ht hvm w_21 hB hz1 hk1 hS => ?_)
          obtain ⟨o_22, rfl⟩ : ∃ z, z = u := ⟨_, rfl⟩
          obtain ⟨hP1, hK1, hD1⟩ := hB
          rw [ht] at hP1
          have hK1 := va_K.moved hvm.symm hK1
          obtain ⟨hP, hD⟩ := kx_joinM (w2 := [kx_4 m_ q_row q_t t_ h0 k0 w_ z_ slots o_6, kx_2 q_t q_row q_joined q_from q_to q_size q_lossOf q_lessBy q_value q_number o_7 o_8, kx_0 q_row q_cell len, kx_a q_cell cyI 160 o_22, kx_a q_from cyI 319 o_9, kx_a q_to cyI 319 o_10, kx_a q_size cyI 319 o_11, kx_a q_lossOf cyI 319 o_12, kx_a q_lessBy cyI 319 o_13, kx_a q_value cyI 1914 o_14, kx_a q_number cyI 1914 o_15, kx_3 q_joined j_v j_n o_16 o_17 o_18, kx_a j_v cyI 12 o_19, kx_a j_n cyI 12 o_20]) hP hD hP1 hD1 hk1 hFc [false, false, true, true, false, false, false, false, false, false, false, false, false, false] hCc rfl
          clear hP1 hD1 hK1 hk1 hz1 hFc hDc hPc hKc hCc
          generalize H1 = H at hP hS ⊢
          have w_21 : o_22 = upd (upd f p0.toNatClampNeg (f p1.toNatClampNeg)) p1.toNatClampNeg (f p0.toNatClampNeg) := w_21
          refine lv_aload_n hx hb dX4_swap_38 rfl (lv_at hl 0 rfl) ?_
          refine lv_iload_n hx hb dX4_swap_39 rfl (lv_at hl 2 rfl) ?_
          refine lv_iload_n hx hb dX4_swap_40 rfl (lv_at hl 3 rfl) ?_
          refine va_mmin hx hb (hml.trans hl.1.symm) hown hm_91 hms_min hz_math hmc_min (Nat.le_of_ble_eq_true rfl) (Nat.le_of_ble_eq_true rfl) (Nat.le_of_ble_eq_true rfl) (Nat.le_of_ble_eq_true rfl) dX4_swap_41 ?_
          refine lv_topi (fun y_23 ey_23 => ?_)
          have i_24 : (p0.toInt ≤ p1.toInt ∧ y_23.toInt = p0.toInt) ∨ (p1.toInt < p0.toInt ∧ y_23.toInt = p1.toInt) := ki_min ey_23 rfl rfl
          refine lv_iload_n hx hb dX4_swap_44 rfl (lv_at hl 2 rfl) ?_
          refine lv_iload_n hx hb dX4_swap_45 rfl (lv_at hl 3 rfl) ?_
          refine va_mmax hx hb (hml.trans hl.1.symm) hown hm_96 hms_max hz_math hmc_max (Nat.le_of_ble_eq_true rfl) (Nat.le_of_ble_eq_true rfl) (Nat.le_of_ble_eq_true rfl) (Nat.le_of_ble_eq_true rfl) dX4_swap_46 ?_
          refine lv_topi (fun y_25 ey_25 => ?_)
          have i_26 : (p0.toInt ≤ p1.toInt ∧ y_25.toInt = p1.toInt) ∨ (p1.toInt < p0.toInt ∧ y_25.toInt = p0.toInt) := ki_max ey_25 rfl rfl
          refine lv_iconst (v := 1) hx hb dX4_swap_49 (by decide) ?_
          refine lv_iadd hx hb dX4_swap_50 ?_
          refine lv_topi (fun y_27 ey_27 => ?_)
          have i_27 : y_27.toInt = y_25.toInt + 1 := ki_add ey_27 rfl rfl (by omega) (by omega)
          obtain ⟨hPc, hDc, hFc, hCc⟩ := kx_preM (wc := [kx_2 q_t q_row q_joined q_from q_to q_size q_lossOf q_lessBy q_value q_number o_7 o_8, kx_0 q_row q_cell len, kx_a q_cell cyI 160 o_22, kx_a q_from cyI 319 o_9, kx_a q_to cyI 319 o_10, kx_a q_size cyI 319 o_11, kx_a q_lossOf cyI 319 o_12, kx_a q_lessBy cyI 319 o_13, kx_a q_value cyI 1914 o_14, kx_a q_number cyI 1914 o_15, kx_3 q_joined j_v j_n o_16 o_17 o_18, kx_a j_v cyI 12 o_19, kx_a j_n cyI 12 o_20]) hP hD hS hA [false, true, true, true, true, true, true, true, true, true, true, true, true, true] rfl
          have hKc := hK
          refine va_calli (va_runV (As := [.int y_23, .int y_27]) (rest := []) ⟨hx, hb, hml, hown, hts⟩ (kx_un (c_X2_renew_x l dC dI q_t q_row q_joined q_from q_to q_size q_lossOf q_lessBy q_value q_number o_7 o_8 q_cell cyI len o_22 o_9 o_10 o_11 o_12 o_14 o_15 o_13 j_v j_n o_16 o_17 o_18 o_19 o_20 y_23 y_27 H.size w_5.2.2.2.2.1 w_5.2.2.2.2.2.1 a1 w_5.2.2.1 w_5.2.2.2.2.2.2 (by rw [w_5.2.1]; omega) (by rw [w_5.2.1]; omega) w_5.2.2.2.1.2.2.2.2.1 (by rw [w_5.2.1]; exact mj_old w_5.2.2.2.1.2.2.2.2.2.2 w_5.2.2.2.2.2.2 (fun p hp => (by rw [w_21]; exact mj_ex_o (fun e => by have := ki_nat p0 rfl (by omega); omega) (fun e => by have := ki_nat p1 rfl (by omega); omega)))))) (cwV 2 hts gX4_swap_X2_renew rfl rfl rfl (by decide +kernel) ⟨Nat.le_of_ble_eq_true rfl, Nat.le_of_ble_eq_true rfl⟩) ⟨fun a U g mk q => by obtain ⟨q0, q1, qP, qK, qD⟩ := q; exact ⟨q0, q1, qP, va_K.moved (u := U) (U := U.calling g mk a) (Vm.Alike.refl U.vm) qK, qD⟩, kx_rc2 hKc hPc (q0 := 0) rfl, fun U hU hW => ⟨rfl, by rw [hU], by rw [hU]; exact hPc, va_K.moved hW.alike hKc, hDc.weaken (fun _ _ _ _ => trivial)⟩⟩ rfl rfl hl.1 rfl (lv_room (Nat.le_of_ble_eq_true rfl)) dX4_swap_51 ⟨Nat.le_of_ble_eq_true rfl, Nat.le_of_ble_eq_true rfl⟩) hS (fun q _ h => hFc q h) hFc (fun r_28 u t H1 locs ht hvm w_28 hB hz1 hk1 hS => ?_)
          obtain ⟨o_29, o_30, o_31, o_32, o_33, o_34, o_35, o_36, o_37, o_38⟩ := u
          dsimp only at w_28 hB
          obtain ⟨hP1, hK1, hD1⟩ := hB
          rw [ht] at hP1
          have hK1 := va_K.moved hvm.symm hK1
          obtain ⟨hP, hD⟩ := kx_joinM (w2 := [kx_4 m_ q_row q_t t_ h0 k0 w_ z_ slots o_6, kx_2 q_t q_row q_joined q_from q_to q_size q_lossOf q_lessBy q_value q_number o_7 o_8, kx_0 q_row q_cell len, kx_a q_cell cyI 160 o_22, kx_a q_from cyI 319 o_9, kx_a q_to cyI 319 o_10, kx_a q_size cyI 319 o_29, kx_a q_lossOf cyI 319 o_30, kx_a q_lessBy cyI 319 o_31, kx_a q_value cyI 1914 o_32, kx_a q_number cyI 1914 o_33, kx_3 q_joined j_v j_n o_34 o_35 o_36, kx_a j_v cyI 12 o_37, kx_a j_n cyI 12 o_38]) hP hD hP1 hD1 hk1 hFc [false, true, true, true, true, true, true, true, true, true, true, true, true, true] hCc rfl
          clear hP1 hD1 hK1 hk1 hz1 hFc hDc hPc hKc hCc
          generalize H1 = H at hP hS ⊢
          have w_28 : sixes o_29 ∧ ∀ k : Nat, (k : Int) < o_7.toInt → mj_ok o_8.toNatClampNeg o_22 o_9 o_10 o_29 o_30 o_31 o_32 o_33 k := w_28
          have hP9 := hP
          have hD9 := hD
          have hK9 := hK
          have n_p0 := ki_nat p0 rfl (om_10 w_1.1)
          have n_p1 := ki_nat p1 rfl (om_10 w_3.1)
          have e_f : o_22 = mj_ex f p0.toNatClampNeg p1.toNatClampNeg := w_21
          exact W.iret (v := r_28) hx hb hr (hlocks := hlocks) (fun t ht hW => ⟨⟨r_28, (o_6, o_7, o_8, o_9, o_10, o_29, o_30, o_31, o_32, o_33, o_34, o_35, o_36, o_37, o_38, o_22), rfl, ⟨Or.inl ⟨by omega, e_f⟩, (by (try dsimp only); rw [e_f]; exact shorts_mex s1 (by omega) (by omega)), (fun _ => ⟨w_5.2.1, (by have h9 := w_28.2; rw [w_5.2.1] at h9; exact mj_C_new w_5.2.2.2.1 h9)⟩), w_28.1⟩, by rw [ht]; exact hP9, va_K.moved hW.alike hK9, hD9⟩, hS.F ht⟩) hS.2.2 dX4_swap_54
        · exact absurd c_4 (by decide)
      · have w_3 : (p1.toInt < 0 ∨ len.toInt ≤ p1.toInt) := w_3
        refine lv_if_ne (tgt := 24) hx hb dX4_swap_19 (by decide) (fun c_39 => ?_) (fun c_39 => ?_)
        · exact absurd c_39 (by decide)
        · refine lv_iconst (v := (-1)) hx hb dX4_swap_22 (by decide) ?_
          have hP9 := hP
          have hD9 := hD
          have hK9 := hK
          exact W.iret (v := (-1)) hx hb hr (hlocks := hlocks) (fun t ht hW => ⟨⟨(-1), (old, nodes, here, ff, ft, fs, fo, fe, uv, un, js, jl, je, jv, jn, f), rfl, ⟨Or.inr ⟨by omega, rfl, rfl⟩, s1, l0, s0⟩, by rw [ht]; exact hP9, va_K.moved hW.alike hK9, hD9⟩, hS.F ht⟩) hS.2.2 dX4_swap_23
  · have w_1 : (p0.toInt < 0 ∨ len.toInt ≤ p0.toInt) := w_1
    refine lv_if_eq (tgt := 22) hx hb dX4_swap_8 (by decide) (fun c_40 => ?_) (fun c_40 => ?_)
    · refine lv_iconst (v := (-1)) hx hb dX4_swap_22 (by decide) ?_
      have hP9 := hP
      have hD9 := hD
      have hK9 := hK
      exact W.iret (v := (-1)) hx hb hr (hlocks := hlocks) (fun t ht hW => ⟨⟨(-1), (old, nodes, here, ff, ft, fs, fo, fe, uv, un, js, jl, je, jv, jn, f), rfl, ⟨Or.inr ⟨by omega, rfl, rfl⟩, s1, l0, s0⟩, by rw [ht]; exact hP9, va_K.moved hW.alike hK9, hD9⟩, hS.F ht⟩) hS.2.2 dX4_swap_23
    · exact absurd c_40 (by decide)



set_option maxHeartbeats 4000000 in
set_option maxRecDepth 100000 in
theorem c_X4_told_x (l : Launch) (dC : Nat → ClassId) (dI : Nat → Nat → Nat) (m_ : Nat) (q_row : Nat) (q_t : Nat) (t_ : Nat) (h0 : Nat) (k0 : Nat) (w_ : Nat) (z_ : Nat) (slots : Int32) (old : Int32) (q_joined : Nat) (q_from : Nat) (q_to : Nat) (q_size : Nat) (q_lossOf : Nat) (q_lessBy : Nat) (q_value : Nat) (q_number : Nat) (nodes : Int32) (here : Int32) (q_cell : Nat) (cyI : ClassId) (len : Int32) (f : Nat → Int32) (ff : Nat → Int32) (ft : Nat → Int32) (fs : Nat → Int32) (fo : Nat → Int32) (uv : Nat → Int32) (un : Nat → Int32) (fe : Nat → Int32) (j_v : Nat) (j_n : Nat) (js : Int32) (jl : Int32) (je : Int32) (jv : Nat → Int32) (jn : Nat → Int32) (p0 : Int32) (sz : Nat) (a0 : 0 ≤ len.toInt) (a1 : len.toInt ≤ 160) (s0 : sixes fs) (sl0 : 1 ≤ slots.toInt) (sl1 : slots.toInt ≤ 6) (l0 : laidX old slots here f ff ft fs fo fe uv un nodes len) : Met l yX4_told wsX4_told ({ frames := 6, cells := 0, slots := 0, locals := 270 }) (va_Pc [.ref m_, .int p0] (fun U => U.heap.size = sz ∧ va_P (dC, dI) vwCl [kx_4 m_ q_row q_t t_ h0 k0 w_ z_ slots old, kx_2 q_t q_row q_joined q_from q_to q_size q_lossOf q_lessBy q_value q_number nodes here, kx_0 q_row q_cell len, kx_a q_cell cyI 160 f, kx_a q_from cyI 319 ff, kx_a q_to cyI 319 ft, kx_a q_size cyI 319 fs, kx_a q_lossOf cyI 319 fo, kx_a q_lessBy cyI 319 fe, kx_a q_value cyI 1914 uv, kx_a q_number cyI 1914 un, kx_3 q_joined j_v j_n js jl je, kx_a j_v cyI 12 jv, kx_a j_n cyI 12 jn] U.heap ∧ va_K (dC, dI) vwCl [(cyI, .int)] U ∧ va_D (fun _ => True) [kx_4 m_ q_row q_t t_ h0 k0 w_ z_ slots old, kx_2 q_t q_row q_joined q_from q_to q_size q_lossOf q_lessBy q_value q_number nodes here, kx_0 q_row q_cell len, kx_a q_cell cyI 160 f, kx_a q_from cyI 319 ff, kx_a q_to cyI 319 ft, kx_a q_size cyI 319 fs, kx_a q_lossOf cyI 319 fo, kx_a q_lessBy cyI 319 fe, kx_a q_value cyI 1914 uv, kx_a q_number cyI 1914 un, kx_3 q_joined j_v j_n js jl je, kx_a j_v cyI 12 jv, kx_a j_n cyI 12 jn] ∧ va_Nw (.methodLinkNest RX0 28 yX4_isHeavy RX4) U)) (va_Qi (fun (r : Int32) (u : Int32 × Int32 × Int32 × (Nat → Int32) × (Nat → Int32) × (Nat → Int32) × (Nat → Int32) × (Nat → Int32) × (Nat → Int32) × (Nat → Int32) × Int32 × Int32 × Int32 × (Nat → Int32) × (Nat → Int32)) => laidX u.1 slots u.2.2.1 f u.2.2.2.1 u.2.2.2.2.1 u.2.2.2.2.2.1 u.2.2.2.2.2.2.1 u.2.2.2.2.2.2.2.1 u.2.2.2.2.2.2.2.2.1 u.2.2.2.2.2.2.2.2.2.1 u.2.1 len ∧ sixes u.2.2.2.2.2.1) (fun (u : Int32 × Int32 × Int32 × (Nat → Int32) × (Nat → Int32) × (Nat → Int32) × (Nat → Int32) × (Nat → Int32) × (Nat → Int32) × (Nat → Int32) × Int32 × Int32 × Int32 × (Nat → Int32) × (Nat → Int32)) (t : State) => va_P (dC, dI) vwCl [kx_4 m_ q_row q_t t_ h0 k0 w_ z_ slots u.1, kx_2 q_t q_row q_joined q_from q_to q_size q_lossOf q_lessBy q_value q_number u.2.1 u.2.2.1, kx_0 q_row q_cell len, kx_a q_cell cyI 160 f, kx_a q_from cyI 319 u.2.2.2.1, kx_a q_to cyI 319 u.2.2.2.2.1, kx_a q_size cyI 319 u.2.2.2.2.2.1, kx_a q_lossOf cyI 319 u.2.2.2.2.2.2.1, kx_a q_lessBy cyI 319 u.2.2.2.2.2.2.2.1, kx_a q_value cyI 1914 u.2.2.2.2.2.2.2.2.1, kx_a q_number cyI 1914 u.2.2.2.2.2.2.2.2.2.1, kx_3 q_joined j_v j_n u.2.2.2.2.2.2.2.2.2.2.1 u.2.2.2.2.2.2.2.2.2.2.2.1 u.2.2.2.2.2.2.2.2.2.2.2.2.1, kx_a j_v cyI 12 u.2.2.2.2.2.2.2.2.2.2.2.2.2.1, kx_a j_n cyI 12 u.2.2.2.2.2.2.2.2.2.2.2.2.2.2] t.heap ∧ va_K (dC, dI) vwCl [(cyI, .int)] t ∧ va_D (va_A [kx_4 m_ q_row q_t t_ h0 k0 w_ z_ slots old, kx_2 q_t q_row q_joined q_from q_to q_size q_lossOf q_lessBy q_value q_number nodes here, kx_0 q_row q_cell len, kx_a q_cell cyI 160 f, kx_a q_from cyI 319 ff, kx_a q_to cyI 319 ft, kx_a q_size cyI 319 fs, kx_a q_lossOf cyI 319 fo, kx_a q_lessBy cyI 319 fe, kx_a q_value cyI 1914 uv, kx_a q_number cyI 1914 un, kx_3 q_joined j_v j_n js jl je, kx_a j_v cyI 12 jv, kx_a j_n cyI 12 jn] sz) [kx_4 m_ q_row q_t t_ h0 k0 w_ z_ slots u.1, kx_2 q_t q_row q_joined q_from q_to q_size q_lossOf q_lessBy q_value q_number u.2.1 u.2.2.1, kx_0 q_row q_cell len, kx_a q_cell cyI 160 f, kx_a q_from cyI 319 u.2.2.2.1, kx_a q_to cyI 319 u.2.2.2.2.1, kx_a q_size cyI 319 u.2.2.2.2.2.1, kx_a q_lossOf cyI 319 u.2.2.2.2.2.2.1, kx_a q_lessBy cyI 319 u.2.2.2.2.2.2.2.1, kx_a q_value cyI 1914 u.2.2.2.2.2.2.2.2.1, kx_a q_number cyI 1914 u.2.2.2.2.2.2.2.2.2.1, kx_3 q_joined j_v j_n u.2.2.2.2.2.2.2.2.2.2.1 u.2.2.2.2.2.2.2.2.2.2.2.1 u.2.2.2.2.2.2.2.2.2.2.2.2.1, kx_a j_v cyI 12 u.2.2.2.2.2.2.2.2.2.2.2.2.2.1, kx_a j_n cyI 12 u.2.2.2.2.2.2.2.2.2.2.2.2.2.2]) (va_A [kx_4 m_ q_row q_t t_ h0 k0 w_ z_ slots old, kx_2 q_t q_row q_joined q_from q_to q_size q_lossOf q_lessBy q_value q_number nodes here, kx_0 q_row q_cell len, kx_a q_cell cyI 160 f, kx_a q_from cyI 319 ff, kx_a q_to cyI 319 ft, kx_a q_size cyI 319 fs, kx_a q_lossOf cyI 319 fo, kx_a q_lessBy cyI 319 fe, kx_a q_value cyI 1914 uv, kx_a q_number cyI 1914 un, kx_3 q_joined j_v j_n js jl je, kx_a j_v cyI 12 jv, kx_a j_n cyI 12 jn] sz)) 0 0 (va_A [kx_4 m_ q_row q_t t_ h0 k0 w_ z_ slots old, kx_2 q_t q_row q_joined q_from q_to q_size q_lossOf q_lessBy q_value q_number nodes here, kx_0 q_row q_cell len, kx_a q_cell cyI 160 f, kx_a q_from cyI 319 ff, kx_a q_to cyI 319 ft, kx_a q_size cyI 319 fs, kx_a q_lossOf cyI 319 fo, kx_a q_lessBy cyI 319 fe, kx_a q_value cyI 1914 uv, kx_a q_number cyI 1914 un, kx_3 q_joined j_v j_n js jl je, kx_a j_v cyI 12 jv, kx_a j_n cyI 12 jn] sz) := by
  refine Met.ofW (cc := cX4_told) (maxL := 2) (ret := (some .int)) (by decide) rfl ?_
  intro p e s m args below meth c s₁ B hml hv
  obtain ⟨rfl, hsz, hP, hK, hD0, hN0⟩ := hv
  have hx := B.exec
  have hb := B.bytes
  have hr := B.returns
  have hts := atoms_spec (ws := wsX4_told) B.pre
  have hown : s.vm.findClass RX4 = some m.cls := findClass_of_methodNamed B.named
  have hlocks := B.notSynchronized
  subst hsz
  have hD := hD0.self (sz := s.heap.size)
  generalize hAe : va_A [kx_4 m_ q_row q_t t_ h0 k0 w_ z_ slots old, kx_2 q_t q_row q_joined q_from q_to q_size q_lossOf q_lessBy q_value q_number nodes here, kx_0 q_row q_cell len, kx_a q_cell cyI 160 f, kx_a q_from cyI 319 ff, kx_a q_to cyI 319 ft, kx_a q_size cyI 319 fs, kx_a q_lossOf cyI 319 fo, kx_a q_lessBy cyI 319 fe, kx_a q_value cyI 1914 uv, kx_a q_number cyI 1914 un, kx_3 q_joined j_v j_n js jl je, kx_a j_v cyI 12 jv, kx_a j_n cyI 12 jn] s.heap.size = A at hD ⊢
  have hA : ∀ q : Nat, s.heap.size ≤ q → A q := fun q h => by rw [← hAe]; exact Or.inr h
  have hS : va_S A s.heap s.heap [] := va_S.rf
  have hP : va_P (dC, dI) vwCl [kx_4 m_ q_row q_t t_ h0 k0 w_ z_ slots old, kx_2 q_t q_row q_joined q_from q_to q_size q_lossOf q_lessBy q_value q_number nodes here, kx_0 q_row q_cell len, kx_a q_cell cyI 160 f, kx_a q_from cyI 319 ff, kx_a q_to cyI 319 ft, kx_a q_size cyI 319 fs, kx_a q_lossOf cyI 319 fo, kx_a q_lessBy cyI 319 fe, kx_a q_value cyI 1914 uv, kx_a q_number cyI 1914 un, kx_3 q_joined j_v j_n js jl je, kx_a j_v cyI 12 jv, kx_a j_n cyI 12 jn] s.heap := hP
  have hl := lv_entry ([.ref m_, .int p0]) (n := 2) (Nat.le_of_ble_eq_true rfl)
  rw [lg_entry_eq]
  generalize (lg_sl ([.ref m_, .int p0]) ++ List.replicate (2 - (lg_sl ([.ref m_, .int p0])).length) Slot.unset).toArray = ls at hl ⊢
  have hl : lv_has ls 2 [(0, .ref m_), (1, .int p0)] := hl
  have hf_12 := hts (.fieldLink RX4 12 "MajorityIndex" "row" "LMajorityIndex$Row;") (List.mem_of_getElem? (i := 1) rfl)
  have hi_4 : ∀ w ∈ u_ws RX4 TX4 9, w ∈ wsX4_told := fun w h => List.mem_cons_of_mem _ (List.mem_append_left _ (List.mem_append_left _ (List.mem_append_left _ (List.mem_append_right _ h))))
  have hf_57 := hts (.fieldLink RX4 57 "MajorityIndex$Row" "length" "I") (List.mem_of_getElem? (i := 2) rfl)
  have hi_0 : ∀ w ∈ u_ws RX0 TX0 2, w ∈ wsX4_told := fun w h => List.mem_cons_of_mem _ (List.mem_append_left _ (List.mem_append_left _ (List.mem_append_right _ h)))
  have hf_49 := hts (.fieldLink RX4 49 "MajorityIndex" "slotsNow" "I") (List.mem_of_getElem? (i := 3) rfl)
  have hf_163 := hts (.fieldLink RX4 163 "MajorityIndex$Tree" "nodes" "I") (List.mem_of_getElem? (i := 4) rfl)
  have hi_2 : ∀ w ∈ u_ws RX2 TX2 11, w ∈ wsX4_told := fun w h => List.mem_cons_of_mem _ (List.mem_append_left _ (List.mem_append_right _ h))
  have hf_139 := hts (.fieldLink RX4 139 "MajorityIndex$Tree" "lossOf" "[I") (List.mem_of_getElem? (i := 5) rfl)
  refine lv_iload_n hx hb dX4_told_0 rfl (lv_at hl 1 rfl) ?_
  by_cases s_1 : p0.toInt = 0
  · refine lv_tableIn (tgt := 44) (off := 43) hx hb dX4_told_1 (om_161 s_1) (om_210 s_1) (by rw [s_1]; rfl) (by decide) ?_
    refine lv_aload_n hx hb dX4_told_44 rfl (lv_at hl 0 rfl) ?_
    refine va_get (D := (dC, dI)) (ci := 4) (v := .ref q_row) (C := RX4) (T := TX4) (N := 9) hx hb hts hi_4 hown hK hP 0 rfl rfl 0 (by decide) hf_12 (fun _ h9 => h9) rfl dX4_told_45 ?_
    refine va_get (D := (dC, dI)) (ci := 0) (v := .int len) (C := RX0) (T := TX0) (N := 2) hx hb hts hi_0 hown hK hP 2 rfl rfl 1 (by decide) hf_57 (fun _ h9 => h9) rfl dX4_told_48 ?_
    have hP9 := hP
    have hD9 := hD
    have hK9 := hK
    exact W.iret (v := len) hx hb hr (hlocks := hlocks) (fun t ht hW => ⟨⟨len, (old, nodes, here, ff, ft, fs, fo, fe, uv, un, js, jl, je, jv, jn), rfl, ⟨l0, s0⟩, by rw [ht]; exact hP9, va_K.moved hW.alike hK9, hD9⟩, hS.F ht⟩) hS.2.2 dX4_told_51
  by_cases s_2 : p0.toInt = 1
  · refine lv_tableIn (tgt := 52) (off := 51) hx hb dX4_told_1 (om_163 s_2) (om_211 s_2) (by rw [s_2]; rfl) (by decide) ?_
    refine lv_aload_n hx hb dX4_told_52 rfl (lv_at hl 0 rfl) ?_
    refine va_get (D := (dC, dI)) (ci := 4) (v := .int slots) (C := RX4) (T := TX4) (N := 9) hx hb hts hi_4 hown hK hP 0 rfl rfl 7 (by decide) hf_49 (fun _ h9 => h9) rfl dX4_told_53 ?_
    have hP9 := hP
    have hD9 := hD
    have hK9 := hK
    exact W.iret (v := slots) hx hb hr (hlocks := hlocks) (fun t ht hW => ⟨⟨slots, (old, nodes, here, ff, ft, fs, fo, fe, uv, un, js, jl, je, jv, jn), rfl, ⟨l0, s0⟩, by rw [ht]; exact hP9, va_K.moved hW.alike hK9, hD9⟩, hS.F ht⟩) hS.2.2 dX4_told_56
  by_cases s_3 : p0.toInt = 2
  · refine lv_tableIn (tgt := 57) (off := 56) hx hb dX4_told_1 (om_165 s_3) (om_212 s_3) (by rw [s_3]; rfl) (by decide) ?_
    refine lv_aload_n hx hb dX4_told_57 rfl (lv_at hl 0 rfl) ?_
    have hPc := hP
    have hKc := hK
    have hDc := hD
    have hFc := kx_free hD hS hA
    refine va_callr (va_runV (As := []) (rest := []) ⟨hx, hb, hml, hown, hts⟩ (kx_un (c_X4_laidTree_x l dC dI m_ q_row q_t t_ h0 k0 w_ z_ slots old q_joined q_from q_to q_size q_lossOf q_lessBy q_value q_number nodes here q_cell cyI len f ff ft fs fo uv un fe j_v j_n js jl je jv jn s.heap.size a0 a1 s0 sl0 sl1 l0)) (cwV 0 hts gX4_told_X4_laidTree rfl rfl rfl (by decide +kernel) ⟨Nat.le_of_ble_eq_true rfl, Nat.le_of_ble_eq_true rfl⟩) ⟨fun a U g mk q => by obtain ⟨q0, q1, qP, qK, qD⟩ := q; exact ⟨q0, q1, qP, va_K.moved (u := U) (U := U.calling g mk a) (Vm.Alike.refl U.vm) qK, qD⟩, kx_rc4 hKc hPc (q0 := 0) rfl, fun U hU hW => ⟨rfl, by rw [hU], by rw [hU]; exact hPc, va_K.moved hW.alike hKc, hDc.weaken (fun _ _ _ _ => trivial)⟩⟩ rfl rfl hl.1 rfl (lv_room (Nat.le_of_ble_eq_true rfl)) dX4_told_58 ⟨Nat.le_of_ble_eq_true rfl, Nat.le_of_ble_eq_true rfl⟩) hS (fun q _ h => hFc q h) hFc (fun u ra t H1 locs ht hvm w_4 hB hz1 hk1 hS => ?_)
    obtain ⟨o_5, o_6, o_7, o_8, o_9, o_10, o_11, o_12, o_13, o_14, o_15, o_16, o_17, o_18, o_19⟩ := u
    dsimp only at w_4 hB
    obtain ⟨er, hP1, hK1, hD1⟩ := hB
    rw [ht] at hP1
    have hK1 := va_K.moved hvm.symm hK1
    have hD := hD1.weaken (fun _ q _ h => hFc q.1 h)
    have hP := hP1
    clear hP1 hD1 hK1 hk1 hz1 hFc hDc hPc hKc
    generalize H1 = H at hP hS ⊢
    have w_4 : o_5.toInt = 0 ∧ o_7 = slots ∧ sixes o_10 ∧ mj_C slots.toNatClampNeg f o_8 o_9 o_10 o_11 o_12 o_13 o_14 o_6.toInt len.toInt ∧ 0 ≤ o_6.toInt ∧ o_6.toInt ≤ 319 ∧ treeOk o_8 o_9 o_6.toInt len.toInt := w_4
    rw [er]
    refine va_get (D := (dC, dI)) (ci := 2) (v := .int o_6) (C := RX2) (T := TX2) (N := 11) hx hb hts hi_2 hown hK hP 1 rfl rfl 9 (by decide) hf_163 (fun _ h9 => h9) rfl dX4_told_61 ?_
    have hP9 := hP
    have hD9 := hD
    have hK9 := hK
    exact W.iret (v := o_6) hx hb hr (hlocks := hlocks) (fun t ht hW => ⟨⟨o_6, (o_5, o_6, o_7, o_8, o_9, o_10, o_11, o_12, o_13, o_14, o_15, o_16, o_17, o_18, o_19), rfl, ⟨(fun _ => ⟨w_4.2.1, w_4.2.2.2.1⟩), w_4.2.2.1⟩, by rw [ht]; exact hP9, va_K.moved hW.alike hK9, hD9⟩, hS.F ht⟩) hS.2.2 dX4_told_64
  by_cases s_20 : p0.toInt = 3
  · refine lv_tableIn (tgt := 65) (off := 64) hx hb dX4_told_1 (om_213 s_20) (om_214 s_20) (by rw [s_20]; rfl) (by decide) ?_
    refine lv_aload_n hx hb dX4_told_65 rfl (lv_at hl 0 rfl) ?_
    have hPc := hP
    have hKc := hK
    have hDc := hD
    have hFc := kx_free hD hS hA
    refine va_callr (va_runV (As := []) (rest := []) ⟨hx, hb, hml, hown, hts⟩ (kx_un (c_X4_laidTree_x l dC dI m_ q_row q_t t_ h0 k0 w_ z_ slots old q_joined q_from q_to q_size q_lossOf q_lessBy q_value q_number nodes here q_cell cyI len f ff ft fs fo uv un fe j_v j_n js jl je jv jn s.heap.size a0 a1 s0 sl0 sl1 l0)) (cwV 0 hts gX4_told_X4_laidTree rfl rfl rfl (by decide +kernel) ⟨Nat.le_of_ble_eq_true rfl, Nat.le_of_ble_eq_true rfl⟩) ⟨fun a U g mk q => by obtain ⟨q0, q1, qP, qK, qD⟩ := q; exact ⟨q0, q1, qP, va_K.moved (u := U) (U := U.calling g mk a) (Vm.Alike.refl U.vm) qK, qD⟩, kx_rc4 hKc hPc (q0 := 0) rfl, fun U hU hW => ⟨rfl, by rw [hU], by rw [hU]; exact hPc, va_K.moved hW.alike hKc, hDc.weaken (fun _ _ _ _ => trivial)⟩⟩ rfl rfl hl.1 rfl (lv_room (Nat.le_of_ble_eq_true rfl)) dX4_told_66 ⟨Nat.le_of_ble_eq_true rfl, Nat.le_of_ble_eq_true rfl⟩) hS (fun q _ h => hFc q h) hFc (fun u ra t H1 locs ht hvm w_21 hB hz1 hk1 hS => ?_)
    obtain ⟨o_22, o_23, o_24, o_25, o_26, o_27, o_28, o_29, o_30, o_31, o_32, o_33, o_34, o_35, o_36⟩ := u
    dsimp only at w_21 hB
    obtain ⟨er, hP1, hK1, hD1⟩ := hB
    rw [ht] at hP1
    have hK1 := va_K.moved hvm.symm hK1
    have hD := hD1.weaken (fun _ q _ h => hFc q.1 h)
    have hP := hP1
    clear hP1 hD1 hK1 hk1 hz1 hFc hDc hPc hKc
    generalize H1 = H at hP hS ⊢
    have w_21 : o_22.toInt = 0 ∧ o_24 = slots ∧ sixes o_27 ∧ mj_C slots.toNatClampNeg f o_25 o_26 o_27 o_28 o_29 o_30 o_31 o_23.toInt len.toInt ∧ 0 ≤ o_23.toInt ∧ o_23.toInt ≤ 319 ∧ treeOk o_25 o_26 o_23.toInt len.toInt := w_21
    rw [er]
    have hPc := hP.sub (ws' := [kx_2 q_t q_row q_joined q_from q_to q_size q_lossOf q_lessBy q_value q_number o_23 o_24, kx_0 q_row q_cell len, kx_a q_cell cyI 160 f, kx_a q_from cyI 319 o_25, kx_a q_to cyI 319 o_26]) [1, 2, 3, 4, 5] rfl
    have hKc := hK
    refine vp_callSi (W.runV (As := []) (rest := []) ⟨hx, hb, hml, hown, hts⟩ (c_X2_nodesWithMajority l dC dI q_t q_row q_joined q_from q_to q_size q_lossOf q_lessBy q_value q_number o_23 o_24 q_cell cyI len f o_25 o_26 w_21.2.2.2.2.1 w_21.2.2.2.2.2.1 a1 w_21.2.2.2.2.2.2) (cwV 0 hts gX4_told_X2_nodesWithMajority rfl rfl rfl (by decide +kernel) ⟨Nat.le_of_ble_eq_true rfl, Nat.le_of_ble_eq_true rfl⟩) ⟨fun a U g mk q => by obtain ⟨q0, qP, qK, qn0⟩ := q; exact ⟨q0, qP, va_K.moved (u := U) (U := U.calling g mk a) (Vm.Alike.refl U.vm) qK, va_Nw.same (u := U) (U := U.calling g mk a) rfl rfl qn0⟩, kx_rc2 hKc hPc (q0 := 0) rfl, fun U hU hW => ⟨rfl, by rw [hU]; exact hPc, va_K.moved hW.alike hKc, va_Nw.warmM hW hN0⟩⟩ rfl rfl hl.1 rfl (lv_room (Nat.le_of_ble_eq_true rfl)) dX4_told_69 ⟨Nat.le_of_ble_eq_true rfl, Nat.le_of_ble_eq_true rfl⟩) (fun r_37 w_37 => ?_)
    have hP9 := hP
    have hD9 := hD
    have hK9 := hK
    exact W.iret (v := r_37) hx hb hr (hlocks := hlocks) (fun t ht hW => ⟨⟨r_37, (o_22, o_23, o_24, o_25, o_26, o_27, o_28, o_29, o_30, o_31, o_32, o_33, o_34, o_35, o_36), rfl, ⟨(fun _ => ⟨w_21.2.1, w_21.2.2.2.1⟩), w_21.2.2.1⟩, by rw [ht]; exact hP9, va_K.moved hW.alike hK9, hD9⟩, hS.F ht⟩) hS.2.2 dX4_told_72
  by_cases s_38 : p0.toInt = 4
  · refine lv_tableIn (tgt := 73) (off := 72) hx hb dX4_told_1 (om_215 s_38) (om_216 s_38) (by rw [s_38]; rfl) (by decide) ?_
    refine lv_aload_n hx hb dX4_told_73 rfl (lv_at hl 0 rfl) ?_
    have hPc := hP
    have hKc := hK
    have hDc := hD
    have hFc := kx_free hD hS hA
    refine va_callr (va_runV (As := []) (rest := []) ⟨hx, hb, hml, hown, hts⟩ (kx_un (c_X4_laidTree_x l dC dI m_ q_row q_t t_ h0 k0 w_ z_ slots old q_joined q_from q_to q_size q_lossOf q_lessBy q_value q_number nodes here q_cell cyI len f ff ft fs fo uv un fe j_v j_n js jl je jv jn s.heap.size a0 a1 s0 sl0 sl1 l0)) (cwV 0 hts gX4_told_X4_laidTree rfl rfl rfl (by decide +kernel) ⟨Nat.le_of_ble_eq_true rfl, Nat.le_of_ble_eq_true rfl⟩) ⟨fun a U g mk q => by obtain ⟨q0, q1, qP, qK, qD⟩ := q; exact ⟨q0, q1, qP, va_K.moved (u := U) (U := U.calling g mk a) (Vm.Alike.refl U.vm) qK, qD⟩, kx_rc4 hKc hPc (q0 := 0) rfl, fun U hU hW => ⟨rfl, by rw [hU], by rw [hU]; exact hPc, va_K.moved hW.alike hKc, hDc.weaken (fun _ _ _ _ => trivial)⟩⟩ rfl rfl hl.1 rfl (lv_room (Nat.le_of_ble_eq_true rfl)) dX4_told_74 ⟨Nat.le_of_ble_eq_true rfl, Nat.le_of_ble_eq_true rfl⟩) hS (fun q _ h => hFc q h) hFc (fun u ra t H1 locs ht hvm w_39 hB hz1 hk1 hS => ?_)
    obtain ⟨o_40, o_41, o_42, o_43, o_44, o_45, o_46, o_47, o_48, o_49, o_50, o_51, o_52, o_53, o_54⟩ := u
    dsimp only at w_39 hB
    obtain ⟨er, hP1, hK1, hD1⟩ := hB
    rw [ht] at hP1
    have hK1 := va_K.moved hvm.symm hK1
    have hD := hD1.weaken (fun _ q _ h => hFc q.1 h)
    have hP := hP1
    clear hP1 hD1 hK1 hk1 hz1 hFc hDc hPc hKc
    generalize H1 = H at hP hS ⊢
    have w_39 : o_40.toInt = 0 ∧ o_42 = slots ∧ sixes o_45 ∧ mj_C slots.toNatClampNeg f o_43 o_44 o_45 o_46 o_47 o_48 o_49 o_41.toInt len.toInt ∧ 0 ≤ o_41.toInt ∧ o_41.toInt ≤ 319 ∧ treeOk o_43 o_44 o_41.toInt len.toInt := w_39
    rw [er]
    have hPc := hP.sub (ws' := [kx_2 q_t q_row q_joined q_from q_to q_size q_lossOf q_lessBy q_value q_number o_41 o_42, kx_0 q_row q_cell len]) [1, 2] rfl
    have hKc := hK.sub (tys' := []) [] rfl
    refine vp_callSi (W.runV (As := []) (rest := []) ⟨hx, hb, hml, hown, hts⟩ (c_X2_deepest l dC dI q_t q_row q_joined q_from q_to q_size q_lossOf q_lessBy q_value q_number o_41 o_42 q_cell len a0 a1) (cwV 0 hts gX4_told_X2_deepest rfl rfl rfl (by decide +kernel) ⟨Nat.le_of_ble_eq_true rfl, Nat.le_of_ble_eq_true rfl⟩) ⟨fun a U g mk q => by obtain ⟨q0, qP, qK⟩ := q; exact ⟨q0, qP, va_K.moved (u := U) (U := U.calling g mk a) (Vm.Alike.refl U.vm) qK⟩, kx_rc2 hKc hPc (q0 := 0) rfl, fun U hU hW => ⟨rfl, by rw [hU]; exact hPc, va_K.moved hW.alike hKc⟩⟩ rfl rfl hl.1 rfl (lv_room (Nat.le_of_ble_eq_true rfl)) dX4_told_77 ⟨Nat.le_of_ble_eq_true rfl, Nat.le_of_ble_eq_true rfl⟩) (fun r_55 w_55 => ?_)
    have hP9 := hP
    have hD9 := hD
    have hK9 := hK
    exact W.iret (v := r_55) hx hb hr (hlocks := hlocks) (fun t ht hW => ⟨⟨r_55, (o_40, o_41, o_42, o_43, o_44, o_45, o_46, o_47, o_48, o_49, o_50, o_51, o_52, o_53, o_54), rfl, ⟨(fun _ => ⟨w_39.2.1, w_39.2.2.2.1⟩), w_39.2.2.1⟩, by rw [ht]; exact hP9, va_K.moved hW.alike hK9, hD9⟩, hS.F ht⟩) hS.2.2 dX4_told_80
  by_cases s_56 : p0.toInt = 5
  · refine lv_tableIn (tgt := 81) (off := 80) hx hb dX4_told_1 (om_217 s_56) (om_218 s_56) (by rw [s_56]; rfl) (by decide) ?_
    refine lv_aload_n hx hb dX4_told_81 rfl (lv_at hl 0 rfl) ?_
    refine va_get (D := (dC, dI)) (ci := 4) (v := .ref q_row) (C := RX4) (T := TX4) (N := 9) hx hb hts hi_4 hown hK hP 0 rfl rfl 0 (by decide) hf_12 (fun _ h9 => h9) rfl dX4_told_82 ?_
    refine va_get (D := (dC, dI)) (ci := 0) (v := .int len) (C := RX0) (T := TX0) (N := 2) hx hb hts hi_0 hown hK hP 2 rfl rfl 1 (by decide) hf_57 (fun _ h9 => h9) rfl dX4_told_85 ?_
    refine lv_if_ne (tgt := 95) hx hb dX4_told_88 (by decide) (fun c_57 => ?_) (fun c_57 => ?_)
    · have i_57 : ¬ len.toInt = 0 := kc_ne c_57
      refine lv_aload_n hx hb dX4_told_95 rfl (lv_at hl 0 rfl) ?_
      have hPc := hP
      have hKc := hK
      have hDc := hD
      have hFc := kx_free hD hS hA
      refine va_callr (va_runV (As := []) (rest := []) ⟨hx, hb, hml, hown, hts⟩ (kx_un (c_X4_laidTree_x l dC dI m_ q_row q_t t_ h0 k0 w_ z_ slots old q_joined q_from q_to q_size q_lossOf q_lessBy q_value q_number nodes here q_cell cyI len f ff ft fs fo uv un fe j_v j_n js jl je jv jn s.heap.size a0 a1 s0 sl0 sl1 l0)) (cwV 0 hts gX4_told_X4_laidTree rfl rfl rfl (by decide +kernel) ⟨Nat.le_of_ble_eq_true rfl, Nat.le_of_ble_eq_true rfl⟩) ⟨fun a U g mk q => by obtain ⟨q0, q1, qP, qK, qD⟩ := q; exact ⟨q0, q1, qP, va_K.moved (u := U) (U := U.calling g mk a) (Vm.Alike.refl U.vm) qK, qD⟩, kx_rc4 hKc hPc (q0 := 0) rfl, fun U hU hW => ⟨rfl, by rw [hU], by rw [hU]; exact hPc, va_K.moved hW.alike hKc, hDc.weaken (fun _ _ _ _ => trivial)⟩⟩ rfl rfl hl.1 rfl (lv_room (Nat.le_of_ble_eq_true rfl)) dX4_told_96 ⟨Nat.le_of_ble_eq_true rfl, Nat.le_of_ble_eq_true rfl⟩) hS (fun q _ h => hFc q h) hFc (fun u ra t H1 locs ht hvm w_58 hB hz1 hk1 hS => ?_)
      obtain ⟨o_59, o_60, o_61, o_62, o_63, o_64, o_65, o_66, o_67, o_68, o_69, o_70, o_71, o_72, o_73⟩ := u
      dsimp only at w_58 hB
      obtain ⟨er, hP1, hK1, hD1⟩ := hB
      rw [ht] at hP1
      have hK1 := va_K.moved hvm.symm hK1
      have hD := hD1.weaken (fun _ q _ h => hFc q.1 h)
      have hP := hP1
      clear hP1 hD1 hK1 hk1 hz1 hFc hDc hPc hKc
      generalize H1 = H at hP hS ⊢
      have w_58 : o_59.toInt = 0 ∧ o_61 = slots ∧ sixes o_64 ∧ mj_C slots.toNatClampNeg f o_62 o_63 o_64 o_65 o_66 o_67 o_68 o_60.toInt len.toInt ∧ 0 ≤ o_60.toInt ∧ o_60.toInt ≤ 319 ∧ treeOk o_62 o_63 o_60.toInt len.toInt := w_58
      rw [er]
      refine va_get (D := (dC, dI)) (ci := 2) (v := .ref q_lossOf) (C := RX2) (T := TX2) (N := 11) hx hb hts hi_2 hown hK hP 1 rfl rfl 5 (by decide) hf_139 (fun _ h9 => h9) rfl dX4_told_99 ?_
      refine lv_iconst (v := 0) hx hb dX4_told_102 (by decide) ?_
      refine va_iald hx hb hK hP 7 0 rfl rfl (ki_inl (by decide)) dX4_told_103 ?_
      refine lv_topi (fun y_74 ey_74 => ?_)
      have j_74 : y_74.toInt = (o_65 (0 : Int32).toNatClampNeg).toInt := congrArg Int32.toInt ey_74
      have hP9 := hP
      have hD9 := hD
      have hK9 := hK
      exact W.iret (v := y_74) hx hb hr (hlocks := hlocks) (fun t ht hW => ⟨⟨y_74, (o_59, o_60, o_61, o_62, o_63, o_64, o_65, o_66, o_67, o_68, o_69, o_70, o_71, o_72, o_73), rfl, ⟨(fun _ => ⟨w_58.2.1, w_58.2.2.2.1⟩), w_58.2.2.1⟩, by rw [ht]; exact hP9, va_K.moved hW.alike hK9, hD9⟩, hS.F ht⟩) hS.2.2 dX4_told_104
    · have i_57 : len.toInt = 0 := kc_eq c_57
      refine lv_iconst (v := 0) hx hb dX4_told_91 (by decide) ?_
      refine lv_goto (tgt := 104) hx hb dX4_told_92 (by decide) ?_
      have hP9 := hP
      have hD9 := hD
      have hK9 := hK
      exact W.iret (v := 0) hx hb hr (hlocks := hlocks) (fun t ht hW => ⟨⟨0, (old, nodes, here, ff, ft, fs, fo, fe, uv, un, js, jl, je, jv, jn), rfl, ⟨l0, s0⟩, by rw [ht]; exact hP9, va_K.moved hW.alike hK9, hD9⟩, hS.F ht⟩) hS.2.2 dX4_told_104
  by_cases s_75 : p0.toInt = 6
  · refine lv_tableIn (tgt := 105) (off := 104) hx hb dX4_told_1 (om_219 s_75) (om_220 s_75) (by rw [s_75]; rfl) (by decide) ?_
    refine lv_aload_n hx hb dX4_told_105 rfl (lv_at hl 0 rfl) ?_
    have hPc := hP
    have hKc := hK
    have hDc := hD
    have hFc := kx_free hD hS hA
    refine va_callr (va_runV (As := []) (rest := []) ⟨hx, hb, hml, hown, hts⟩ (kx_un (c_X4_laidTree_x l dC dI m_ q_row q_t t_ h0 k0 w_ z_ slots old q_joined q_from q_to q_size q_lossOf q_lessBy q_value q_number nodes here q_cell cyI len f ff ft fs fo uv un fe j_v j_n js jl je jv jn s.heap.size a0 a1 s0 sl0 sl1 l0)) (cwV 0 hts gX4_told_X4_laidTree rfl rfl rfl (by decide +kernel) ⟨Nat.le_of_ble_eq_true rfl, Nat.le_of_ble_eq_true rfl⟩) ⟨fun a U g mk q => by obtain ⟨q0, q1, qP, qK, qD⟩ := q; exact ⟨q0, q1, qP, va_K.moved (u := U) (U := U.calling g mk a) (Vm.Alike.refl U.vm) qK, qD⟩, kx_rc4 hKc hPc (q0 := 0) rfl, fun U hU hW => ⟨rfl, by rw [hU], by rw [hU]; exact hPc, va_K.moved hW.alike hKc, hDc.weaken (fun _ _ _ _ => trivial)⟩⟩ rfl rfl hl.1 rfl (lv_room (Nat.le_of_ble_eq_true rfl)) dX4_told_106 ⟨Nat.le_of_ble_eq_true rfl, Nat.le_of_ble_eq_true rfl⟩) hS (fun q _ h => hFc q h) hFc (fun u ra t H1 locs ht hvm w_76 hB hz1 hk1 hS => ?_)
    obtain ⟨o_77, o_78, o_79, o_80, o_81, o_82, o_83, o_84, o_85, o_86, o_87, o_88, o_89, o_90, o_91⟩ := u
    dsimp only at w_76 hB
    obtain ⟨er, hP1, hK1, hD1⟩ := hB
    rw [ht] at hP1
    have hK1 := va_K.moved hvm.symm hK1
    have hD := hD1.weaken (fun _ q _ h => hFc q.1 h)
    have hP := hP1
    clear hP1 hD1 hK1 hk1 hz1 hFc hDc hPc hKc
    generalize H1 = H at hP hS ⊢
    have w_76 : o_77.toInt = 0 ∧ o_79 = slots ∧ sixes o_82 ∧ mj_C slots.toNatClampNeg f o_80 o_81 o_82 o_83 o_84 o_85 o_86 o_78.toInt len.toInt ∧ 0 ≤ o_78.toInt ∧ o_78.toInt ≤ 319 ∧ treeOk o_80 o_81 o_78.toInt len.toInt := w_76
    rw [er]
    have hPc := hP.sub (ws' := [kx_2 q_t q_row q_joined q_from q_to q_size q_lossOf q_lessBy q_value q_number o_78 o_79, kx_a q_lossOf cyI 319 o_83]) [1, 7] rfl
    have hKc := hK
    refine vp_callSi (W.runV (As := []) (rest := []) ⟨hx, hb, hml, hown, hts⟩ (c_X2_allLosses l dC dI q_t q_row q_joined q_from q_to q_size q_lossOf q_lessBy q_value q_number o_78 o_79 cyI o_83 w_76.2.2.2.2.1 w_76.2.2.2.2.2.1) (cwV 0 hts gX4_told_X2_allLosses rfl rfl rfl (by decide +kernel) ⟨Nat.le_of_ble_eq_true rfl, Nat.le_of_ble_eq_true rfl⟩) ⟨fun a U g mk q => by obtain ⟨q0, qP, qK⟩ := q; exact ⟨q0, qP, va_K.moved (u := U) (U := U.calling g mk a) (Vm.Alike.refl U.vm) qK⟩, kx_rc2 hKc hPc (q0 := 0) rfl, fun U hU hW => ⟨rfl, by rw [hU]; exact hPc, va_K.moved hW.alike hKc⟩⟩ rfl rfl hl.1 rfl (lv_room (Nat.le_of_ble_eq_true rfl)) dX4_told_109 ⟨Nat.le_of_ble_eq_true rfl, Nat.le_of_ble_eq_true rfl⟩) (fun r_92 w_92 => ?_)
    have hP9 := hP
    have hD9 := hD
    have hK9 := hK
    exact W.iret (v := r_92) hx hb hr (hlocks := hlocks) (fun t ht hW => ⟨⟨r_92, (o_77, o_78, o_79, o_80, o_81, o_82, o_83, o_84, o_85, o_86, o_87, o_88, o_89, o_90, o_91), rfl, ⟨(fun _ => ⟨w_76.2.1, w_76.2.2.2.1⟩), w_76.2.2.1⟩, by rw [ht]; exact hP9, va_K.moved hW.alike hK9, hD9⟩, hS.F ht⟩) hS.2.2 dX4_told_112
  refine lv_tableOut (tgt := 113) hx hb dX4_told_1 (by omega) (by decide) ?_
  refine lv_iconst (v := (-1)) hx hb dX4_told_113 (by decide) ?_
  have hP9 := hP
  have hD9 := hD
  have hK9 := hK
  exact W.iret (v := (-1)) hx hb hr (hlocks := hlocks) (fun t ht hW => ⟨⟨(-1), (old, nodes, here, ff, ft, fs, fo, fe, uv, un, js, jl, je, jv, jn), rfl, ⟨l0, s0⟩, by rw [ht]; exact hP9, va_K.moved hW.alike hK9, hD9⟩, hS.F ht⟩) hS.2.2 dX4_told_114

set_option maxHeartbeats 4000000 in
set_option maxRecDepth 100000 in
theorem c_X4_both_x (l : Launch) (dC : Nat → ClassId) (dI : Nat → Nat → Nat) (m_ : Nat) (q_row : Nat) (q_t : Nat) (t_ : Nat) (h0 : Nat) (k0 : Nat) (w_ : Nat) (z_ : Nat) (slots : Int32) (old : Int32) (q_joined : Nat) (q_from : Nat) (q_to : Nat) (q_size : Nat) (q_lossOf : Nat) (q_lessBy : Nat) (q_value : Nat) (q_number : Nat) (nodes : Int32) (here : Int32) (q_cell : Nat) (cyI : ClassId) (len : Int32) (f : Nat → Int32) (ff : Nat → Int32) (ft : Nat → Int32) (fs : Nat → Int32) (fo : Nat → Int32) (uv : Nat → Int32) (un : Nat → Int32) (fe : Nat → Int32) (j_v : Nat) (j_n : Nat) (js : Int32) (jl : Int32) (je : Int32) (jv : Nat → Int32) (jn : Nat → Int32) (a_v : Nat) (a_n : Nat) (vs : Int32) (lo : Int32) (le : Int32) (fv : Nat → Int32) (fn : Nat → Int32) (kv : Nat) (kn : Nat) (sb : Int32) (lb : Int32) (eb : Int32) (gb : Nat → Int32) (nb : Nat → Int32) (p0 : Int32) (p1 : Int32) (p2 : Int32) (p3 : Int32) (p4 : Int32) (p5 : Int32) (sz : Nat) (a0 : 0 ≤ len.toInt) (a1 : len.toInt ≤ 160) (s0 : sixes fs) (sl0 : 1 ≤ slots.toInt) (sl1 : slots.toInt ≤ 6) (l0 : laidX old slots here f ff ft fs fo fe uv un nodes len) : Met l yX4_both wsX4_both ({ frames := 6, cells := 0, slots := 0, locals := 270 }) (va_Pc [.ref m_, .int p0, .int p1, .int p2, .int p3, .int p4, .int p5] (fun U => U.heap.size = sz ∧ va_P (dC, dI) vwCl [kx_4 m_ q_row q_t t_ h0 k0 w_ z_ slots old, kx_2 q_t q_row q_joined q_from q_to q_size q_lossOf q_lessBy q_value q_number nodes here, kx_0 q_row q_cell len, kx_a q_cell cyI 160 f, kx_a q_from cyI 319 ff, kx_a q_to cyI 319 ft, kx_a q_size cyI 319 fs, kx_a q_lossOf cyI 319 fo, kx_a q_lessBy cyI 319 fe, kx_a q_value cyI 1914 uv, kx_a q_number cyI 1914 un, kx_3 q_joined j_v j_n js jl je, kx_a j_v cyI 12 jv, kx_a j_n cyI 12 jn, kx_3 h0 a_v a_n vs lo le, kx_a a_v cyI 12 fv, kx_a a_n cyI 12 fn, kx_3 k0 kv kn sb lb eb, kx_a kv cyI 12 gb, kx_a kn cyI 12 nb] U.heap ∧ va_K (dC, dI) vwCl [(cyI, .int)] U ∧ va_D (fun _ => True) [kx_4 m_ q_row q_t t_ h0 k0 w_ z_ slots old, kx_2 q_t q_row q_joined q_from q_to q_size q_lossOf q_lessBy q_value q_number nodes here, kx_0 q_row q_cell len, kx_a q_cell cyI 160 f, kx_a q_from cyI 319 ff, kx_a q_to cyI 319 ft, kx_a q_size cyI 319 fs, kx_a q_lossOf cyI 319 fo, kx_a q_lessBy cyI 319 fe, kx_a q_value cyI 1914 uv, kx_a q_number cyI 1914 un, kx_3 q_joined j_v j_n js jl je, kx_a j_v cyI 12 jv, kx_a j_n cyI 12 jn, kx_3 h0 a_v a_n vs lo le, kx_a a_v cyI 12 fv, kx_a a_n cyI 12 fn, kx_3 k0 kv kn sb lb eb, kx_a kv cyI 12 gb, kx_a kn cyI 12 nb] ∧ va_Nw (.methodLinkNest RX3 42 yX4_isHeavy RX4) U)) (va_Qi (fun (r : Int32) (u : Int32 × Int32 × Int32 × (Nat → Int32) × (Nat → Int32) × (Nat → Int32) × (Nat → Int32) × (Nat → Int32) × (Nat → Int32) × (Nat → Int32) × Int32 × Int32 × Int32 × (Nat → Int32) × (Nat → Int32) × Int32 × Int32 × Int32 × (Nat → Int32) × (Nat → Int32) × Int32 × Int32 × Int32 × (Nat → Int32) × (Nat → Int32)) => laidX u.1 slots u.2.2.1 f u.2.2.2.1 u.2.2.2.2.1 u.2.2.2.2.2.1 u.2.2.2.2.2.2.1 u.2.2.2.2.2.2.2.1 u.2.2.2.2.2.2.2.2.1 u.2.2.2.2.2.2.2.2.2.1 u.2.1 len ∧ sixes u.2.2.2.2.2.1) (fun (u : Int32 × Int32 × Int32 × (Nat → Int32) × (Nat → Int32) × (Nat → Int32) × (Nat → Int32) × (Nat → Int32) × (Nat → Int32) × (Nat → Int32) × Int32 × Int32 × Int32 × (Nat → Int32) × (Nat → Int32) × Int32 × Int32 × Int32 × (Nat → Int32) × (Nat → Int32) × Int32 × Int32 × Int32 × (Nat → Int32) × (Nat → Int32)) (t : State) => va_P (dC, dI) vwCl [kx_4 m_ q_row q_t t_ h0 k0 w_ z_ slots u.1, kx_2 q_t q_row q_joined q_from q_to q_size q_lossOf q_lessBy q_value q_number u.2.1 u.2.2.1, kx_0 q_row q_cell len, kx_a q_cell cyI 160 f, kx_a q_from cyI 319 u.2.2.2.1, kx_a q_to cyI 319 u.2.2.2.2.1, kx_a q_size cyI 319 u.2.2.2.2.2.1, kx_a q_lossOf cyI 319 u.2.2.2.2.2.2.1, kx_a q_lessBy cyI 319 u.2.2.2.2.2.2.2.1, kx_a q_value cyI 1914 u.2.2.2.2.2.2.2.2.1, kx_a q_number cyI 1914 u.2.2.2.2.2.2.2.2.2.1, kx_3 q_joined j_v j_n u.2.2.2.2.2.2.2.2.2.2.1 u.2.2.2.2.2.2.2.2.2.2.2.1 u.2.2.2.2.2.2.2.2.2.2.2.2.1, kx_a j_v cyI 12 u.2.2.2.2.2.2.2.2.2.2.2.2.2.1, kx_a j_n cyI 12 u.2.2.2.2.2.2.2.2.2.2.2.2.2.2.1, kx_3 h0 a_v a_n u.2.2.2.2.2.2.2.2.2.2.2.2.2.2.2.1 u.2.2.2.2.2.2.2.2.2.2.2.2.2.2.2.2.1 u.2.2.2.2.2.2.2.2.2.2.2.2.2.2.2.2.2.1, kx_a a_v cyI 12 u.2.2.2.2.2.2.2.2.2.2.2.2.2.2.2.2.2.2.1, kx_a a_n cyI 12 u.2.2.2.2.2.2.2.2.2.2.2.2.2.2.2.2.2.2.2.1, kx_3 k0 kv kn u.2.2.2.2.2.2.2.2.2.2.2.2.2.2.2.2.2.2.2.2.1 u.2.2.2.2.2.2.2.2.2.2.2.2.2.2.2.2.2.2.2.2.2.1 u.2.2.2.2.2.2.2.2.2.2.2.2.2.2.2.2.2.2.2.2.2.2.1, kx_a kv cyI 12 u.2.2.2.2.2.2.2.2.2.2.2.2.2.2.2.2.2.2.2.2.2.2.2.1, kx_a kn cyI 12 u.2.2.2.2.2.2.2.2.2.2.2.2.2.2.2.2.2.2.2.2.2.2.2.2] t.heap ∧ va_K (dC, dI) vwCl [(cyI, .int)] t ∧ va_D (va_A [kx_4 m_ q_row q_t t_ h0 k0 w_ z_ slots old, kx_2 q_t q_row q_joined q_from q_to q_size q_lossOf q_lessBy q_value q_number nodes here, kx_0 q_row q_cell len, kx_a q_cell cyI 160 f, kx_a q_from cyI 319 ff, kx_a q_to cyI 319 ft, kx_a q_size cyI 319 fs, kx_a q_lossOf cyI 319 fo, kx_a q_lessBy cyI 319 fe, kx_a q_value cyI 1914 uv, kx_a q_number cyI 1914 un, kx_3 q_joined j_v j_n js jl je, kx_a j_v cyI 12 jv, kx_a j_n cyI 12 jn, kx_3 h0 a_v a_n vs lo le, kx_a a_v cyI 12 fv, kx_a a_n cyI 12 fn, kx_3 k0 kv kn sb lb eb, kx_a kv cyI 12 gb, kx_a kn cyI 12 nb] sz) [kx_4 m_ q_row q_t t_ h0 k0 w_ z_ slots u.1, kx_2 q_t q_row q_joined q_from q_to q_size q_lossOf q_lessBy q_value q_number u.2.1 u.2.2.1, kx_0 q_row q_cell len, kx_a q_cell cyI 160 f, kx_a q_from cyI 319 u.2.2.2.1, kx_a q_to cyI 319 u.2.2.2.2.1, kx_a q_size cyI 319 u.2.2.2.2.2.1, kx_a q_lossOf cyI 319 u.2.2.2.2.2.2.1, kx_a q_lessBy cyI 319 u.2.2.2.2.2.2.2.1, kx_a q_value cyI 1914 u.2.2.2.2.2.2.2.2.1, kx_a q_number cyI 1914 u.2.2.2.2.2.2.2.2.2.1, kx_3 q_joined j_v j_n u.2.2.2.2.2.2.2.2.2.2.1 u.2.2.2.2.2.2.2.2.2.2.2.1 u.2.2.2.2.2.2.2.2.2.2.2.2.1, kx_a j_v cyI 12 u.2.2.2.2.2.2.2.2.2.2.2.2.2.1, kx_a j_n cyI 12 u.2.2.2.2.2.2.2.2.2.2.2.2.2.2.1, kx_3 h0 a_v a_n u.2.2.2.2.2.2.2.2.2.2.2.2.2.2.2.1 u.2.2.2.2.2.2.2.2.2.2.2.2.2.2.2.2.1 u.2.2.2.2.2.2.2.2.2.2.2.2.2.2.2.2.2.1, kx_a a_v cyI 12 u.2.2.2.2.2.2.2.2.2.2.2.2.2.2.2.2.2.2.1, kx_a a_n cyI 12 u.2.2.2.2.2.2.2.2.2.2.2.2.2.2.2.2.2.2.2.1, kx_3 k0 kv kn u.2.2.2.2.2.2.2.2.2.2.2.2.2.2.2.2.2.2.2.2.1 u.2.2.2.2.2.2.2.2.2.2.2.2.2.2.2.2.2.2.2.2.2.1 u.2.2.2.2.2.2.2.2.2.2.2.2.2.2.2.2.2.2.2.2.2.2.1, kx_a kv cyI 12 u.2.2.2.2.2.2.2.2.2.2.2.2.2.2.2.2.2.2.2.2.2.2.2.1, kx_a kn cyI 12 u.2.2.2.2.2.2.2.2.2.2.2.2.2.2.2.2.2.2.2.2.2.2.2.2]) (va_A [kx_4 m_ q_row q_t t_ h0 k0 w_ z_ slots old, kx_2 q_t q_row q_joined q_from q_to q_size q_lossOf q_lessBy q_value q_number nodes here, kx_0 q_row q_cell len, kx_a q_cell cyI 160 f, kx_a q_from cyI 319 ff, kx_a q_to cyI 319 ft, kx_a q_size cyI 319 fs, kx_a q_lossOf cyI 319 fo, kx_a q_lessBy cyI 319 fe, kx_a q_value cyI 1914 uv, kx_a q_number cyI 1914 un, kx_3 q_joined j_v j_n js jl je, kx_a j_v cyI 12 jv, kx_a j_n cyI 12 jn, kx_3 h0 a_v a_n vs lo le, kx_a a_v cyI 12 fv, kx_a a_n cyI 12 fn, kx_3 k0 kv kn sb lb eb, kx_a kv cyI 12 gb, kx_a kn cyI 12 nb] sz)) 0 0 (va_A [kx_4 m_ q_row q_t t_ h0 k0 w_ z_ slots old, kx_2 q_t q_row q_joined q_from q_to q_size q_lossOf q_lessBy q_value q_number nodes here, kx_0 q_row q_cell len, kx_a q_cell cyI 160 f, kx_a q_from cyI 319 ff, kx_a q_to cyI 319 ft, kx_a q_size cyI 319 fs, kx_a q_lossOf cyI 319 fo, kx_a q_lessBy cyI 319 fe, kx_a q_value cyI 1914 uv, kx_a q_number cyI 1914 un, kx_3 q_joined j_v j_n js jl je, kx_a j_v cyI 12 jv, kx_a j_n cyI 12 jn, kx_3 h0 a_v a_n vs lo le, kx_a a_v cyI 12 fv, kx_a a_n cyI 12 fn, kx_3 k0 kv kn sb lb eb, kx_a kv cyI 12 gb, kx_a kn cyI 12 nb] sz) := by
  refine Met.ofW (cc := cX4_both) (maxL := 8) (ret := (some .int)) (by decide) rfl ?_
  intro p e s m args below meth c s₁ B hml hv
  obtain ⟨rfl, hsz, hP, hK, hD0, hN0⟩ := hv
  have hx := B.exec
  have hb := B.bytes
  have hr := B.returns
  have hts := atoms_spec (ws := wsX4_both) B.pre
  have hown : s.vm.findClass RX4 = some m.cls := findClass_of_methodNamed B.named
  have hlocks := B.notSynchronized
  subst hsz
  have hD := hD0.self (sz := s.heap.size)
  generalize hAe : va_A [kx_4 m_ q_row q_t t_ h0 k0 w_ z_ slots old, kx_2 q_t q_row q_joined q_from q_to q_size q_lossOf q_lessBy q_value q_number nodes here, kx_0 q_row q_cell len, kx_a q_cell cyI 160 f, kx_a q_from cyI 319 ff, kx_a q_to cyI 319 ft, kx_a q_size cyI 319 fs, kx_a q_lossOf cyI 319 fo, kx_a q_lessBy cyI 319 fe, kx_a q_value cyI 1914 uv, kx_a q_number cyI 1914 un, kx_3 q_joined j_v j_n js jl je, kx_a j_v cyI 12 jv, kx_a j_n cyI 12 jn, kx_3 h0 a_v a_n vs lo le, kx_a a_v cyI 12 fv, kx_a a_n cyI 12 fn, kx_3 k0 kv kn sb lb eb, kx_a kv cyI 12 gb, kx_a kn cyI 12 nb] s.heap.size = A at hD ⊢
  have hA : ∀ q : Nat, s.heap.size ≤ q → A q := fun q h => by rw [← hAe]; exact Or.inr h
  have hS : va_S A s.heap s.heap [] := va_S.rf
  have hP : va_P (dC, dI) vwCl [kx_4 m_ q_row q_t t_ h0 k0 w_ z_ slots old, kx_2 q_t q_row q_joined q_from q_to q_size q_lossOf q_lessBy q_value q_number nodes here, kx_0 q_row q_cell len, kx_a q_cell cyI 160 f, kx_a q_from cyI 319 ff, kx_a q_to cyI 319 ft, kx_a q_size cyI 319 fs, kx_a q_lossOf cyI 319 fo, kx_a q_lessBy cyI 319 fe, kx_a q_value cyI 1914 uv, kx_a q_number cyI 1914 un, kx_3 q_joined j_v j_n js jl je, kx_a j_v cyI 12 jv, kx_a j_n cyI 12 jn, kx_3 h0 a_v a_n vs lo le, kx_a a_v cyI 12 fv, kx_a a_n cyI 12 fn, kx_3 k0 kv kn sb lb eb, kx_a kv cyI 12 gb, kx_a kn cyI 12 nb] s.heap := hP
  have hl := lv_entry ([.ref m_, .int p0, .int p1, .int p2, .int p3, .int p4, .int p5]) (n := 8) (Nat.le_of_ble_eq_true rfl)
  rw [lg_entry_eq]
  generalize (lg_sl ([.ref m_, .int p0, .int p1, .int p2, .int p3, .int p4, .int p5]) ++ List.replicate (8 - (lg_sl ([.ref m_, .int p0, .int p1, .int p2, .int p3, .int p4, .int p5])).length) Slot.unset).toArray = ls at hl ⊢
  have hl : lv_has ls 8 [(0, .ref m_), (1, .int p0), (2, .int p1), (3, .int p2), (4, .int p3), (5, .int p4), (6, .int p5)] := hl
  have hf_35 := hts (.fieldLink RX4 35 "MajorityIndex" "votes" "LMajorityIndex$Votes;") (List.mem_of_getElem? (i := 1) rfl)
  have hi_4 : ∀ w ∈ u_ws RX4 TX4 9, w ∈ wsX4_both := fun w h => List.mem_cons_of_mem _ (List.mem_append_left _ (List.mem_append_left _ (List.mem_append_left _ (List.mem_append_right _ h))))
  have hf_174 := hts (.fieldLink RX4 174 "MajorityIndex$Votes" "size" "I") (List.mem_of_getElem? (i := 2) rfl)
  have hi_3 : ∀ w ∈ u_ws RX3 TX3 5, w ∈ wsX4_both := fun w h => List.mem_cons_of_mem _ (List.mem_append_left _ (List.mem_append_left _ (List.mem_append_right _ h)))
  refine lv_aload_n hx hb dX4_both_0 rfl (lv_at hl 0 rfl) ?_
  refine lv_iload_n hx hb dX4_both_1 rfl (lv_at hl 1 rfl) ?_
  refine lv_iload_n hx hb dX4_both_2 rfl (lv_at hl 2 rfl) ?_
  refine lv_iload_n hx hb dX4_both_3 rfl (lv_at hl 3 rfl) ?_
  refine lv_iload hx hb dX4_both_4 (lv_at hl 4 rfl) ?_
  refine lv_iload hx hb dX4_both_6 (lv_at hl 5 rfl) ?_
  refine lv_iload hx hb dX4_both_8 (lv_at hl 6 rfl) ?_
  have hPc := hP.sub (ws' := [kx_4 m_ q_row q_t t_ h0 k0 w_ z_ slots old, kx_0 q_row q_cell len, kx_a q_cell cyI 160 f]) [0, 2, 3] rfl
  have hKc := hK
  refine vp_callSi (W.runV (As := [.int p0, .int p1, .int p2, .int p3, .int p4, .int p5]) (rest := []) ⟨hx, hb, hml, hown, hts⟩ (c_X4_refusalOfBoth l dC dI m_ q_row q_t t_ h0 k0 w_ z_ slots old q_cell cyI len f p0 p1 p2 p3 p4 p5 a0 a1) (cwV 6 hts gX4_both_X4_refusalOfBoth rfl rfl rfl (by decide +kernel) ⟨Nat.le_of_ble_eq_true rfl, Nat.le_of_ble_eq_true rfl⟩) ⟨fun a U g mk q => by obtain ⟨q0, qP, qK⟩ := q; exact ⟨q0, qP, va_K.moved (u := U) (U := U.calling g mk a) (Vm.Alike.refl U.vm) qK⟩, kx_rc4 hKc hPc (q0 := 0) rfl, fun U hU hW => ⟨rfl, by rw [hU]; exact hPc, va_K.moved hW.alike hKc⟩⟩ rfl rfl hl.1 rfl (lv_room (Nat.le_of_ble_eq_true rfl)) dX4_both_10 ⟨Nat.le_of_ble_eq_true rfl, Nat.le_of_ble_eq_true rfl⟩) (fun r_1 w_1 => ?_)
  rcases w_1 with ⟨rfl, w_1⟩ | ⟨rfl, w_1⟩ | ⟨rfl, w_1⟩ | ⟨rfl, w_1⟩
  · have w_1 : (0 ≤ p0.toInt ∧ p0.toInt < p1.toInt ∧ p1.toInt ≤ len.toInt ∧ 0 ≤ p2.toInt ∧ p2.toInt < p3.toInt ∧ p3.toInt ≤ len.toInt) := w_1
    refine lv_istore (lv' := [(7, .int 0), (0, .ref m_), (1, .int p0), (2, .int p1), (3, .int p2), (4, .int p3), (5, .int p4), (6, .int p5)]) hx hb dX4_both_13 hl (by decide) rfl (fun ls hl => ?_)
    refine lv_iload hx hb dX4_both_15 (lv_at hl 0 rfl) ?_
    refine lv_if_eq (tgt := 23) hx hb dX4_both_17 (by decide) (fun c_2 => ?_) (fun c_2 => ?_)
    · refine lv_aload_n hx hb dX4_both_23 rfl (lv_at hl 1 rfl) ?_
      refine lv_aload_n hx hb dX4_both_24 rfl (lv_at hl 1 rfl) ?_
      obtain ⟨hPc, hDc, hFc, hCc⟩ := kx_preM (wc := [kx_4 m_ q_row q_t t_ h0 k0 w_ z_ slots old, kx_2 q_t q_row q_joined q_from q_to q_size q_lossOf q_lessBy q_value q_number nodes here, kx_0 q_row q_cell len, kx_a q_cell cyI 160 f, kx_a q_from cyI 319 ff, kx_a q_to cyI 319 ft, kx_a q_size cyI 319 fs, kx_a q_lossOf cyI 319 fo, kx_a q_lessBy cyI 319 fe, kx_a q_value cyI 1914 uv, kx_a q_number cyI 1914 un, kx_3 q_joined j_v j_n js jl je, kx_a j_v cyI 12 jv, kx_a j_n cyI 12 jn]) hP hD hS hA [true, true, true, true, true, true, true, true, true, true, true, true, true, true, false, false, false, false, false, false] rfl
      have hKc := hK
      refine va_callr (va_runV (As := []) (rest := [.ref m_]) ⟨hx, hb, hml, hown, hts⟩ (kx_un (c_X4_laidTree_x l dC dI m_ q_row q_t t_ h0 k0 w_ z_ slots old q_joined q_from q_to q_size q_lossOf q_lessBy q_value q_number nodes here q_cell cyI len f ff ft fs fo uv un fe j_v j_n js jl je jv jn s.heap.size a0 a1 s0 sl0 sl1 l0)) (cwV 0 hts gX4_both_X4_laidTree rfl rfl rfl (by decide +kernel) ⟨Nat.le_of_ble_eq_true rfl, Nat.le_of_ble_eq_true rfl⟩) ⟨fun a U g mk q => by obtain ⟨q0, q1, qP, qK, qD⟩ := q; exact ⟨q0, q1, qP, va_K.moved (u := U) (U := U.calling g mk a) (Vm.Alike.refl U.vm) qK, qD⟩, kx_rc4 hKc hPc (q0 := 0) rfl, fun U hU hW => ⟨rfl, by rw [hU], by rw [hU]; exact hPc, va_K.moved hW.alike hKc, hDc.weaken (fun _ _ _ _ => trivial)⟩⟩ rfl rfl hl.1 rfl (lv_room (Nat.le_of_ble_eq_true rfl)) dX4_both_25 ⟨Nat.le_of_ble_eq_true rfl, Nat.le_of_ble_eq_true rfl⟩) hS (fun q _ h => hFc q h) hFc (fun u ra t H1 locs ht hvm w_3 hB hz1 hk1 hS => ?_)
      obtain ⟨o_4, o_5, o_6, o_7, o_8, o_9, o_10, o_11, o_12, o_13, o_14, o_15, o_16, o_17, o_18⟩ := u
      dsimp only at w_3 hB
      obtain ⟨er, hP1, hK1, hD1⟩ := hB
      rw [ht] at hP1
      have hK1 := va_K.moved hvm.symm hK1
      obtain ⟨hP, hD⟩ := kx_joinM (w2 := [kx_4 m_ q_row q_t t_ h0 k0 w_ z_ slots o_4, kx_2 q_t q_row q_joined q_from q_to q_size q_lossOf q_lessBy q_value q_number o_5 o_6, kx_0 q_row q_cell len, kx_a q_cell cyI 160 f, kx_a q_from cyI 319 o_7, kx_a q_to cyI 319 o_8, kx_a q_size cyI 319 o_9, kx_a q_lossOf cyI 319 o_10, kx_a q_lessBy cyI 319 o_11, kx_a q_value cyI 1914 o_12, kx_a q_number cyI 1914 o_13, kx_3 q_joined j_v j_n o_14 o_15 o_16, kx_a j_v cyI 12 o_17, kx_a j_n cyI 12 o_18, kx_3 h0 a_v a_n vs lo le, kx_a a_v cyI 12 fv, kx_a a_n cyI 12 fn, kx_3 k0 kv kn sb lb eb, kx_a kv cyI 12 gb, kx_a kn cyI 12 nb]) hP hD hP1 hD1 hk1 hFc [true, true, true, true, true, true, true, true, true, true, true, true, true, true, false, false, false, false, false, false] hCc rfl
      clear hP1 hD1 hK1 hk1 hz1 hFc hDc hPc hKc hCc
      generalize H1 = H at hP hS ⊢
      have w_3 : o_4.toInt = 0 ∧ o_6 = slots ∧ sixes o_9 ∧ mj_C slots.toNatClampNeg f o_7 o_8 o_9 o_10 o_11 o_12 o_13 o_5.toInt len.toInt ∧ 0 ≤ o_5.toInt ∧ o_5.toInt ≤ 319 ∧ treeOk o_7 o_8 o_5.toInt len.toInt := w_3
      rw [er]
      refine lv_iload_n hx hb dX4_both_28 rfl (lv_at hl 2 rfl) ?_
      refine lv_iload_n hx hb dX4_both_29 rfl (lv_at hl 3 rfl) ?_
      refine lv_iload_n hx hb dX4_both_30 rfl (lv_at hl 4 rfl) ?_
      refine lv_iload hx hb dX4_both_31 (lv_at hl 5 rfl) ?_
      refine lv_iload hx hb dX4_both_33 (lv_at hl 6 rfl) ?_
      refine lv_iload hx hb dX4_both_35 (lv_at hl 7 rfl) ?_
      obtain ⟨hPc, hDc, hFc, hCc⟩ := kx_pre (wc := [kx_4 m_ q_row q_t t_ h0 k0 w_ z_ slots o_4, kx_0 q_row q_cell len, kx_a q_cell cyI 160 f, kx_2 q_t q_row q_joined q_from q_to q_size q_lossOf q_lessBy q_value q_number o_5 o_6, kx_a q_from cyI 319 o_7, kx_a q_to cyI 319 o_8, kx_a q_size cyI 319 o_9, kx_a q_lossOf cyI 319 o_10, kx_a q_value cyI 1914 o_12, kx_a q_number cyI 1914 o_13, kx_3 h0 a_v a_n vs lo le, kx_a a_v cyI 12 fv, kx_a a_n cyI 12 fn, kx_3 k0 kv kn sb lb eb, kx_a kv cyI 12 gb, kx_a kn cyI 12 nb]) hP hD hS hA [0, 2, 3, 1, 4, 5, 6, 7, 9, 10, 14, 15, 16, 17, 18, 19] (by decide) rfl
      have hKc := hK
      refine va_callv (va_runV (As := [.ref q_t, .int p0, .int p1, .int p2, .int p3, .int p4, .int p5]) (rest := []) ⟨hx, hb, hml, hown, hts⟩ (c_X4_gatherHeavyOfBoth l dC dI m_ q_row q_t t_ h0 k0 w_ z_ slots o_4 q_joined q_from q_to q_size q_lossOf q_lessBy q_value q_number o_5 o_6 q_cell cyI len f o_7 o_8 o_9 o_10 o_12 o_13 a_v a_n cyI vs lo le fv fn kv kn sb lb eb gb nb p0 p1 p2 p3 p4 p5 H.size w_3.2.2.2.2.1 w_3.2.2.2.2.2.1 w_3.2.2.1 (om_10 w_1.1) (om_167 a1 w_1.2.2.1) (om_10 w_1.2.2.2.1) (om_167 a1 w_1.2.2.2.2.2)) (cwV 7 hts gX4_both_X4_gatherHeavyOfBoth rfl rfl rfl (by decide +kernel) ⟨Nat.le_of_ble_eq_true rfl, Nat.le_of_ble_eq_true rfl⟩) ⟨fun a U g mk q => by obtain ⟨q0, q1, qP, qK, qD, qn0⟩ := q; exact ⟨q0, q1, qP, va_K.moved (u := U) (U := U.calling g mk a) (Vm.Alike.refl U.vm) qK, qD, va_Nw.same (u := U) (U := U.calling g mk a) rfl rfl qn0⟩, kx_rc4 hKc hPc (q0 := 0) rfl, fun U hU hW => ⟨rfl, by rw [hU], by rw [hU]; exact hPc, va_K.moved hW.alike hKc, hDc.weaken (fun _ _ _ _ => trivial), va_Nw.warmM hW hN0⟩⟩ rfl rfl hl.1 rfl (lv_room (Nat.le_of_ble_eq_true rfl)) dX4_both_37 ⟨Nat.le_of_ble_eq_true rfl, Nat.le_of_ble_eq_true rfl⟩) hS (fun q _ h => hFc q h) hFc (fun u t H1 locs ht hvm w_19 hB hz1 hk1 hS => ?_)
      obtain ⟨o_20, o_21, o_22, o_23, o_24, o_25, o_26, o_27, o_28, o_29⟩ := u
      dsimp only at w_19 hB
      obtain ⟨hP1, hK1, hD1⟩ := hB
      rw [ht] at hP1
      have hK1 := va_K.moved hvm.symm hK1
      obtain ⟨hP, hD⟩ := kx_join (w2 := [kx_a q_lessBy cyI 319 o_11, kx_3 q_joined j_v j_n o_14 o_15 o_16, kx_a j_v cyI 12 o_17, kx_a j_n cyI 12 o_18, kx_4 m_ q_row q_t t_ h0 k0 w_ z_ slots o_4, kx_0 q_row q_cell len, kx_a q_cell cyI 160 f, kx_2 q_t q_row q_joined q_from q_to q_size q_lossOf q_lessBy q_value q_number o_5 o_6, kx_a q_from cyI 319 o_7, kx_a q_to cyI 319 o_8, kx_a q_size cyI 319 o_9, kx_a q_lossOf cyI 319 o_10, kx_a q_value cyI 1914 o_12, kx_a q_number cyI 1914 o_13, kx_3 h0 a_v a_n o_20 o_21 o_22, kx_a a_v cyI 12 o_23, kx_a a_n cyI 12 o_24, kx_3 k0 kv kn o_25 o_26 o_27, kx_a kv cyI 12 o_28, kx_a kn cyI 12 o_29]) hP hD hP1 hD1 hk1 hFc [0, 2, 3, 1, 4, 5, 6, 7, 9, 10, 14, 15, 16, 17, 18, 19] [8, 11, 12, 13] hCc rfl (by decide) (by decide)
      clear hP1 hD1 hK1 hk1 hz1 hFc hDc hPc hKc hCc
      generalize H1 = H at hP hS ⊢
      have w_19 : 0 ≤ o_20.toInt ∧ o_20.toInt ≤ 12 := w_19
      refine lv_aload_n hx hb dX4_both_40 rfl (lv_at hl 1 rfl) ?_
      refine va_get (D := (dC, dI)) (ci := 4) (v := .ref h0) (C := RX4) (T := TX4) (N := 9) hx hb hts hi_4 hown hK hP 4 rfl rfl 3 (by decide) hf_35 (fun _ h9 => h9) rfl dX4_both_41 ?_
      refine va_get (D := (dC, dI)) (ci := 3) (v := .int o_20) (C := RX3) (T := TX3) (N := 5) hx hb hts hi_3 hown hK hP 14 rfl rfl 2 (by decide) hf_174 (fun _ h9 => h9) rfl dX4_both_44 ?_
      obtain ⟨hP9, hD9⟩ := kx_sub (w2 := [kx_4 m_ q_row q_t t_ h0 k0 w_ z_ slots o_4, kx_2 q_t q_row q_joined q_from q_to q_size q_lossOf q_lessBy q_value q_number o_5 o_6, kx_0 q_row q_cell len, kx_a q_cell cyI 160 f, kx_a q_from cyI 319 o_7, kx_a q_to cyI 319 o_8, kx_a q_size cyI 319 o_9, kx_a q_lossOf cyI 319 o_10, kx_a q_lessBy cyI 319 o_11, kx_a q_value cyI 1914 o_12, kx_a q_number cyI 1914 o_13, kx_3 q_joined j_v j_n o_14 o_15 o_16, kx_a j_v cyI 12 o_17, kx_a j_n cyI 12 o_18, kx_3 h0 a_v a_n o_20 o_21 o_22, kx_a a_v cyI 12 o_23, kx_a a_n cyI 12 o_24, kx_3 k0 kv kn o_25 o_26 o_27, kx_a kv cyI 12 o_28, kx_a kn cyI 12 o_29]) hP hD [4, 7, 5, 6, 8, 9, 10, 11, 0, 12, 13, 1, 2, 3, 14, 15, 16, 17, 18, 19] (by decide) rfl
      have hK9 := hK
      exact W.iret (v := o_20) hx hb hr (hlocks := hlocks) (fun t ht hW => ⟨⟨o_20, (o_4, o_5, o_6, o_7, o_8, o_9, o_10, o_11, o_12, o_13, o_14, o_15, o_16, o_17, o_18, o_20, o_21, o_22, o_23, o_24, o_25, o_26, o_27, o_28, o_29), rfl, ⟨(fun _ => ⟨w_3.2.1, w_3.2.2.2.1⟩), w_3.2.2.1⟩, by rw [ht]; exact hP9, va_K.moved hW.alike hK9, hD9⟩, hS.F ht⟩) hS.2.2 dX4_both_47
    · exact absurd c_2 (by decide)
  · have w_1 : (0 : Int) ≤ 1 := w_1
    refine lv_istore (lv' := [(7, .int (-1)), (0, .ref m_), (1, .int p0), (2, .int p1), (3, .int p2), (4, .int p3), (5, .int p4), (6, .int p5)]) hx hb dX4_both_13 hl (by decide) rfl (fun ls hl => ?_)
    refine lv_iload hx hb dX4_both_15 (lv_at hl 0 rfl) ?_
    refine lv_if_eq (tgt := 23) hx hb dX4_both_17 (by decide) (fun c_30 => ?_) (fun c_30 => ?_)
    · exact absurd c_30 (by decide)
    · refine lv_iload hx hb dX4_both_20 (lv_at hl 0 rfl) ?_
      have hP9 := hP
      have hD9 := hD
      have hK9 := hK
      exact W.iret (v := (-1)) hx hb hr (hlocks := hlocks) (fun t ht hW => ⟨⟨(-1), (old, nodes, here, ff, ft, fs, fo, fe, uv, un, js, jl, je, jv, jn, vs, lo, le, fv, fn, sb, lb, eb, gb, nb), rfl, ⟨l0, s0⟩, by rw [ht]; exact hP9, va_K.moved hW.alike hK9, hD9⟩, hS.F ht⟩) hS.2.2 dX4_both_22
  · have w_1 : (0 : Int) ≤ 1 := w_1
    refine lv_istore (lv' := [(7, .int (-2)), (0, .ref m_), (1, .int p0), (2, .int p1), (3, .int p2), (4, .int p3), (5, .int p4), (6, .int p5)]) hx hb dX4_both_13 hl (by decide) rfl (fun ls hl => ?_)
    refine lv_iload hx hb dX4_both_15 (lv_at hl 0 rfl) ?_
    refine lv_if_eq (tgt := 23) hx hb dX4_both_17 (by decide) (fun c_31 => ?_) (fun c_31 => ?_)
    · exact absurd c_31 (by decide)
    · refine lv_iload hx hb dX4_both_20 (lv_at hl 0 rfl) ?_
      have hP9 := hP
      have hD9 := hD
      have hK9 := hK
      exact W.iret (v := (-2)) hx hb hr (hlocks := hlocks) (fun t ht hW => ⟨⟨(-2), (old, nodes, here, ff, ft, fs, fo, fe, uv, un, js, jl, je, jv, jn, vs, lo, le, fv, fn, sb, lb, eb, gb, nb), rfl, ⟨l0, s0⟩, by rw [ht]; exact hP9, va_K.moved hW.alike hK9, hD9⟩, hS.F ht⟩) hS.2.2 dX4_both_22
  · have w_1 : (0 : Int) ≤ 1 := w_1
    refine lv_istore (lv' := [(7, .int (-3)), (0, .ref m_), (1, .int p0), (2, .int p1), (3, .int p2), (4, .int p3), (5, .int p4), (6, .int p5)]) hx hb dX4_both_13 hl (by decide) rfl (fun ls hl => ?_)
    refine lv_iload hx hb dX4_both_15 (lv_at hl 0 rfl) ?_
    refine lv_if_eq (tgt := 23) hx hb dX4_both_17 (by decide) (fun c_32 => ?_) (fun c_32 => ?_)
    · exact absurd c_32 (by decide)
    · refine lv_iload hx hb dX4_both_20 (lv_at hl 0 rfl) ?_
      have hP9 := hP
      have hD9 := hD
      have hK9 := hK
      exact W.iret (v := (-3)) hx hb hr (hlocks := hlocks) (fun t ht hW => ⟨⟨(-3), (old, nodes, here, ff, ft, fs, fo, fe, uv, un, js, jl, je, jv, jn, vs, lo, le, fv, fn, sb, lb, eb, gb, nb), rfl, ⟨l0, s0⟩, by rw [ht]; exact hP9, va_K.moved hW.alike hK9, hD9⟩, hS.F ht⟩) hS.2.2 dX4_both_22

set_option maxHeartbeats 4000000 in
set_option maxRecDepth 100000 in
theorem c_X4_rootTotalWith_x (l : Launch) (dC : Nat → ClassId) (dI : Nat → Nat → Nat) (m_ : Nat) (q_row : Nat) (q_t : Nat) (t_ : Nat) (h0 : Nat) (k0 : Nat) (w_ : Nat) (z_ : Nat) (slots : Int32) (old : Int32) (q_joined : Nat) (q_from : Nat) (q_to : Nat) (q_size : Nat) (q_lossOf : Nat) (q_lessBy : Nat) (q_value : Nat) (q_number : Nat) (nodes : Int32) (here : Int32) (q_cell : Nat) (cyI : ClassId) (len : Int32) (f : Nat → Int32) (ff : Nat → Int32) (ft : Nat → Int32) (fs : Nat → Int32) (fo : Nat → Int32) (uv : Nat → Int32) (un : Nat → Int32) (fe : Nat → Int32) (j_v : Nat) (j_n : Nat) (js : Int32) (jl : Int32) (je : Int32) (jv : Nat → Int32) (jn : Nat → Int32) (a_v : Nat) (a_n : Nat) (vs : Int32) (lo : Int32) (le : Int32) (fv : Nat → Int32) (fn : Nat → Int32) (p0 : Int32) (p1 : Int32) (sz : Nat) (b0 : 0 ≤ nodes.toInt) (c0 : nodes.toInt ≤ 319) (c1 : len.toInt ≤ 160) (s0 : sixes fs) (t0 : treeOk ff ft nodes.toInt len.toInt) (kh0 : 1 ≤ here.toInt) (kh1 : here.toInt ≤ 6) (hC : mj_C here.toNatClampNeg f ff ft fs fo fe uv un nodes.toInt len.toInt) (d0 : 0 ≤ p0.toInt) (d1 : p0.toInt < 160) : kx_MQ l (dC, dI) yX4_rootTotalWith wsX4_rootTotalWith ({ frames := 5, cells := 0, slots := 0, locals := 225 }) [.ref m_, .ref q_t, .int p0, .int p1] [kx_4 m_ q_row q_t t_ h0 k0 w_ z_ slots old, kx_2 q_t q_row q_joined q_from q_to q_size q_lossOf q_lessBy q_value q_number nodes here, kx_0 q_row q_cell len, kx_a q_cell cyI 160 f, kx_a q_from cyI 319 ff, kx_a q_to cyI 319 ft, kx_a q_size cyI 319 fs, kx_a q_lossOf cyI 319 fo, kx_a q_lessBy cyI 319 fe, kx_a q_value cyI 1914 uv, kx_a q_number cyI 1914 un, kx_3 q_joined j_v j_n js jl je, kx_a j_v cyI 12 jv, kx_a j_n cyI 12 jn, kx_3 h0 a_v a_n vs lo le, kx_a a_v cyI 12 fv, kx_a a_n cyI 12 fn] [(cyI, .int)] sz (fun A => va_Qi (fun (r : Int32) (u : (Nat → Int32) × (Nat → Int32) × (Nat → Int32) × (Nat → Int32) × (Nat → Int32) × (Nat → Int32) × Int32 × Int32 × Int32 × (Nat → Int32) × (Nat → Int32) × Int32 × Int32 × Int32 × (Nat → Int32) × (Nat → Int32)) => u.1 = f ∧ sixes u.2.1 ∧ mj_C here.toNatClampNeg f ff ft u.2.1 u.2.2.1 u.2.2.2.1 u.2.2.2.2.1 u.2.2.2.2.2.1 nodes.toInt len.toInt) (fun (u : (Nat → Int32) × (Nat → Int32) × (Nat → Int32) × (Nat → Int32) × (Nat → Int32) × (Nat → Int32) × Int32 × Int32 × Int32 × (Nat → Int32) × (Nat → Int32) × Int32 × Int32 × Int32 × (Nat → Int32) × (Nat → Int32)) (t : State) => va_P (dC, dI) vwCl [kx_4 m_ q_row q_t t_ h0 k0 w_ z_ slots old, kx_2 q_t q_row q_joined q_from q_to q_size q_lossOf q_lessBy q_value q_number nodes here, kx_0 q_row q_cell len, kx_a q_cell cyI 160 u.1, kx_a q_from cyI 319 ff, kx_a q_to cyI 319 ft, kx_a q_size cyI 319 u.2.1, kx_a q_lossOf cyI 319 u.2.2.1, kx_a q_lessBy cyI 319 u.2.2.2.1, kx_a q_value cyI 1914 u.2.2.2.2.1, kx_a q_number cyI 1914 u.2.2.2.2.2.1, kx_3 q_joined j_v j_n u.2.2.2.2.2.2.1 u.2.2.2.2.2.2.2.1 u.2.2.2.2.2.2.2.2.1, kx_a j_v cyI 12 u.2.2.2.2.2.2.2.2.2.1, kx_a j_n cyI 12 u.2.2.2.2.2.2.2.2.2.2.1, kx_3 h0 a_v a_n u.2.2.2.2.2.2.2.2.2.2.2.1 u.2.2.2.2.2.2.2.2.2.2.2.2.1 u.2.2.2.2.2.2.2.2.2.2.2.2.2.1, kx_a a_v cyI 12 u.2.2.2.2.2.2.2.2.2.2.2.2.2.2.1, kx_a a_n cyI 12 u.2.2.2.2.2.2.2.2.2.2.2.2.2.2.2] t.heap ∧ va_K (dC, dI) vwCl [(cyI, .int)] t ∧ va_D A [kx_4 m_ q_row q_t t_ h0 k0 w_ z_ slots old, kx_2 q_t q_row q_joined q_from q_to q_size q_lossOf q_lessBy q_value q_number nodes here, kx_0 q_row q_cell len, kx_a q_cell cyI 160 u.1, kx_a q_from cyI 319 ff, kx_a q_to cyI 319 ft, kx_a q_size cyI 319 u.2.1, kx_a q_lossOf cyI 319 u.2.2.1, kx_a q_lessBy cyI 319 u.2.2.2.1, kx_a q_value cyI 1914 u.2.2.2.2.1, kx_a q_number cyI 1914 u.2.2.2.2.2.1, kx_3 q_joined j_v j_n u.2.2.2.2.2.2.1 u.2.2.2.2.2.2.2.1 u.2.2.2.2.2.2.2.2.1, kx_a j_v cyI 12 u.2.2.2.2.2.2.2.2.2.1, kx_a j_n cyI 12 u.2.2.2.2.2.2.2.2.2.2.1, kx_3 h0 a_v a_n u.2.2.2.2.2.2.2.2.2.2.2.1 u.2.2.2.2.2.2.2.2.2.2.2.2.1 u.2.2.2.2.2.2.2.2.2.2.2.2.2.1, kx_a a_v cyI 12 u.2.2.2.2.2.2.2.2.2.2.2.2.2.2.1, kx_a a_n cyI 12 u.2.2.2.2.2.2.2.2.2.2.2.2.2.2.2]) A) := by
  refine kx_stQ (ws := wsX4_rootTotalWith) (cc := cX4_rootTotalWith) (maxL := 6) (ret := (some .int)) (by decide) rfl (Nat.le_of_ble_eq_true rfl) ?_
  intro p e s m below meth c A ls hx hb hr hlocks hts hown hml hA hS hP hK hD hl
  have hown : s.vm.findClass RX4 = some m.cls := hown
  have hl : lv_has ls 6 [(0, .ref m_), (1, .ref q_t), (2, .int p0), (3, .int p1)] := hl
  have hf_12 := hts (.fieldLink RX4 12 "MajorityIndex" "row" "LMajorityIndex$Row;") (List.mem_of_getElem? (i := 1) rfl)
  have hi_4 : ∀ w ∈ u_ws RX4 TX4 9, w ∈ wsX4_rootTotalWith := fun w h => List.mem_cons_of_mem _ (List.mem_append_left _ (List.mem_append_left _ (List.mem_append_left _ (List.mem_append_right _ h))))
  have hf_110 := hts (.fieldLink RX4 110 "MajorityIndex$Row" "cell" "[I") (List.mem_of_getElem? (i := 2) rfl)
  have hi_0 : ∀ w ∈ u_ws RX0 TX0 2, w ∈ wsX4_rootTotalWith := fun w h => List.mem_cons_of_mem _ (List.mem_append_left _ (List.mem_append_left _ (List.mem_append_right _ h)))
  have hf_35 := hts (.fieldLink RX4 35 "MajorityIndex" "votes" "LMajorityIndex$Votes;") (List.mem_of_getElem? (i := 3) rfl)
  refine lv_aload_n hx hb dX4_rootTotalWith_0 rfl (lv_at hl 0 rfl) ?_
  refine va_get (D := (dC, dI)) (ci := 4) (v := .ref q_row) (C := RX4) (T := TX4) (N := 9) hx hb hts hi_4 hown hK hP 0 rfl rfl 0 (by decide) hf_12 (fun _ h9 => h9) rfl dX4_rootTotalWith_1 ?_
  refine va_get (D := (dC, dI)) (ci := 0) (v := .ref q_cell) (C := RX0) (T := TX0) (N := 2) hx hb hts hi_0 hown hK hP 2 rfl rfl 0 (by decide) hf_110 (fun _ h9 => h9) rfl dX4_rootTotalWith_4 ?_
  refine lv_iload_n hx hb dX4_rootTotalWith_7 rfl (lv_at hl 2 rfl) ?_
  refine va_iald hx hb hK hP 3 0 rfl rfl (ki_in (om_10 d0) (om_12 d1)) dX4_rootTotalWith_8 ?_
  refine lv_topi (fun y_1 ey_1 => ?_)
  have j_1 : y_1.toInt = (f p0.toNatClampNeg).toInt := congrArg Int32.toInt ey_1
  refine lv_istore (lv' := [(4, .int y_1), (0, .ref m_), (1, .ref q_t), (2, .int p0), (3, .int p1)]) hx hb dX4_rootTotalWith_9 hl (by decide) rfl (fun ls hl => ?_)
  refine lv_aload_n hx hb dX4_rootTotalWith_11 rfl (lv_at hl 1 rfl) ?_
  refine va_get (D := (dC, dI)) (ci := 4) (v := .ref q_row) (C := RX4) (T := TX4) (N := 9) hx hb hts hi_4 hown hK hP 0 rfl rfl 0 (by decide) hf_12 (fun _ h9 => h9) rfl dX4_rootTotalWith_12 ?_
  refine va_get (D := (dC, dI)) (ci := 0) (v := .ref q_cell) (C := RX0) (T := TX0) (N := 2) hx hb hts hi_0 hown hK hP 2 rfl rfl 0 (by decide) hf_110 (fun _ h9 => h9) rfl dX4_rootTotalWith_15 ?_
  refine lv_iload_n hx hb dX4_rootTotalWith_18 rfl (lv_at hl 3 rfl) ?_
  refine lv_iload_n hx hb dX4_rootTotalWith_19 rfl (lv_at hl 4 rfl) ?_
  refine va_iast hx hb hK hP hD hS 3 0 rfl rfl (ki_in (om_10 d0) (om_12 d1)) dX4_rootTotalWith_20 (fun H locs hP hD hS => ?_)
  obtain ⟨hP, hD⟩ := kx_re (w2 := [kx_4 m_ q_row q_t t_ h0 k0 w_ z_ slots old, kx_2 q_t q_row q_joined q_from q_to q_size q_lossOf q_lessBy q_value q_number nodes here, kx_0 q_row q_cell len, kx_a q_cell cyI 160 (upd f p0.toNatClampNeg p1), kx_a q_from cyI 319 ff, kx_a q_to cyI 319 ft, kx_a q_size cyI 319 fs, kx_a q_lossOf cyI 319 fo, kx_a q_lessBy cyI 319 fe, kx_a q_value cyI 1914 uv, kx_a q_number cyI 1914 un, kx_3 q_joined j_v j_n js jl je, kx_a j_v cyI 12 jv, kx_a j_n cyI 12 jn, kx_3 h0 a_v a_n vs lo le, kx_a a_v cyI 12 fv, kx_a a_n cyI 12 fn]) hP hD rfl
  refine lv_aload_n hx hb dX4_rootTotalWith_21 rfl (lv_at hl 2 rfl) ?_
  refine lv_iload_n hx hb dX4_rootTotalWith_22 rfl (lv_at hl 3 rfl) ?_
  refine lv_iload_n hx hb dX4_rootTotalWith_23 rfl (lv_at hl 3 rfl) ?_
  refine lv_iconst (v := 1) hx hb dX4_rootTotalWith_24 (by decide) ?_
  refine lv_iadd hx hb dX4_rootTotalWith_25 ?_
  refine lv_topi (fun y_2 ey_2 => ?_)
  have i_2 : y_2.toInt = p0.toInt + 1 := ki_add ey_2 rfl rfl (om_13 d0) (om_14 d1)
  obtain ⟨hPc, hDc, hFc, hCc⟩ := kx_preM (wc := [kx_2 q_t q_row q_joined q_from q_to q_size q_lossOf q_lessBy q_value q_number nodes here, kx_0 q_row q_cell len, kx_a q_cell cyI 160 (upd f p0.toNatClampNeg p1), kx_a q_from cyI 319 ff, kx_a q_to cyI 319 ft, kx_a q_size cyI 319 fs, kx_a q_lossOf cyI 319 fo, kx_a q_lessBy cyI 319 fe, kx_a q_value cyI 1914 uv, kx_a q_number cyI 1914 un, kx_3 q_joined j_v j_n js jl je, kx_a j_v cyI 12 jv, kx_a j_n cyI 12 jn]) hP hD hS hA [false, true, true, true, true, true, true, true, true, true, true, true, true, true, false, false, false] rfl
  have hKc := hK
  refine va_calli (va_runV (As := [.int p0, .int y_2]) (rest := []) ⟨hx, hb, hml, hown, hts⟩ (kx_un (c_X2_renew_x l dC dI q_t q_row q_joined q_from q_to q_size q_lossOf q_lessBy q_value q_number nodes here q_cell cyI len (upd f p0.toNatClampNeg p1) ff ft fs fo uv un fe j_v j_n js jl je jv jn p0 y_2 H.size b0 c0 c1 s0 t0 kh0 kh1 hC.2.2.2.2.1 (mj_old hC.2.2.2.2.2.2 t0 (fun p hp => upd_ne (fun e => by have := ki_nat p0 rfl (by omega); omega))))) (cwV 2 hts gX4_rootTotalWith_X2_renew rfl rfl rfl (by decide +kernel) ⟨Nat.le_of_ble_eq_true rfl, Nat.le_of_ble_eq_true rfl⟩) ⟨fun a U g mk q => by obtain ⟨q0, q1, qP, qK, qD⟩ := q; exact ⟨q0, q1, qP, va_K.moved (u := U) (U := U.calling g mk a) (Vm.Alike.refl U.vm) qK, qD⟩, kx_rc2 hKc hPc (q0 := 0) rfl, fun U hU hW => ⟨rfl, by rw [hU], by rw [hU]; exact hPc, va_K.moved hW.alike hKc, hDc.weaken (fun _ _ _ _ => trivial)⟩⟩ rfl rfl hl.1 rfl (lv_room (Nat.le_of_ble_eq_true rfl)) dX4_rootTotalWith_26 ⟨Nat.le_of_ble_eq_true rfl, Nat.le_of_ble_eq_true rfl⟩) hS (fun q _ h => hFc q h) hFc (fun r_3 u t H1 locs ht hvm w_3 hB hz1 hk1 hS => ?_)
  obtain ⟨o_4, o_5, o_6, o_7, o_8, o_9, o_10, o_11, o_12, o_13⟩ := u
  dsimp only at w_3 hB
  obtain ⟨hP1, hK1, hD1⟩ := hB
  rw [ht] at hP1
  have hK1 := va_K.moved hvm.symm hK1
  obtain ⟨hP, hD⟩ := kx_joinM (w2 := [kx_4 m_ q_row q_t t_ h0 k0 w_ z_ slots old, kx_2 q_t q_row q_joined q_from q_to q_size q_lossOf q_lessBy q_value q_number nodes here, kx_0 q_row q_cell len, kx_a q_cell cyI 160 (upd f p0.toNatClampNeg p1), kx_a q_from cyI 319 ff, kx_a q_to cyI 319 ft, kx_a q_size cyI 319 o_4, kx_a q_lossOf cyI 319 o_5, kx_a q_lessBy cyI 319 o_6, kx_a q_value cyI 1914 o_7, kx_a q_number cyI 1914 o_8, kx_3 q_joined j_v j_n o_9 o_10 o_11, kx_a j_v cyI 12 o_12, kx_a j_n cyI 12 o_13, kx_3 h0 a_v a_n vs lo le, kx_a a_v cyI 12 fv, kx_a a_n cyI 12 fn]) hP hD hP1 hD1 hk1 hFc [false, true, true, true, true, true, true, true, true, true, true, true, true, true, false, false, false] hCc rfl
  clear hP1 hD1 hK1 hk1 hz1 hFc hDc hPc hKc hCc
  generalize H1 = H at hP hS ⊢
  have w_3 : sixes o_4 ∧ ∀ k : Nat, (k : Int) < nodes.toInt → mj_ok here.toNatClampNeg (upd f p0.toNatClampNeg p1) ff ft o_4 o_5 o_6 o_7 o_8 k := w_3
  refine lv_pop hx hb dX4_rootTotalWith_29 rfl ?_
  refine lv_aload_n hx hb dX4_rootTotalWith_30 rfl (lv_at hl 2 rfl) ?_
  refine lv_aload_n hx hb dX4_rootTotalWith_31 rfl (lv_at hl 1 rfl) ?_
  refine va_get (D := (dC, dI)) (ci := 4) (v := .ref h0) (C := RX4) (T := TX4) (N := 9) hx hb hts hi_4 hown hK hP 0 rfl rfl 3 (by decide) hf_35 (fun _ h9 => h9) rfl dX4_rootTotalWith_32 ?_
  refine lv_iconst (v := 0) hx hb dX4_rootTotalWith_35 (by decide) ?_
  have k_0 : (0 : Int32).toInt = 0 := rfl
  obtain ⟨hPc, hDc, hFc, hCc⟩ := kx_preM (wc := [kx_2 q_t q_row q_joined q_from q_to q_size q_lossOf q_lessBy q_value q_number nodes here, kx_a q_size cyI 319 o_4, kx_a q_lossOf cyI 319 o_5, kx_a q_value cyI 1914 o_7, kx_a q_number cyI 1914 o_8, kx_3 h0 a_v a_n vs lo le, kx_a a_v cyI 12 fv, kx_a a_n cyI 12 fn]) hP hD hS hA [false, true, false, false, false, false, true, true, false, true, true, false, false, false, true, true, true] rfl
  have hKc := hK
  have k_14 : (0 : Int32).toInt = 0 := rfl
  refine va_callv (va_runV (As := [.ref h0, .int 0]) (rest := []) ⟨hx, hb, hml, hown, hts⟩ (kx_un (c_X2_copyTo l dC dI q_t q_row q_joined q_from q_to q_size q_lossOf q_lessBy q_value q_number nodes here h0 a_v a_n cyI vs lo le fv fn o_4 o_5 o_7 o_8 0 H.size om_35 om_208 w_3.1)) (cwV 2 hts gX4_rootTotalWith_X2_copyTo rfl rfl rfl (by decide +kernel) ⟨Nat.le_of_ble_eq_true rfl, Nat.le_of_ble_eq_true rfl⟩) ⟨fun a U g mk q => by obtain ⟨q0, q1, qP, qK, qD⟩ := q; exact ⟨q0, q1, qP, va_K.moved (u := U) (U := U.calling g mk a) (Vm.Alike.refl U.vm) qK, qD⟩, kx_rc2 hKc hPc (q0 := 0) rfl, fun U hU hW => ⟨rfl, by rw [hU], by rw [hU]; exact hPc, va_K.moved hW.alike hKc, hDc.weaken (fun _ _ _ _ => trivial)⟩⟩ rfl rfl hl.1 rfl (lv_room (Nat.le_of_ble_eq_true rfl)) dX4_rootTotalWith_36 ⟨Nat.le_of_ble_eq_true rfl, Nat.le_of_ble_eq_true rfl⟩) hS (fun q _ h => hFc q h) hFc (fun u t H1 locs ht hvm w_15 hB hz1 hk1 hS => ?_)
  obtain ⟨o_16, o_17, o_18, o_19⟩ := u
  dsimp only at w_15 hB
  obtain ⟨hP1, hK1, hD1⟩ := hB
  rw [ht] at hP1
  have hK1 := va_K.moved hvm.symm hK1
  obtain ⟨hP, hD⟩ := kx_joinM (w2 := [kx_4 m_ q_row q_t t_ h0 k0 w_ z_ slots old, kx_2 q_t q_row q_joined q_from q_to q_size q_lossOf q_lessBy q_value q_number nodes here, kx_0 q_row q_cell len, kx_a q_cell cyI 160 (upd f p0.toNatClampNeg p1), kx_a q_from cyI 319 ff, kx_a q_to cyI 319 ft, kx_a q_size cyI 319 o_4, kx_a q_lossOf cyI 319 o_5, kx_a q_lessBy cyI 319 o_6, kx_a q_value cyI 1914 o_7, kx_a q_number cyI 1914 o_8, kx_3 q_joined j_v j_n o_9 o_10 o_11, kx_a j_v cyI 12 o_12, kx_a j_n cyI 12 o_13, kx_3 h0 a_v a_n o_16 o_17 0, kx_a a_v cyI 12 o_18, kx_a a_n cyI 12 o_19]) hP hD hP1 hD1 hk1 hFc [false, true, false, false, false, false, true, true, false, true, true, false, false, false, true, true, true] hCc rfl
  clear hP1 hD1 hK1 hk1 hz1 hFc hDc hPc hKc hCc
  generalize H1 = H at hP hS ⊢
  have w_15 : 0 ≤ o_16.toInt ∧ o_16.toInt ≤ 12 := w_15
  refine lv_aload_n hx hb dX4_rootTotalWith_39 rfl (lv_at hl 1 rfl) ?_
  refine va_get (D := (dC, dI)) (ci := 4) (v := .ref h0) (C := RX4) (T := TX4) (N := 9) hx hb hts hi_4 hown hK hP 0 rfl rfl 3 (by decide) hf_35 (fun _ h9 => h9) rfl dX4_rootTotalWith_40 ?_
  have hPc := kx_selP (ws' := [kx_3 h0 a_v a_n o_16 o_17 0, kx_a a_v cyI 12 o_18, kx_a a_n cyI 12 o_19]) hP [false, false, false, false, false, false, false, false, false, false, false, false, false, false, true, true, true] rfl
  have hKc := hK
  refine vp_callSi (W.runV (As := []) (rest := []) ⟨hx, hb, hml, hown, hts⟩ (c_X3_total_x l dC dI h0 a_v a_n cyI o_16 o_17 0 o_18 o_19 w_15.1 w_15.2) (cwV 0 hts gX4_rootTotalWith_X3_total rfl rfl rfl (by decide +kernel) ⟨Nat.le_of_ble_eq_true rfl, Nat.le_of_ble_eq_true rfl⟩) ⟨fun a U g mk q => by obtain ⟨q0, qP, qK⟩ := q; exact ⟨q0, qP, va_K.moved (u := U) (U := U.calling g mk a) (Vm.Alike.refl U.vm) qK⟩, kx_rc3 hKc hPc (q0 := 0) rfl, fun U hU hW => ⟨rfl, by rw [hU]; exact hPc, va_K.moved hW.alike hKc⟩⟩ rfl rfl hl.1 rfl (lv_room (Nat.le_of_ble_eq_true rfl)) dX4_rootTotalWith_43 ⟨Nat.le_of_ble_eq_true rfl, Nat.le_of_ble_eq_true rfl⟩) (fun r_20 w_20 => ?_)
  subst w_20
  refine lv_istore (lv' := [(5, .int (mj_tot o_19 0 o_16.toNatClampNeg)), (4, .int y_1), (0, .ref m_), (1, .ref q_t), (2, .int p0), (3, .int p1)]) hx hb dX4_rootTotalWith_46 hl (by decide) rfl (fun ls hl => ?_)
  refine lv_aload_n hx hb dX4_rootTotalWith_48 rfl (lv_at hl 2 rfl) ?_
  refine va_get (D := (dC, dI)) (ci := 4) (v := .ref q_row) (C := RX4) (T := TX4) (N := 9) hx hb hts hi_4 hown hK hP 0 rfl rfl 0 (by decide) hf_12 (fun _ h9 => h9) rfl dX4_rootTotalWith_49 ?_
  refine va_get (D := (dC, dI)) (ci := 0) (v := .ref q_cell) (C := RX0) (T := TX0) (N := 2) hx hb hts hi_0 hown hK hP 2 rfl rfl 0 (by decide) hf_110 (fun _ h9 => h9) rfl dX4_rootTotalWith_52 ?_
  refine lv_iload_n hx hb dX4_rootTotalWith_55 rfl (lv_at hl 4 rfl) ?_
  refine lv_iload hx hb dX4_rootTotalWith_56 (lv_at hl 1 rfl) ?_
  refine va_iast hx hb hK hP hD hS 3 0 rfl rfl (ki_in (om_10 d0) (om_12 d1)) dX4_rootTotalWith_58 (fun H locs hP hD hS => ?_)
  obtain ⟨hP, hD⟩ := kx_re (w2 := [kx_4 m_ q_row q_t t_ h0 k0 w_ z_ slots old, kx_2 q_t q_row q_joined q_from q_to q_size q_lossOf q_lessBy q_value q_number nodes here, kx_0 q_row q_cell len, kx_a q_cell cyI 160 (upd (upd f p0.toNatClampNeg p1) p0.toNatClampNeg y_1), kx_a q_from cyI 319 ff, kx_a q_to cyI 319 ft, kx_a q_size cyI 319 o_4, kx_a q_lossOf cyI 319 o_5, kx_a q_lessBy cyI 319 o_6, kx_a q_value cyI 1914 o_7, kx_a q_number cyI 1914 o_8, kx_3 q_joined j_v j_n o_9 o_10 o_11, kx_a j_v cyI 12 o_12, kx_a j_n cyI 12 o_13, kx_3 h0 a_v a_n o_16 o_17 0, kx_a a_v cyI 12 o_18, kx_a a_n cyI 12 o_19]) hP hD rfl
  refine lv_aload_n hx hb dX4_rootTotalWith_59 rfl (lv_at hl 3 rfl) ?_
  refine lv_iload_n hx hb dX4_rootTotalWith_60 rfl (lv_at hl 4 rfl) ?_
  refine lv_iload_n hx hb dX4_rootTotalWith_61 rfl (lv_at hl 4 rfl) ?_
  refine lv_iconst (v := 1) hx hb dX4_rootTotalWith_62 (by decide) ?_
  refine lv_iadd hx hb dX4_rootTotalWith_63 ?_
  refine lv_topi (fun y_21 ey_21 => ?_)
  have i_21 : y_21.toInt = p0.toInt + 1 := ki_add ey_21 rfl rfl (om_13 d0) (om_14 d1)
  have h_c2 := w_3.2
  obtain ⟨hPc, hDc, hFc, hCc⟩ := kx_preM (wc := [kx_2 q_t q_row q_joined q_from q_to q_size q_lossOf q_lessBy q_value q_number nodes here, kx_0 q_row q_cell len, kx_a q_cell cyI 160 (upd (upd f p0.toNatClampNeg p1) p0.toNatClampNeg y_1), kx_a q_from cyI 319 ff, kx_a q_to cyI 319 ft, kx_a q_size cyI 319 o_4, kx_a q_lossOf cyI 319 o_5, kx_a q_lessBy cyI 319 o_6, kx_a q_value cyI 1914 o_7, kx_a q_number cyI 1914 o_8, kx_3 q_joined j_v j_n o_9 o_10 o_11, kx_a j_v cyI 12 o_12, kx_a j_n cyI 12 o_13]) hP hD hS hA [false, true, true, true, true, true, true, true, true, true, true, true, true, true, false, false, false] rfl
  have hKc := hK
  refine va_calli (va_runV (As := [.int p0, .int y_21]) (rest := []) ⟨hx, hb, hml, hown, hts⟩ (kx_un (c_X2_renew_x l dC dI q_t q_row q_joined q_from q_to q_size q_lossOf q_lessBy q_value q_number nodes here q_cell cyI len (upd (upd f p0.toNatClampNeg p1) p0.toNatClampNeg y_1) ff ft o_4 o_5 o_7 o_8 o_6 j_v j_n o_9 o_10 o_11 o_12 o_13 p0 y_21 H.size b0 c0 c1 w_3.1 t0 kh0 kh1 hC.2.2.2.2.1 (mj_old h_c2 t0 (fun p hp => by rw [ey_1, upd_back, upd_ne (fun e => by have := ki_nat p0 rfl (by omega); omega)])))) (cwV 2 hts gX4_rootTotalWith_X2_renew rfl rfl rfl (by decide +kernel) ⟨Nat.le_of_ble_eq_true rfl, Nat.le_of_ble_eq_true rfl⟩) ⟨fun a U g mk q => by obtain ⟨q0, q1, qP, qK, qD⟩ := q; exact ⟨q0, q1, qP, va_K.moved (u := U) (U := U.calling g mk a) (Vm.Alike.refl U.vm) qK, qD⟩, kx_rc2 hKc hPc (q0 := 0) rfl, fun U hU hW => ⟨rfl, by rw [hU], by rw [hU]; exact hPc, va_K.moved hW.alike hKc, hDc.weaken (fun _ _ _ _ => trivial)⟩⟩ rfl rfl hl.1 rfl (lv_room (Nat.le_of_ble_eq_true rfl)) dX4_rootTotalWith_64 ⟨Nat.le_of_ble_eq_true rfl, Nat.le_of_ble_eq_true rfl⟩) hS (fun q _ h => hFc q h) hFc (fun r_22 u t H1 locs ht hvm w_22 hB hz1 hk1 hS => ?_)
  obtain ⟨o_23, o_24, o_25, o_26, o_27, o_28, o_29, o_30, o_31, o_32⟩ := u
  dsimp only at w_22 hB
  obtain ⟨hP1, hK1, hD1⟩ := hB
  rw [ht] at hP1
  have hK1 := va_K.moved hvm.symm hK1
  obtain ⟨hP, hD⟩ := kx_joinM (w2 := [kx_4 m_ q_row q_t t_ h0 k0 w_ z_ slots old, kx_2 q_t q_row q_joined q_from q_to q_size q_lossOf q_lessBy q_value q_number nodes here, kx_0 q_row q_cell len, kx_a q_cell cyI 160 (upd (upd f p0.toNatClampNeg p1) p0.toNatClampNeg y_1), kx_a q_from cyI 319 ff, kx_a q_to cyI 319 ft, kx_a q_size cyI 319 o_23, kx_a q_lossOf cyI 319 o_24, kx_a q_lessBy cyI 319 o_25, kx_a q_value cyI 1914 o_26, kx_a q_number cyI 1914 o_27, kx_3 q_joined j_v j_n o_28 o_29 o_30, kx_a j_v cyI 12 o_31, kx_a j_n cyI 12 o_32, kx_3 h0 a_v a_n o_16 o_17 0, kx_a a_v cyI 12 o_18, kx_a a_n cyI 12 o_19]) hP hD hP1 hD1 hk1 hFc [false, true, true, true, true, true, true, true, true, true, true, true, true, true, false, false, false] hCc rfl
  clear hP1 hD1 hK1 hk1 hz1 hFc hDc hPc hKc hCc
  generalize H1 = H at hP hS ⊢
  have w_22 : sixes o_23 ∧ ∀ k : Nat, (k : Int) < nodes.toInt → mj_ok here.toNatClampNeg (upd (upd f p0.toNatClampNeg p1) p0.toNatClampNeg y_1) ff ft o_23 o_24 o_25 o_26 o_27 k := w_22
  refine lv_pop hx hb dX4_rootTotalWith_67 rfl ?_
  refine lv_iload hx hb dX4_rootTotalWith_68 (lv_at hl 0 rfl) ?_
  have hP9 := hP
  have hD9 := hD
  have hK9 := hK
  have q_f : (upd (upd f p0.toNatClampNeg p1) p0.toNatClampNeg y_1) = f := by rw [ey_1]; exact upd_back _ _ _
  have h_c3 := w_22.2
  rw [q_f] at h_c3
  exact W.iret (v := (mj_tot o_19 0 o_16.toNatClampNeg)) hx hb hr (hlocks := hlocks) (fun t ht hW => ⟨⟨(mj_tot o_19 0 o_16.toNatClampNeg), ((upd (upd f p0.toNatClampNeg p1) p0.toNatClampNeg y_1), o_23, o_24, o_25, o_26, o_27, o_28, o_29, o_30, o_31, o_32, o_16, o_17, 0, o_18, o_19), rfl, ⟨q_f, w_22.1, mj_C_new hC h_c3⟩, by rw [ht]; exact hP9, va_K.moved hW.alike hK9, hD9⟩, hS.F ht⟩) hS.2.2 dX4_rootTotalWith_70

set_option maxHeartbeats 4000000 in
set_option maxRecDepth 100000 in
theorem c_X4_swings_x (l : Launch) (dC : Nat → ClassId) (dI : Nat → Nat → Nat) (m_ : Nat) (q_row : Nat) (q_t : Nat) (t_ : Nat) (h0 : Nat) (k0 : Nat) (w_ : Nat) (z_ : Nat) (slots : Int32) (old : Int32) (q_joined : Nat) (q_from : Nat) (q_to : Nat) (q_size : Nat) (q_lossOf : Nat) (q_lessBy : Nat) (q_value : Nat) (q_number : Nat) (nodes : Int32) (here : Int32) (q_cell : Nat) (cyI : ClassId) (len : Int32) (f : Nat → Int32) (ff : Nat → Int32) (ft : Nat → Int32) (fs : Nat → Int32) (fo : Nat → Int32) (uv : Nat → Int32) (un : Nat → Int32) (fe : Nat → Int32) (j_v : Nat) (j_n : Nat) (js : Int32) (jl : Int32) (je : Int32) (jv : Nat → Int32) (jn : Nat → Int32) (a_v : Nat) (a_n : Nat) (vs : Int32) (lo : Int32) (le : Int32) (fv : Nat → Int32) (fn : Nat → Int32) (p0 : Int32) (p1 : Int32) (p2 : Int32) (p3 : Int32) (sz : Nat) (a0 : 0 ≤ len.toInt) (a1 : len.toInt ≤ 160) (s0 : sixes fs) (sl0 : 1 ≤ slots.toInt) (sl1 : slots.toInt ≤ 6) (l0 : laidX old slots here f ff ft fs fo fe uv un nodes len) : kx_MQ l (dC, dI) yX4_swings wsX4_swings ({ frames := 6, cells := 0, slots := 0, locals := 270 }) [.ref m_, .int p0, .int p1, .int p2, .int p3] [kx_4 m_ q_row q_t t_ h0 k0 w_ z_ slots old, kx_2 q_t q_row q_joined q_from q_to q_size q_lossOf q_lessBy q_value q_number nodes here, kx_0 q_row q_cell len, kx_a q_cell cyI 160 f, kx_a q_from cyI 319 ff, kx_a q_to cyI 319 ft, kx_a q_size cyI 319 fs, kx_a q_lossOf cyI 319 fo, kx_a q_lessBy cyI 319 fe, kx_a q_value cyI 1914 uv, kx_a q_number cyI 1914 un, kx_3 q_joined j_v j_n js jl je, kx_a j_v cyI 12 jv, kx_a j_n cyI 12 jn, kx_3 h0 a_v a_n vs lo le, kx_a a_v cyI 12 fv, kx_a a_n cyI 12 fn] [(cyI, .int)] sz (fun A => va_Qi (fun (r : Int32) (u : Int32 × Int32 × Int32 × (Nat → Int32) × (Nat → Int32) × (Nat → Int32) × (Nat → Int32) × (Nat → Int32) × (Nat → Int32) × (Nat → Int32) × Int32 × Int32 × Int32 × (Nat → Int32) × (Nat → Int32) × Int32 × Int32 × Int32 × (Nat → Int32) × (Nat → Int32) × (Nat → Int32)) => laidX u.1 slots u.2.2.1 u.2.2.2.2.2.2.2.2.2.2.2.2.2.2.2.2.2.2.2.2 u.2.2.2.1 u.2.2.2.2.1 u.2.2.2.2.2.1 u.2.2.2.2.2.2.1 u.2.2.2.2.2.2.2.1 u.2.2.2.2.2.2.2.2.1 u.2.2.2.2.2.2.2.2.2.1 u.2.1 len ∧ sixes u.2.2.2.2.2.1 ∧ u.2.2.2.2.2.2.2.2.2.2.2.2.2.2.2.2.2.2.2.2 = f) (fun (u : Int32 × Int32 × Int32 × (Nat → Int32) × (Nat → Int32) × (Nat → Int32) × (Nat → Int32) × (Nat → Int32) × (Nat → Int32) × (Nat → Int32) × Int32 × Int32 × Int32 × (Nat → Int32) × (Nat → Int32) × Int32 × Int32 × Int32 × (Nat → Int32) × (Nat → Int32) × (Nat → Int32)) (t : State) => va_P (dC, dI) vwCl [kx_4 m_ q_row q_t t_ h0 k0 w_ z_ slots u.1, kx_2 q_t q_row q_joined q_from q_to q_size q_lossOf q_lessBy q_value q_number u.2.1 u.2.2.1, kx_0 q_row q_cell len, kx_a q_cell cyI 160 u.2.2.2.2.2.2.2.2.2.2.2.2.2.2.2.2.2.2.2.2, kx_a q_from cyI 319 u.2.2.2.1, kx_a q_to cyI 319 u.2.2.2.2.1, kx_a q_size cyI 319 u.2.2.2.2.2.1, kx_a q_lossOf cyI 319 u.2.2.2.2.2.2.1, kx_a q_lessBy cyI 319 u.2.2.2.2.2.2.2.1, kx_a q_value cyI 1914 u.2.2.2.2.2.2.2.2.1, kx_a q_number cyI 1914 u.2.2.2.2.2.2.2.2.2.1, kx_3 q_joined j_v j_n u.2.2.2.2.2.2.2.2.2.2.1 u.2.2.2.2.2.2.2.2.2.2.2.1 u.2.2.2.2.2.2.2.2.2.2.2.2.1, kx_a j_v cyI 12 u.2.2.2.2.2.2.2.2.2.2.2.2.2.1, kx_a j_n cyI 12 u.2.2.2.2.2.2.2.2.2.2.2.2.2.2.1, kx_3 h0 a_v a_n u.2.2.2.2.2.2.2.2.2.2.2.2.2.2.2.1 u.2.2.2.2.2.2.2.2.2.2.2.2.2.2.2.2.1 u.2.2.2.2.2.2.2.2.2.2.2.2.2.2.2.2.2.1, kx_a a_v cyI 12 u.2.2.2.2.2.2.2.2.2.2.2.2.2.2.2.2.2.2.1, kx_a a_n cyI 12 u.2.2.2.2.2.2.2.2.2.2.2.2.2.2.2.2.2.2.2.1] t.heap ∧ va_K (dC, dI) vwCl [(cyI, .int)] t ∧ va_D A [kx_4 m_ q_row q_t t_ h0 k0 w_ z_ slots u.1, kx_2 q_t q_row q_joined q_from q_to q_size q_lossOf q_lessBy q_value q_number u.2.1 u.2.2.1, kx_0 q_row q_cell len, kx_a q_cell cyI 160 u.2.2.2.2.2.2.2.2.2.2.2.2.2.2.2.2.2.2.2.2, kx_a q_from cyI 319 u.2.2.2.1, kx_a q_to cyI 319 u.2.2.2.2.1, kx_a q_size cyI 319 u.2.2.2.2.2.1, kx_a q_lossOf cyI 319 u.2.2.2.2.2.2.1, kx_a q_lessBy cyI 319 u.2.2.2.2.2.2.2.1, kx_a q_value cyI 1914 u.2.2.2.2.2.2.2.2.1, kx_a q_number cyI 1914 u.2.2.2.2.2.2.2.2.2.1, kx_3 q_joined j_v j_n u.2.2.2.2.2.2.2.2.2.2.1 u.2.2.2.2.2.2.2.2.2.2.2.1 u.2.2.2.2.2.2.2.2.2.2.2.2.1, kx_a j_v cyI 12 u.2.2.2.2.2.2.2.2.2.2.2.2.2.1, kx_a j_n cyI 12 u.2.2.2.2.2.2.2.2.2.2.2.2.2.2.1, kx_3 h0 a_v a_n u.2.2.2.2.2.2.2.2.2.2.2.2.2.2.2.1 u.2.2.2.2.2.2.2.2.2.2.2.2.2.2.2.2.1 u.2.2.2.2.2.2.2.2.2.2.2.2.2.2.2.2.2.1, kx_a a_v cyI 12 u.2.2.2.2.2.2.2.2.2.2.2.2.2.2.2.2.2.2.1, kx_a a_n cyI 12 u.2.2.2.2.2.2.2.2.2.2.2.2.2.2.2.2.2.2.2.1]) A) := by
  refine kx_stQ (ws := wsX4_swings) (cc := cX4_swings) (maxL := 10) (ret := (some .int)) (by decide) rfl (Nat.le_of_ble_eq_true rfl) ?_
  intro p e s m below meth c A ls hx hb hr hlocks hts hown hml hA hS hP hK hD hl
  have hown : s.vm.findClass RX4 = some m.cls := hown
  have hl : lv_has ls 10 [(0, .ref m_), (1, .int p0), (2, .int p1), (3, .int p2), (4, .int p3)] := hl
  have hf_12 := hts (.fieldLink RX4 12 "MajorityIndex" "row" "LMajorityIndex$Row;") (List.mem_of_getElem? (i := 1) rfl)
  have hi_4 : ∀ w ∈ u_ws RX4 TX4 9, w ∈ wsX4_swings := fun w h => List.mem_cons_of_mem _ (List.mem_append_left _ (List.mem_append_left _ (List.mem_append_left _ (List.mem_append_right _ h))))
  refine lv_aload_n hx hb dX4_swings_0 rfl (lv_at hl 0 rfl) ?_
  refine va_get (D := (dC, dI)) (ci := 4) (v := .ref q_row) (C := RX4) (T := TX4) (N := 9) hx hb hts hi_4 hown hK hP 0 rfl rfl 0 (by decide) hf_12 (fun _ h9 => h9) rfl dX4_swings_1 ?_
  refine lv_iload_n hx hb dX4_swings_4 rfl (lv_at hl 1 rfl) ?_
  refine lv_iload_n hx hb dX4_swings_5 rfl (lv_at hl 2 rfl) ?_
  have hPc := hP.sub (ws' := [kx_0 q_row q_cell len]) [2] rfl
  have hKc := hK.sub (tys' := []) [] rfl
  refine vp_callSi (W.runV (As := [.int p0, .int p1]) (rest := []) ⟨hx, hb, hml, hown, hts⟩ (c_X0_hasRange l dC dI q_row q_cell len p0 p1) (cwV 2 hts gX4_swings_X0_hasRange rfl rfl rfl (by decide +kernel) ⟨Nat.le_of_ble_eq_true rfl, Nat.le_of_ble_eq_true rfl⟩) ⟨fun a U g mk q => by obtain ⟨q0, qP, qK⟩ := q; exact ⟨q0, qP, va_K.moved (u := U) (U := U.calling g mk a) (Vm.Alike.refl U.vm) qK⟩, kx_rc0 hKc hPc (q0 := 0) rfl, fun U hU hW => ⟨rfl, by rw [hU]; exact hPc, va_K.moved hW.alike hKc⟩⟩ rfl rfl hl.1 rfl (lv_room (Nat.le_of_ble_eq_true rfl)) dX4_swings_6 ⟨Nat.le_of_ble_eq_true rfl, Nat.le_of_ble_eq_true rfl⟩) (fun r_1 w_1 => ?_)
  rcases w_1 with ⟨rfl, w_1⟩ | ⟨rfl, w_1⟩
  · have w_1 : (0 ≤ p0.toInt ∧ p0.toInt < p1.toInt ∧ p1.toInt ≤ len.toInt) := w_1
    refine lv_if_eq (tgt := 38) hx hb dX4_swings_9 (by decide) (fun c_2 => ?_) (fun c_2 => ?_)
    · exact absurd c_2 (by decide)
    · refine lv_iload_n hx hb dX4_swings_12 rfl (lv_at hl 2 rfl) ?_
      refine lv_iload_n hx hb dX4_swings_13 rfl (lv_at hl 1 rfl) ?_
      refine lv_isub hx hb dX4_swings_14 ?_
      refine lv_topi (fun y_3 ey_3 => ?_)
      have i_3 : y_3.toInt = p1.toInt - p0.toInt := ki_sub ey_3 rfl rfl (om_168 w_1.2.1) (om_169 a1 w_1.1 w_1.2.2)
      refine lv_bipush (v := 40) hx hb dX4_swings_15 (by decide) ?_
      refine lv_icmp_gt (tgt := 38) hx hb dX4_swings_17 (by decide) (fun c_4 => ?_) (fun c_4 => ?_)
      · have i_4 : 40 < y_3.toInt := kc_lt c_4
        refine lv_iconst (v := (-1)) hx hb dX4_swings_38 (by decide) ?_
        have hP9 := hP
        have hD9 := hD
        have hK9 := hK
        exact W.iret (v := (-1)) hx hb hr (hlocks := hlocks) (fun t ht hW => ⟨⟨(-1), (old, nodes, here, ff, ft, fs, fo, fe, uv, un, js, jl, je, jv, jn, vs, lo, le, fv, fn, f), rfl, ⟨l0, s0, rfl⟩, by rw [ht]; exact hP9, va_K.moved hW.alike hK9, hD9⟩, hS.F ht⟩) hS.2.2 dX4_swings_39
      · have i_4 : y_3.toInt ≤ 40 := kc_nlt c_4
        refine lv_iload_n hx hb dX4_swings_20 rfl (lv_at hl 3 rfl) ?_
        have hPc := hP.sub (ws' := []) [] rfl
        have hKc := hK.sub (tys' := []) [] rfl
        refine vp_callSi (W.runS (As := [.int p2]) (rest := []) ⟨hx, hb, hml, hown, hts⟩ (c_X4_isValue l dC dI p2) (va_cwS 1 hts gX4_swings_X4_isValue rfl rfl rfl (by decide +kernel) ⟨Nat.le_of_ble_eq_true rfl, Nat.le_of_ble_eq_true rfl⟩) ⟨fun a U g mk q => by obtain ⟨q0, qP, qK⟩ := q; exact ⟨q0, qP, va_K.moved (u := U) (U := U.calling g mk a) (Vm.Alike.refl U.vm) qK⟩, fun U hU hW => ⟨rfl, by rw [hU]; exact hPc, va_K.moved hW.alike hKc⟩⟩ rfl rfl hl.1 rfl (lv_room (Nat.le_of_ble_eq_true rfl)) dX4_swings_21 ⟨Nat.le_of_ble_eq_true rfl, Nat.le_of_ble_eq_true rfl⟩) (fun r_5 w_5 => ?_)
        rcases w_5 with ⟨rfl, w_5⟩ | ⟨rfl, w_5⟩
        · have w_5 : (-32768 ≤ p2.toInt ∧ p2.toInt ≤ 32767) := w_5
          refine lv_if_eq (tgt := 38) hx hb dX4_swings_24 (by decide) (fun c_6 => ?_) (fun c_6 => ?_)
          · exact absurd c_6 (by decide)
          · refine lv_iload hx hb dX4_swings_27 (lv_at hl 4 rfl) ?_
            refine lv_if_lt (tgt := 38) hx hb dX4_swings_29 (by decide) (fun c_7 => ?_) (fun c_7 => ?_)
            · have i_7 : p3.toInt < 0 := kc_lt c_7
              refine lv_iconst (v := (-1)) hx hb dX4_swings_38 (by decide) ?_
              have hP9 := hP
              have hD9 := hD
              have hK9 := hK
              exact W.iret (v := (-1)) hx hb hr (hlocks := hlocks) (fun t ht hW => ⟨⟨(-1), (old, nodes, here, ff, ft, fs, fo, fe, uv, un, js, jl, je, jv, jn, vs, lo, le, fv, fn, f), rfl, ⟨l0, s0, rfl⟩, by rw [ht]; exact hP9, va_K.moved hW.alike hK9, hD9⟩, hS.F ht⟩) hS.2.2 dX4_swings_39
            · have i_7 : 0 ≤ p3.toInt := kc_nlt c_7
              refine lv_iload hx hb dX4_swings_32 (lv_at hl 4 rfl) ?_
              refine lv_iconst (v := 1) hx hb dX4_swings_34 (by decide) ?_
              refine lv_icmp_le (tgt := 40) hx hb dX4_swings_35 (by decide) (fun c_8 => ?_) (fun c_8 => ?_)
              · have i_8 : p3.toInt ≤ 1 := kc_le c_8
                refine lv_aload_n hx hb dX4_swings_40 rfl (lv_at hl 0 rfl) ?_
                obtain ⟨hPc, hDc, hFc, hCc⟩ := kx_preM (wc := [kx_4 m_ q_row q_t t_ h0 k0 w_ z_ slots old, kx_2 q_t q_row q_joined q_from q_to q_size q_lossOf q_lessBy q_value q_number nodes here, kx_0 q_row q_cell len, kx_a q_cell cyI 160 f, kx_a q_from cyI 319 ff, kx_a q_to cyI 319 ft, kx_a q_size cyI 319 fs, kx_a q_lossOf cyI 319 fo, kx_a q_lessBy cyI 319 fe, kx_a q_value cyI 1914 uv, kx_a q_number cyI 1914 un, kx_3 q_joined j_v j_n js jl je, kx_a j_v cyI 12 jv, kx_a j_n cyI 12 jn]) hP hD hS hA [true, true, true, true, true, true, true, true, true, true, true, true, true, true, false, false, false] rfl
                have hKc := hK
                refine va_callr (va_runV (As := []) (rest := []) ⟨hx, hb, hml, hown, hts⟩ (kx_un (c_X4_laidTree_x l dC dI m_ q_row q_t t_ h0 k0 w_ z_ slots old q_joined q_from q_to q_size q_lossOf q_lessBy q_value q_number nodes here q_cell cyI len f ff ft fs fo uv un fe j_v j_n js jl je jv jn s.heap.size a0 a1 s0 sl0 sl1 l0)) (cwV 0 hts gX4_swings_X4_laidTree rfl rfl rfl (by decide +kernel) ⟨Nat.le_of_ble_eq_true rfl, Nat.le_of_ble_eq_true rfl⟩) ⟨fun a U g mk q => by obtain ⟨q0, q1, qP, qK, qD⟩ := q; exact ⟨q0, q1, qP, va_K.moved (u := U) (U := U.calling g mk a) (Vm.Alike.refl U.vm) qK, qD⟩, kx_rc4 hKc hPc (q0 := 0) rfl, fun U hU hW => ⟨rfl, by rw [hU], by rw [hU]; exact hPc, va_K.moved hW.alike hKc, hDc.weaken (fun _ _ _ _ => trivial)⟩⟩ rfl rfl hl.1 rfl (lv_room (Nat.le_of_ble_eq_true rfl)) dX4_swings_41 ⟨Nat.le_of_ble_eq_true rfl, Nat.le_of_ble_eq_true rfl⟩) hS (fun q _ h => hFc q h) hFc (fun u ra t H1 locs ht hvm w_9 hB hz1 hk1 hS => ?_)
                obtain ⟨o_10, o_11, o_12, o_13, o_14, o_15, o_16, o_17, o_18, o_19, o_20, o_21, o_22, o_23, o_24⟩ := u
                dsimp only at w_9 hB
                obtain ⟨er, hP1, hK1, hD1⟩ := hB
                rw [ht] at hP1
                have hK1 := va_K.moved hvm.symm hK1
                obtain ⟨hP, hD⟩ := kx_joinM (w2 := [kx_4 m_ q_row q_t t_ h0 k0 w_ z_ slots o_10, kx_2 q_t q_row q_joined q_from q_to q_size q_lossOf q_lessBy q_value q_number o_11 o_12, kx_0 q_row q_cell len, kx_a q_cell cyI 160 f, kx_a q_from cyI 319 o_13, kx_a q_to cyI 319 o_14, kx_a q_size cyI 319 o_15, kx_a q_lossOf cyI 319 o_16, kx_a q_lessBy cyI 319 o_17, kx_a q_value cyI 1914 o_18, kx_a q_number cyI 1914 o_19, kx_3 q_joined j_v j_n o_20 o_21 o_22, kx_a j_v cyI 12 o_23, kx_a j_n cyI 12 o_24, kx_3 h0 a_v a_n vs lo le, kx_a a_v cyI 12 fv, kx_a a_n cyI 12 fn]) hP hD hP1 hD1 hk1 hFc [true, true, true, true, true, true, true, true, true, true, true, true, true, true, false, false, false] hCc rfl
                clear hP1 hD1 hK1 hk1 hz1 hFc hDc hPc hKc hCc
                generalize H1 = H at hP hS ⊢
                have w_9 : o_10.toInt = 0 ∧ o_12 = slots ∧ sixes o_15 ∧ mj_C slots.toNatClampNeg f o_13 o_14 o_15 o_16 o_17 o_18 o_19 o_11.toInt len.toInt ∧ 0 ≤ o_11.toInt ∧ o_11.toInt ≤ 319 ∧ treeOk o_13 o_14 o_11.toInt len.toInt := w_9
                rw [er]
                refine lv_astore (lv' := [(5, .ref q_t), (0, .ref m_), (1, .int p0), (2, .int p1), (3, .int p2), (4, .int p3)]) hx hb dX4_swings_44 hl (by decide) rfl (fun ls hl => ?_)
                refine lv_iconst (v := (-1)) hx hb dX4_swings_46 (by decide) ?_
                refine lv_istore (lv' := [(6, .int (-1)), (5, .ref q_t), (0, .ref m_), (1, .int p0), (2, .int p1), (3, .int p2), (4, .int p3)]) hx hb dX4_swings_47 hl (by decide) rfl (fun ls hl => ?_)
                refine lv_iconst (v := (-1)) hx hb dX4_swings_49 (by decide) ?_
                refine lv_istore (lv' := [(7, .int (-1)), (6, .int (-1)), (5, .ref q_t), (0, .ref m_), (1, .int p0), (2, .int p1), (3, .int p2), (4, .int p3)]) hx hb dX4_swings_50 hl (by decide) rfl (fun ls hl => ?_)
                refine lv_iload_n hx hb dX4_swings_52 rfl (lv_at hl 4 rfl) ?_
                refine lv_istore (lv' := [(8, .int p0), (7, .int (-1)), (6, .int (-1)), (5, .ref q_t), (0, .ref m_), (1, .int p0), (2, .int p1), (3, .int p2), (4, .int p3)]) hx hb dX4_swings_53 hl (by decide) rfl (fun ls hl => ?_)
                have LP1 : ∀ (n : Nat) (i : Int32) (bp : Int32) (bt : Int32) (gc : Nat → Int32) (g_s : Nat → Int32) (g_o : Nat → Int32) (g_e : Nat → Int32) (g_v : Nat → Int32) (g_n : Nat → Int32) (g_js : Int32) (g_jl : Int32) (g_je : Int32) (g_jv : Nat → Int32) (g_jn : Nat → Int32) (g_vs : Int32) (g_vl : Int32) (g_ve : Int32) (g_vv : Nat → Int32) (g_vn : Nat → Int32), (p0.toInt ≤ i.toInt) → (sixes g_s) → (gc = f) → (mj_C o_12.toNatClampNeg f o_13 o_14 g_s g_o g_e g_v g_n o_11.toInt len.toInt) → (p1.toInt - i.toInt).toNat < n → ∀ (H : Heap) (locs : List Loc), va_P (dC, dI) vwCl [kx_4 m_ q_row q_t t_ h0 k0 w_ z_ slots o_10, kx_2 q_t q_row q_joined q_from q_to q_size q_lossOf q_lessBy q_value q_number o_11 o_12, kx_0 q_row q_cell len, kx_a q_cell cyI 160 gc, kx_a q_from cyI 319 o_13, kx_a q_to cyI 319 o_14, kx_a q_size cyI 319 g_s, kx_a q_lossOf cyI 319 g_o, kx_a q_lessBy cyI 319 g_e, kx_a q_value cyI 1914 g_v, kx_a q_number cyI 1914 g_n, kx_3 q_joined j_v j_n g_js g_jl g_je, kx_a j_v cyI 12 g_jv, kx_a j_n cyI 12 g_jn, kx_3 h0 a_v a_n g_vs g_vl g_ve, kx_a a_v cyI 12 g_vv, kx_a a_n cyI 12 g_vn] H → va_D A [kx_4 m_ q_row q_t t_ h0 k0 w_ z_ slots o_10, kx_2 q_t q_row q_joined q_from q_to q_size q_lossOf q_lessBy q_value q_number o_11 o_12, kx_0 q_row q_cell len, kx_a q_cell cyI 160 gc, kx_a q_from cyI 319 o_13, kx_a q_to cyI 319 o_14, kx_a q_size cyI 319 g_s, kx_a q_lossOf cyI 319 g_o, kx_a q_lessBy cyI 319 g_e, kx_a q_value cyI 1914 g_v, kx_a q_number cyI 1914 g_n, kx_3 q_joined j_v j_n g_js g_jl g_je, kx_a j_v cyI 12 g_jv, kx_a j_n cyI 12 g_jn, kx_3 h0 a_v a_n g_vs g_vl g_ve, kx_a a_v cyI 12 g_vv, kx_a a_n cyI 12 g_vn] → va_S A s.heap H locs → ∀ (ls : Array Slot), lv_has ls 10 [(8, .int i), (7, .int bt), (6, .int bp), (5, .ref q_t), (0, .ref m_), (1, .int p0), (2, .int p1), (3, .int p2), (4, .int p3)] → W p l e (headSpec wsX4_swings ({ frames := 6, cells := 0, slots := 0, locals := 270 })).room s m ([.ref m_, .int p0, .int p1, .int p2, .int p3] : List Value).toArray below meth c H locs 0 0 (MQ below (va_Qi (fun (r : Int32) (u : Int32 × Int32 × Int32 × (Nat → Int32) × (Nat → Int32) × (Nat → Int32) × (Nat → Int32) × (Nat → Int32) × (Nat → Int32) × (Nat → Int32) × Int32 × Int32 × Int32 × (Nat → Int32) × (Nat → Int32) × Int32 × Int32 × Int32 × (Nat → Int32) × (Nat → Int32) × (Nat → Int32)) => laidX u.1 slots u.2.2.1 u.2.2.2.2.2.2.2.2.2.2.2.2.2.2.2.2.2.2.2.2 u.2.2.2.1 u.2.2.2.2.1 u.2.2.2.2.2.1 u.2.2.2.2.2.2.1 u.2.2.2.2.2.2.2.1 u.2.2.2.2.2.2.2.2.1 u.2.2.2.2.2.2.2.2.2.1 u.2.1 len ∧ sixes u.2.2.2.2.2.1 ∧ u.2.2.2.2.2.2.2.2.2.2.2.2.2.2.2.2.2.2.2.2 = f) (fun (u : Int32 × Int32 × Int32 × (Nat → Int32) × (Nat → Int32) × (Nat → Int32) × (Nat → Int32) × (Nat → Int32) × (Nat → Int32) × (Nat → Int32) × Int32 × Int32 × Int32 × (Nat → Int32) × (Nat → Int32) × Int32 × Int32 × Int32 × (Nat → Int32) × (Nat → Int32) × (Nat → Int32)) (t : State) => va_P (dC, dI) vwCl [kx_4 m_ q_row q_t t_ h0 k0 w_ z_ slots u.1, kx_2 q_t q_row q_joined q_from q_to q_size q_lossOf q_lessBy q_value q_number u.2.1 u.2.2.1, kx_0 q_row q_cell len, kx_a q_cell cyI 160 u.2.2.2.2.2.2.2.2.2.2.2.2.2.2.2.2.2.2.2.2, kx_a q_from cyI 319 u.2.2.2.1, kx_a q_to cyI 319 u.2.2.2.2.1, kx_a q_size cyI 319 u.2.2.2.2.2.1, kx_a q_lossOf cyI 319 u.2.2.2.2.2.2.1, kx_a q_lessBy cyI 319 u.2.2.2.2.2.2.2.1, kx_a q_value cyI 1914 u.2.2.2.2.2.2.2.2.1, kx_a q_number cyI 1914 u.2.2.2.2.2.2.2.2.2.1, kx_3 q_joined j_v j_n u.2.2.2.2.2.2.2.2.2.2.1 u.2.2.2.2.2.2.2.2.2.2.2.1 u.2.2.2.2.2.2.2.2.2.2.2.2.1, kx_a j_v cyI 12 u.2.2.2.2.2.2.2.2.2.2.2.2.2.1, kx_a j_n cyI 12 u.2.2.2.2.2.2.2.2.2.2.2.2.2.2.1, kx_3 h0 a_v a_n u.2.2.2.2.2.2.2.2.2.2.2.2.2.2.2.1 u.2.2.2.2.2.2.2.2.2.2.2.2.2.2.2.2.1 u.2.2.2.2.2.2.2.2.2.2.2.2.2.2.2.2.2.1, kx_a a_v cyI 12 u.2.2.2.2.2.2.2.2.2.2.2.2.2.2.2.2.2.2.1, kx_a a_n cyI 12 u.2.2.2.2.2.2.2.2.2.2.2.2.2.2.2.2.2.2.2.1] t.heap ∧ va_K (dC, dI) vwCl [(cyI, .int)] t ∧ va_D A [kx_4 m_ q_row q_t t_ h0 k0 w_ z_ slots u.1, kx_2 q_t q_row q_joined q_from q_to q_size q_lossOf q_lessBy q_value q_number u.2.1 u.2.2.1, kx_0 q_row q_cell len, kx_a q_cell cyI 160 u.2.2.2.2.2.2.2.2.2.2.2.2.2.2.2.2.2.2.2.2, kx_a q_from cyI 319 u.2.2.2.1, kx_a q_to cyI 319 u.2.2.2.2.1, kx_a q_size cyI 319 u.2.2.2.2.2.1, kx_a q_lossOf cyI 319 u.2.2.2.2.2.2.1, kx_a q_lessBy cyI 319 u.2.2.2.2.2.2.2.1, kx_a q_value cyI 1914 u.2.2.2.2.2.2.2.2.1, kx_a q_number cyI 1914 u.2.2.2.2.2.2.2.2.2.1, kx_3 q_joined j_v j_n u.2.2.2.2.2.2.2.2.2.2.1 u.2.2.2.2.2.2.2.2.2.2.2.1 u.2.2.2.2.2.2.2.2.2.2.2.2.1, kx_a j_v cyI 12 u.2.2.2.2.2.2.2.2.2.2.2.2.2.1, kx_a j_n cyI 12 u.2.2.2.2.2.2.2.2.2.2.2.2.2.2.1, kx_3 h0 a_v a_n u.2.2.2.2.2.2.2.2.2.2.2.2.2.2.2.1 u.2.2.2.2.2.2.2.2.2.2.2.2.2.2.2.2.1 u.2.2.2.2.2.2.2.2.2.2.2.2.2.2.2.2.2.1, kx_a a_v cyI 12 u.2.2.2.2.2.2.2.2.2.2.2.2.2.2.2.2.2.2.1, kx_a a_n cyI 12 u.2.2.2.2.2.2.2.2.2.2.2.2.2.2.2.2.2.2.2.1]) A) ([.ref m_, .int p0, .int p1, .int p2, .int p3] : List Value).toArray s 0 0 A) (F0 m 55 ls []) := by
                  intro n
                  induction n with
                  | zero => intro i bp bt gc g_s g_o g_e g_v g_n g_js g_jl g_je g_jv g_jn g_vs g_vl g_ve g_vv g_vn LP1_h0 LP1_h1 LP1_h2 LP1_h3 hn; exact absurd hn (Nat.not_lt_zero _)
                  | succ n ih1 =>
                    intro i bp bt gc g_s g_o g_e g_v g_n g_js g_jl g_je g_jv g_jn g_vs g_vl g_ve g_vv g_vn LP1_h0 LP1_h1 LP1_h2 LP1_h3 hn1 H locs hP hD hS ls hl
                    refine lv_iload hx hb dX4_swings_55 (lv_at hl 0 rfl) ?_
                    refine lv_iload_n hx hb dX4_swings_57 rfl (lv_at hl 6 rfl) ?_
                    refine lv_icmp_ge (tgt := 93) hx hb dX4_swings_58 (by decide) (fun c_25 => ?_) (fun c_25 => ?_)
                    · have i_25 : p1.toInt ≤ i.toInt := kc_le c_25
                      refine lv_iload hx hb dX4_swings_93 (lv_at hl 8 rfl) ?_
                      refine lv_if_ne (tgt := 103) hx hb dX4_swings_95 (by decide) (fun c_26 => ?_) (fun c_26 => ?_)
                      · have i_26 : ¬ p3.toInt = 0 := kc_ne c_26
                        refine lv_iload hx hb dX4_swings_103 (lv_at hl 1 rfl) ?_
                        have hP9 := hP
                        have hD9 := hD
                        have hK9 := hK
                        exact W.iret (v := bt) hx hb hr (hlocks := hlocks) (fun t ht hW => ⟨⟨bt, (o_10, o_11, o_12, o_13, o_14, g_s, g_o, g_e, g_v, g_n, g_js, g_jl, g_je, g_jv, g_jn, g_vs, g_vl, g_ve, g_vv, g_vn, gc), rfl, ⟨(fun _ => ⟨w_9.2.1, (by (try dsimp only); have h9 := LP1_h3; rw [w_9.2.1] at h9; (try rw [LP1_h2]); exact h9)⟩), LP1_h1, LP1_h2⟩, by rw [ht]; exact hP9, va_K.moved hW.alike hK9, hD9⟩, hS.F ht⟩) hS.2.2 dX4_swings_105
                      · have i_26 : p3.toInt = 0 := kc_eq c_26
                        refine lv_iload hx hb dX4_swings_98 (lv_at hl 2 rfl) ?_
                        refine lv_goto (tgt := 105) hx hb dX4_swings_100 (by decide) ?_
                        have hP9 := hP
                        have hD9 := hD
                        have hK9 := hK
                        exact W.iret (v := bp) hx hb hr (hlocks := hlocks) (fun t ht hW => ⟨⟨bp, (o_10, o_11, o_12, o_13, o_14, g_s, g_o, g_e, g_v, g_n, g_js, g_jl, g_je, g_jv, g_jn, g_vs, g_vl, g_ve, g_vv, g_vn, gc), rfl, ⟨(fun _ => ⟨w_9.2.1, (by (try dsimp only); have h9 := LP1_h3; rw [w_9.2.1] at h9; (try rw [LP1_h2]); exact h9)⟩), LP1_h1, LP1_h2⟩, by rw [ht]; exact hP9, va_K.moved hW.alike hK9, hD9⟩, hS.F ht⟩) hS.2.2 dX4_swings_105
                    · have i_25 : i.toInt < p1.toInt := kc_nle c_25
                      refine lv_aload_n hx hb dX4_swings_61 rfl (lv_at hl 4 rfl) ?_
                      refine lv_aload hx hb dX4_swings_62 (lv_at hl 3 rfl) ?_
                      refine lv_iload hx hb dX4_swings_64 (lv_at hl 0 rfl) ?_
                      refine lv_iload_n hx hb dX4_swings_66 rfl (lv_at hl 7 rfl) ?_
                      have hPc := hP
                      have hKc := hK
                      have hDc := hD
                      have hFc := kx_free hD hS hA
                      refine va_calli (va_runV (As := [.ref q_t, .int i, .int p2]) (rest := []) ⟨hx, hb, hml, hown, hts⟩ (kx_un (c_X4_rootTotalWith_x l dC dI m_ q_row q_t t_ h0 k0 w_ z_ slots o_10 q_joined q_from q_to q_size q_lossOf q_lessBy q_value q_number o_11 o_12 q_cell cyI len gc o_13 o_14 g_s g_o g_v g_n g_e j_v j_n g_js g_jl g_je g_jv g_jn a_v a_n g_vs g_vl g_ve g_vv g_vn i p2 H.size w_9.2.2.2.2.1 w_9.2.2.2.2.2.1 a1 LP1_h1 w_9.2.2.2.2.2.2 (by rw [w_9.2.1]; omega) (by rw [w_9.2.1]; omega) (by rw [LP1_h2]; exact LP1_h3) (om_0 w_1.1 LP1_h0) (om_209 a1 w_1.2.2 i_25))) (cwV 3 hts gX4_swings_X4_rootTotalWith rfl rfl rfl (by decide +kernel) ⟨Nat.le_of_ble_eq_true rfl, Nat.le_of_ble_eq_true rfl⟩) ⟨fun a U g mk q => by obtain ⟨q0, q1, qP, qK, qD⟩ := q; exact ⟨q0, q1, qP, va_K.moved (u := U) (U := U.calling g mk a) (Vm.Alike.refl U.vm) qK, qD⟩, kx_rc4 hKc hPc (q0 := 0) rfl, fun U hU hW => ⟨rfl, by rw [hU], by rw [hU]; exact hPc, va_K.moved hW.alike hKc, hDc.weaken (fun _ _ _ _ => trivial)⟩⟩ rfl rfl hl.1 rfl (lv_room (Nat.le_of_ble_eq_true rfl)) dX4_swings_67 ⟨Nat.le_of_ble_eq_true rfl, Nat.le_of_ble_eq_true rfl⟩) hS (fun q _ h => hFc q h) hFc (fun r_27 u t H1 locs ht hvm w_27 hB hz1 hk1 hS => ?_)
                      obtain ⟨o_28, o_29, o_30, o_31, o_32, o_33, o_34, o_35, o_36, o_37, o_38, o_39, o_40, o_41, o_42, o_43⟩ := u
                      dsimp only at w_27 hB
                      obtain ⟨hP1, hK1, hD1⟩ := hB
                      rw [ht] at hP1
                      have hK1 := va_K.moved hvm.symm hK1
                      have hD := hD1.weaken (fun _ q _ h => hFc q.1 h)
                      have hP := hP1
                      clear hP1 hD1 hK1 hk1 hz1 hFc hDc hPc hKc
                      generalize H1 = H at hP hS ⊢
                      have w_27 : o_28 = gc ∧ sixes o_29 ∧ mj_C o_12.toNatClampNeg gc o_13 o_14 o_29 o_30 o_31 o_32 o_33 o_11.toInt len.toInt := w_27
                      refine lv_istore (lv' := [(9, .int r_27), (8, .int i), (7, .int bt), (6, .int bp), (5, .ref q_t), (0, .ref m_), (1, .int p0), (2, .int p1), (3, .int p2), (4, .int p3)]) hx hb dX4_swings_70 hl (by decide) rfl (fun ls hl => ?_)
                      refine lv_iload hx hb dX4_swings_72 (lv_at hl 0 rfl) ?_
                      refine lv_iload hx hb dX4_swings_74 (lv_at hl 2 rfl) ?_
                      refine lv_icmp_le (tgt := 87) hx hb dX4_swings_76 (by decide) (fun c_44 => ?_) (fun c_44 => ?_)
                      · have i_44 : r_27.toInt ≤ bt.toInt := kc_le c_44
                        obtain ⟨x_45, ex_45⟩ : ∃ y : Int32, y = i + 1 := ⟨_, rfl⟩
                        have i_45 : x_45.toInt = i.toInt + 1 := ki_add ex_45 rfl rfl (om_2 w_1.1 LP1_h0) (om_172 a1 w_1.2.2 i_25)
                        refine lv_iinc (v := x_45) (lv' := [(8, .int x_45), (9, .int r_27), (7, .int bt), (6, .int bp), (5, .ref q_t), (0, .ref m_), (1, .int p0), (2, .int p1), (3, .int p2), (4, .int p3)]) hx hb dX4_swings_87 hl (k := 1) rfl (by rw [ex_45]; rfl) (by decide) rfl (fun ls hl => ?_)
                        refine lv_goto (tgt := 55) hx hb dX4_swings_90 (by decide) ?_
                        exact ih1 x_45 bp bt o_28 o_29 o_30 o_31 o_32 o_33 o_34 o_35 o_36 o_37 o_38 o_39 o_40 o_41 o_42 o_43 (om_4 LP1_h0 i_45) w_27.2.1 (w_27.1.trans LP1_h2) (by have h9 := w_27.2.2; rw [LP1_h2] at h9; exact h9) (om_mu hn1 (om_5 i_45) (om_6 i_25)) _ _ hP hD hS ls (lv_sub hl [0, 2, 3, 4, 5, 6, 7, 8, 9] rfl)
                      · have i_44 : bt.toInt < r_27.toInt := kc_nle c_44
                        refine lv_iload hx hb dX4_swings_79 (lv_at hl 1 rfl) ?_
                        refine lv_istore (lv' := [(6, .int i), (9, .int r_27), (8, .int i), (7, .int bt), (5, .ref q_t), (0, .ref m_), (1, .int p0), (2, .int p1), (3, .int p2), (4, .int p3)]) hx hb dX4_swings_81 hl (by decide) rfl (fun ls hl => ?_)
                        refine lv_iload hx hb dX4_swings_83 (lv_at hl 1 rfl) ?_
                        refine lv_istore (lv' := [(7, .int r_27), (6, .int i), (9, .int r_27), (8, .int i), (5, .ref q_t), (0, .ref m_), (1, .int p0), (2, .int p1), (3, .int p2), (4, .int p3)]) hx hb dX4_swings_85 hl (by decide) rfl (fun ls hl => ?_)
                        obtain ⟨x_46, ex_46⟩ : ∃ y : Int32, y = i + 1 := ⟨_, rfl⟩
                        have i_46 : x_46.toInt = i.toInt + 1 := ki_add ex_46 rfl rfl (om_2 w_1.1 LP1_h0) (om_172 a1 w_1.2.2 i_25)
                        refine lv_iinc (v := x_46) (lv' := [(8, .int x_46), (7, .int r_27), (6, .int i), (9, .int r_27), (5, .ref q_t), (0, .ref m_), (1, .int p0), (2, .int p1), (3, .int p2), (4, .int p3)]) hx hb dX4_swings_87 hl (k := 3) rfl (by rw [ex_46]; rfl) (by decide) rfl (fun ls hl => ?_)
                        refine lv_goto (tgt := 55) hx hb dX4_swings_90 (by decide) ?_
                        exact ih1 x_46 i r_27 o_28 o_29 o_30 o_31 o_32 o_33 o_34 o_35 o_36 o_37 o_38 o_39 o_40 o_41 o_42 o_43 (om_4 LP1_h0 i_46) w_27.2.1 (w_27.1.trans LP1_h2) (by have h9 := w_27.2.2; rw [LP1_h2] at h9; exact h9) (om_mu hn1 (om_5 i_46) (om_6 i_25)) _ _ hP hD hS ls (lv_sub hl [0, 1, 2, 4, 5, 6, 7, 8, 9] rfl)
                have k_47 : ((-1) : Int32).toInt = -1 := rfl
                have k_48 : ((-1) : Int32).toInt = -1 := rfl
                exact LP1 ((p1.toInt - p0.toInt : Int).toNat + 1) p0 (-1) (-1) f o_15 o_16 o_17 o_18 o_19 o_20 o_21 o_22 o_23 o_24 vs lo le fv fn om_7 w_9.2.2.1 rfl (by rw [w_9.2.1]; exact w_9.2.2.2.1) (Nat.lt_succ_self _) _ _ hP hD hS ls (lv_sub hl [0, 1, 2, 3, 4, 5, 6, 7, 8] rfl)
              · have i_8 : 1 < p3.toInt := kc_nle c_8
                refine lv_iconst (v := (-1)) hx hb dX4_swings_38 (by decide) ?_
                have hP9 := hP
                have hD9 := hD
                have hK9 := hK
                exact W.iret (v := (-1)) hx hb hr (hlocks := hlocks) (fun t ht hW => ⟨⟨(-1), (old, nodes, here, ff, ft, fs, fo, fe, uv, un, js, jl, je, jv, jn, vs, lo, le, fv, fn, f), rfl, ⟨l0, s0, rfl⟩, by rw [ht]; exact hP9, va_K.moved hW.alike hK9, hD9⟩, hS.F ht⟩) hS.2.2 dX4_swings_39
        · have w_5 : (p2.toInt < -32768 ∨ 32767 < p2.toInt) := w_5
          refine lv_if_eq (tgt := 38) hx hb dX4_swings_24 (by decide) (fun c_49 => ?_) (fun c_49 => ?_)
          · refine lv_iconst (v := (-1)) hx hb dX4_swings_38 (by decide) ?_
            have hP9 := hP
            have hD9 := hD
            have hK9 := hK
            exact W.iret (v := (-1)) hx hb hr (hlocks := hlocks) (fun t ht hW => ⟨⟨(-1), (old, nodes, here, ff, ft, fs, fo, fe, uv, un, js, jl, je, jv, jn, vs, lo, le, fv, fn, f), rfl, ⟨l0, s0, rfl⟩, by rw [ht]; exact hP9, va_K.moved hW.alike hK9, hD9⟩, hS.F ht⟩) hS.2.2 dX4_swings_39
          · exact absurd c_49 (by decide)
  · have w_1 : (p0.toInt < 0 ∨ p1.toInt ≤ p0.toInt ∨ len.toInt < p1.toInt) := w_1
    refine lv_if_eq (tgt := 38) hx hb dX4_swings_9 (by decide) (fun c_50 => ?_) (fun c_50 => ?_)
    · refine lv_iconst (v := (-1)) hx hb dX4_swings_38 (by decide) ?_
      have hP9 := hP
      have hD9 := hD
      have hK9 := hK
      exact W.iret (v := (-1)) hx hb hr (hlocks := hlocks) (fun t ht hW => ⟨⟨(-1), (old, nodes, here, ff, ft, fs, fo, fe, uv, un, js, jl, je, jv, jn, vs, lo, le, fv, fn, f), rfl, ⟨l0, s0, rfl⟩, by rw [ht]; exact hP9, va_K.moved hW.alike hK9, hD9⟩, hS.F ht⟩) hS.2.2 dX4_swings_39
    · exact absurd c_50 (by decide)


