theorem mj_old {K : Nat} {f f2 ff ft fs fo fe uv un : Nat → Int32} {nd n l r : Int} (hC : ∀ k : Nat, (k : Int) < nd → mj_ok K f ff ft fs fo fe uv un k) (ht : treeOk ff ft nd n) (hf : ∀ p : Nat, ((p : Int) < l ∨ r ≤ (p : Int)) → f2 p = f p) : ∀ k : Nat, (k : Int) < nd → ¬ mj_hit ff ft l r k → mj_ok K f2 ff ft fs fo fe uv un k := by
  intro k hk hn
  obtain ⟨d, μ, L, c, t⟩ := hC k hk
  obtain ⟨a1, a2, a3, a4⟩ := ht k hk
  have n1 := ki_nat (ff k) rfl a1
  have n2 := ki_nat (ft k) rfl (by omega)
  refine ⟨d, μ, L, c, mj_T_row d _ _ _ _ _ _ t (fun p h1 h2 => hf p ?_)⟩
  unfold mj_hit at hn
  omega
theorem mj_fill_out {f : Nat → Int32} {l r : Nat} {v : Int32} {p : Nat} (h : p < l ∨ r ≤ p) : mj_fill f l r v p = f p := by
  unfold mj_fill
  rw [if_neg (by omega)]
theorem mj_turn_out {f : Nat → Int32} {l r p : Nat} (h : p < l ∨ r ≤ p) : mj_turn f l r p = f p := by
  unfold mj_turn
  rw [if_neg (by omega)]
theorem mj_C_new {K : Nat} {f f2 ff ft fs fo fe uv un fs2 fo2 fe2 uv2 un2 : Nat → Int32} {nd n : Int} (h : mj_C K f ff ft fs fo fe uv un nd n) (ok : ∀ k : Nat, (k : Int) < nd → mj_ok K f2 ff ft fs2 fo2 fe2 uv2 un2 k) : mj_C K f2 ff ft fs2 fo2 fe2 uv2 un2 nd n := ⟨h.1, h.2.1, h.2.2.1, h.2.2.2.1, h.2.2.2.2.1, h.2.2.2.2.2.1, ok⟩

set_option maxHeartbeats 4000000 in
set_option maxRecDepth 100000 in
theorem c_X4_overwrite_xx (l : Launch) (dC : Nat → ClassId) (dI : Nat → Nat → Nat) (m_ : Nat) (q_row : Nat) (q_t : Nat) (t_ : Nat) (h0 : Nat) (k0 : Nat) (w_ : Nat) (z_ : Nat) (slots : Int32) (old : Int32) (q_joined : Nat) (q_from : Nat) (q_to : Nat) (q_size : Nat) (q_lossOf : Nat) (q_lessBy : Nat) (q_value : Nat) (q_number : Nat) (nodes : Int32) (here : Int32) (q_cell : Nat) (cyI : ClassId) (len : Int32) (f : Nat → Int32) (ff : Nat → Int32) (ft : Nat → Int32) (fs : Nat → Int32) (fo : Nat → Int32) (uv : Nat → Int32) (un : Nat → Int32) (fe : Nat → Int32) (j_v : Nat) (j_n : Nat) (js : Int32) (jl : Int32) (je : Int32) (jv : Nat → Int32) (jn : Nat → Int32) (p0 : Int32) (p1 : Int32) (p2 : Int32) (sz : Nat) (b0 : 0 ≤ nodes.toInt) (c0 : nodes.toInt ≤ 319) (c1 : len.toInt ≤ 160) (s0 : sixes fs) (t0 : treeOk ff ft nodes.toInt len.toInt) (d0 : 0 ≤ p0.toInt) (d1 : p1.toInt ≤ 160) (d2 : p0.toInt < p1.toInt) (kh0 : 1 ≤ here.toInt) (kh1 : here.toInt ≤ 6) (hC : mj_C here.toNatClampNeg f ff ft fs fo fe uv un nodes.toInt len.toInt) : Met l yX4_overwrite wsX4_overwrite ({ frames := 5, cells := 0, slots := 0, locals := 225 }) (va_Pc [.ref m_, .ref q_t, .int p0, .int p1, .int p2] (fun U => U.heap.size = sz ∧ va_P (dC, dI) vwCl [kx_4 m_ q_row q_t t_ h0 k0 w_ z_ slots old, kx_2 q_t q_row q_joined q_from q_to q_size q_lossOf q_lessBy q_value q_number nodes here, kx_0 q_row q_cell len, kx_a q_cell cyI 160 f, kx_a q_from cyI 319 ff, kx_a q_to cyI 319 ft, kx_a q_size cyI 319 fs, kx_a q_lossOf cyI 319 fo, kx_a q_lessBy cyI 319 fe, kx_a q_value cyI 1914 uv, kx_a q_number cyI 1914 un, kx_3 q_joined j_v j_n js jl je, kx_a j_v cyI 12 jv, kx_a j_n cyI 12 jn] U.heap ∧ va_K (dC, dI) vwCl [(cyI, .int)] U ∧ va_D (fun _ => True) [kx_4 m_ q_row q_t t_ h0 k0 w_ z_ slots old, kx_2 q_t q_row q_joined q_from q_to q_size q_lossOf q_lessBy q_value q_number nodes here, kx_0 q_row q_cell len, kx_a q_cell cyI 160 f, kx_a q_from cyI 319 ff, kx_a q_to cyI 319 ft, kx_a q_size cyI 319 fs, kx_a q_lossOf cyI 319 fo, kx_a q_lessBy cyI 319 fe, kx_a q_value cyI 1914 uv, kx_a q_number cyI 1914 un, kx_3 q_joined j_v j_n js jl je, kx_a j_v cyI 12 jv, kx_a j_n cyI 12 jn])) (va_Qi (fun (r : Int32) (u : (Nat → Int32) × (Nat → Int32) × (Nat → Int32) × (Nat → Int32) × (Nat → Int32) × (Nat → Int32) × Int32 × Int32 × Int32 × (Nat → Int32) × (Nat → Int32)) => u.1 = mj_fill f p0.toNatClampNeg p1.toNatClampNeg p2 ∧ sixes u.2.1 ∧ mj_C here.toNatClampNeg u.1 ff ft u.2.1 u.2.2.1 u.2.2.2.1 u.2.2.2.2.1 u.2.2.2.2.2.1 nodes.toInt len.toInt) (fun (u : (Nat → Int32) × (Nat → Int32) × (Nat → Int32) × (Nat → Int32) × (Nat → Int32) × (Nat → Int32) × Int32 × Int32 × Int32 × (Nat → Int32) × (Nat → Int32)) (t : State) => va_P (dC, dI) vwCl [kx_4 m_ q_row q_t t_ h0 k0 w_ z_ slots old, kx_2 q_t q_row q_joined q_from q_to q_size q_lossOf q_lessBy q_value q_number nodes here, kx_0 q_row q_cell len, kx_a q_cell cyI 160 u.1, kx_a q_from cyI 319 ff, kx_a q_to cyI 319 ft, kx_a q_size cyI 319 u.2.1, kx_a q_lossOf cyI 319 u.2.2.1, kx_a q_lessBy cyI 319 u.2.2.2.1, kx_a q_value cyI 1914 u.2.2.2.2.1, kx_a q_number cyI 1914 u.2.2.2.2.2.1, kx_3 q_joined j_v j_n u.2.2.2.2.2.2.1 u.2.2.2.2.2.2.2.1 u.2.2.2.2.2.2.2.2.1, kx_a j_v cyI 12 u.2.2.2.2.2.2.2.2.2.1, kx_a j_n cyI 12 u.2.2.2.2.2.2.2.2.2.2] t.heap ∧ va_K (dC, dI) vwCl [(cyI, .int)] t ∧ va_D (va_A [kx_4 m_ q_row q_t t_ h0 k0 w_ z_ slots old, kx_2 q_t q_row q_joined q_from q_to q_size q_lossOf q_lessBy q_value q_number nodes here, kx_0 q_row q_cell len, kx_a q_cell cyI 160 f, kx_a q_from cyI 319 ff, kx_a q_to cyI 319 ft, kx_a q_size cyI 319 fs, kx_a q_lossOf cyI 319 fo, kx_a q_lessBy cyI 319 fe, kx_a q_value cyI 1914 uv, kx_a q_number cyI 1914 un, kx_3 q_joined j_v j_n js jl je, kx_a j_v cyI 12 jv, kx_a j_n cyI 12 jn] sz) [kx_4 m_ q_row q_t t_ h0 k0 w_ z_ slots old, kx_2 q_t q_row q_joined q_from q_to q_size q_lossOf q_lessBy q_value q_number nodes here, kx_0 q_row q_cell len, kx_a q_cell cyI 160 u.1, kx_a q_from cyI 319 ff, kx_a q_to cyI 319 ft, kx_a q_size cyI 319 u.2.1, kx_a q_lossOf cyI 319 u.2.2.1, kx_a q_lessBy cyI 319 u.2.2.2.1, kx_a q_value cyI 1914 u.2.2.2.2.1, kx_a q_number cyI 1914 u.2.2.2.2.2.1, kx_3 q_joined j_v j_n u.2.2.2.2.2.2.1 u.2.2.2.2.2.2.2.1 u.2.2.2.2.2.2.2.2.1, kx_a j_v cyI 12 u.2.2.2.2.2.2.2.2.2.1, kx_a j_n cyI 12 u.2.2.2.2.2.2.2.2.2.2]) (va_A [kx_4 m_ q_row q_t t_ h0 k0 w_ z_ slots old, kx_2 q_t q_row q_joined q_from q_to q_size q_lossOf q_lessBy q_value q_number nodes here, kx_0 q_row q_cell len, kx_a q_cell cyI 160 f, kx_a q_from cyI 319 ff, kx_a q_to cyI 319 ft, kx_a q_size cyI 319 fs, kx_a q_lossOf cyI 319 fo, kx_a q_lessBy cyI 319 fe, kx_a q_value cyI 1914 uv, kx_a q_number cyI 1914 un, kx_3 q_joined j_v j_n js jl je, kx_a j_v cyI 12 jv, kx_a j_n cyI 12 jn] sz)) 0 0 (va_A [kx_4 m_ q_row q_t t_ h0 k0 w_ z_ slots old, kx_2 q_t q_row q_joined q_from q_to q_size q_lossOf q_lessBy q_value q_number nodes here, kx_0 q_row q_cell len, kx_a q_cell cyI 160 f, kx_a q_from cyI 319 ff, kx_a q_to cyI 319 ft, kx_a q_size cyI 319 fs, kx_a q_lossOf cyI 319 fo, kx_a q_lessBy cyI 319 fe, kx_a q_value cyI 1914 uv, kx_a q_number cyI 1914 un, kx_3 q_joined j_v j_n js jl je, kx_a j_v cyI 12 jv, kx_a j_n cyI 12 jn] sz) := by
  refine Met.ofW (cc := cX4_overwrite) (maxL := 6) (ret := (some .int)) (by decide) rfl ?_
  intro p e s m args below meth c s₁ B hml hv
  obtain ⟨rfl, hsz, hP, hK, hD0⟩ := hv
  have hx := B.exec
  have hb := B.bytes
  have hr := B.returns
  have hts := atoms_spec (ws := wsX4_overwrite) B.pre
  have hown : s.vm.findClass RX4 = some m.cls := findClass_of_methodNamed B.named
  have hlocks := B.notSynchronized
  subst hsz
  have hD := hD0.self (sz := s.heap.size)
  generalize hAe : va_A [kx_4 m_ q_row q_t t_ h0 k0 w_ z_ slots old, kx_2 q_t q_row q_joined q_from q_to q_size q_lossOf q_lessBy q_value q_number nodes here, kx_0 q_row q_cell len, kx_a q_cell cyI 160 f, kx_a q_from cyI 319 ff, kx_a q_to cyI 319 ft, kx_a q_size cyI 319 fs, kx_a q_lossOf cyI 319 fo, kx_a q_lessBy cyI 319 fe, kx_a q_value cyI 1914 uv, kx_a q_number cyI 1914 un, kx_3 q_joined j_v j_n js jl je, kx_a j_v cyI 12 jv, kx_a j_n cyI 12 jn] s.heap.size = A at hD ⊢
  have hA : ∀ q : Nat, s.heap.size ≤ q → A q := fun q h => by rw [← hAe]; exact Or.inr h
  have hS : va_S A s.heap s.heap [] := va_S.rf
  have hP : va_P (dC, dI) vwCl [kx_4 m_ q_row q_t t_ h0 k0 w_ z_ slots old, kx_2 q_t q_row q_joined q_from q_to q_size q_lossOf q_lessBy q_value q_number nodes here, kx_0 q_row q_cell len, kx_a q_cell cyI 160 f, kx_a q_from cyI 319 ff, kx_a q_to cyI 319 ft, kx_a q_size cyI 319 fs, kx_a q_lossOf cyI 319 fo, kx_a q_lessBy cyI 319 fe, kx_a q_value cyI 1914 uv, kx_a q_number cyI 1914 un, kx_3 q_joined j_v j_n js jl je, kx_a j_v cyI 12 jv, kx_a j_n cyI 12 jn] s.heap := hP
  have hl := lv_entry ([.ref m_, .ref q_t, .int p0, .int p1, .int p2]) (n := 6) (Nat.le_of_ble_eq_true rfl)
  rw [lg_entry_eq]
  generalize (lg_sl ([.ref m_, .ref q_t, .int p0, .int p1, .int p2]) ++ List.replicate (6 - (lg_sl ([.ref m_, .ref q_t, .int p0, .int p1, .int p2])).length) Slot.unset).toArray = ls at hl ⊢
  have hl : lv_has ls 6 [(0, .ref m_), (1, .ref q_t), (2, .int p0), (3, .int p1), (4, .int p2)] := hl
  have hf_12 := hts (.fieldLink RX4 12 "MajorityIndex" "row" "LMajorityIndex$Row;") (List.mem_of_getElem? (i := 1) rfl)
  have hi_4 : ∀ w ∈ u_ws RX4 TX4 9, w ∈ wsX4_overwrite := fun w h => List.mem_cons_of_mem _ (List.mem_append_left _ (List.mem_append_left _ (List.mem_append_left _ (List.mem_append_right _ h))))
  have hf_110 := hts (.fieldLink RX4 110 "MajorityIndex$Row" "cell" "[I") (List.mem_of_getElem? (i := 2) rfl)
  have hi_0 : ∀ w ∈ u_ws RX0 TX0 2, w ∈ wsX4_overwrite := fun w h => List.mem_cons_of_mem _ (List.mem_append_left _ (List.mem_append_left _ (List.mem_append_right _ h)))
  refine lv_iload_n hx hb dX4_overwrite_0 rfl (lv_at hl 2 rfl) ?_
  refine lv_istore (lv' := [(5, .int p0), (0, .ref m_), (1, .ref q_t), (2, .int p0), (3, .int p1), (4, .int p2)]) hx hb dX4_overwrite_1 hl (by decide) rfl (fun ls hl => ?_)
  have LP1 : ∀ (n : Nat) (i : Int32) (gc : Nat → Int32), (p0.toInt ≤ i.toInt) → (i.toInt ≤ p1.toInt) → (gc = mj_fill f p0.toNatClampNeg i.toNatClampNeg p2) → (p1.toInt - i.toInt).toNat < n → ∀ (H : Heap) (locs : List Loc), va_P (dC, dI) vwCl [kx_4 m_ q_row q_t t_ h0 k0 w_ z_ slots old, kx_2 q_t q_row q_joined q_from q_to q_size q_lossOf q_lessBy q_value q_number nodes here, kx_0 q_row q_cell len, kx_a q_cell cyI 160 gc, kx_a q_from cyI 319 ff, kx_a q_to cyI 319 ft, kx_a q_size cyI 319 fs, kx_a q_lossOf cyI 319 fo, kx_a q_lessBy cyI 319 fe, kx_a q_value cyI 1914 uv, kx_a q_number cyI 1914 un, kx_3 q_joined j_v j_n js jl je, kx_a j_v cyI 12 jv, kx_a j_n cyI 12 jn] H → va_D A [kx_4 m_ q_row q_t t_ h0 k0 w_ z_ slots old, kx_2 q_t q_row q_joined q_from q_to q_size q_lossOf q_lessBy q_value q_number nodes here, kx_0 q_row q_cell len, kx_a q_cell cyI 160 gc, kx_a q_from cyI 319 ff, kx_a q_to cyI 319 ft, kx_a q_size cyI 319 fs, kx_a q_lossOf cyI 319 fo, kx_a q_lessBy cyI 319 fe, kx_a q_value cyI 1914 uv, kx_a q_number cyI 1914 un, kx_3 q_joined j_v j_n js jl je, kx_a j_v cyI 12 jv, kx_a j_n cyI 12 jn] → va_S A s.heap H locs → ∀ (ls : Array Slot), lv_has ls 6 [(5, .int i), (0, .ref m_), (1, .ref q_t), (2, .int p0), (3, .int p1), (4, .int p2)] → W p l e (headSpec wsX4_overwrite ({ frames := 5, cells := 0, slots := 0, locals := 225 })).room s m ([.ref m_, .ref q_t, .int p0, .int p1, .int p2] : List Value).toArray below meth c H locs 0 0 (MQ below (va_Qi (fun (r : Int32) (u : (Nat → Int32) × (Nat → Int32) × (Nat → Int32) × (Nat → Int32) × (Nat → Int32) × (Nat → Int32) × Int32 × Int32 × Int32 × (Nat → Int32) × (Nat → Int32)) => u.1 = mj_fill f p0.toNatClampNeg p1.toNatClampNeg p2 ∧ sixes u.2.1 ∧ mj_C here.toNatClampNeg u.1 ff ft u.2.1 u.2.2.1 u.2.2.2.1 u.2.2.2.2.1 u.2.2.2.2.2.1 nodes.toInt len.toInt) (fun (u : (Nat → Int32) × (Nat → Int32) × (Nat → Int32) × (Nat → Int32) × (Nat → Int32) × (Nat → Int32) × Int32 × Int32 × Int32 × (Nat → Int32) × (Nat → Int32)) (t : State) => va_P (dC, dI) vwCl [kx_4 m_ q_row q_t t_ h0 k0 w_ z_ slots old, kx_2 q_t q_row q_joined q_from q_to q_size q_lossOf q_lessBy q_value q_number nodes here, kx_0 q_row q_cell len, kx_a q_cell cyI 160 u.1, kx_a q_from cyI 319 ff, kx_a q_to cyI 319 ft, kx_a q_size cyI 319 u.2.1, kx_a q_lossOf cyI 319 u.2.2.1, kx_a q_lessBy cyI 319 u.2.2.2.1, kx_a q_value cyI 1914 u.2.2.2.2.1, kx_a q_number cyI 1914 u.2.2.2.2.2.1, kx_3 q_joined j_v j_n u.2.2.2.2.2.2.1 u.2.2.2.2.2.2.2.1 u.2.2.2.2.2.2.2.2.1, kx_a j_v cyI 12 u.2.2.2.2.2.2.2.2.2.1, kx_a j_n cyI 12 u.2.2.2.2.2.2.2.2.2.2] t.heap ∧ va_K (dC, dI) vwCl [(cyI, .int)] t ∧ va_D A [kx_4 m_ q_row q_t t_ h0 k0 w_ z_ slots old, kx_2 q_t q_row q_joined q_from q_to q_size q_lossOf q_lessBy q_value q_number nodes here, kx_0 q_row q_cell len, kx_a q_cell cyI 160 u.1, kx_a q_from cyI 319 ff, kx_a q_to cyI 319 ft, kx_a q_size cyI 319 u.2.1, kx_a q_lossOf cyI 319 u.2.2.1, kx_a q_lessBy cyI 319 u.2.2.2.1, kx_a q_value cyI 1914 u.2.2.2.2.1, kx_a q_number cyI 1914 u.2.2.2.2.2.1, kx_3 q_joined j_v j_n u.2.2.2.2.2.2.1 u.2.2.2.2.2.2.2.1 u.2.2.2.2.2.2.2.2.1, kx_a j_v cyI 12 u.2.2.2.2.2.2.2.2.2.1, kx_a j_n cyI 12 u.2.2.2.2.2.2.2.2.2.2]) A) ([.ref m_, .ref q_t, .int p0, .int p1, .int p2] : List Value).toArray s 0 0 A) (F0 m 3 ls []) := by
    intro n
    induction n with
    | zero => intro i gc LP1_h0 LP1_h1 LP1_h2 hn; exact absurd hn (Nat.not_lt_zero _)
    | succ n ih1 =>
      intro i gc LP1_h0 LP1_h1 LP1_h2 hn1 H locs hP hD hS ls hl
      have n_i := ki_nat i rfl (om_0 d0 LP1_h0)
      have n_p0 := ki_nat p0 rfl (om_8 d0)
      have n_p1 := ki_nat p1 rfl (om_18 d0 d2)
      refine lv_iload hx hb dX4_overwrite_3 (lv_at hl 0 rfl) ?_
      refine lv_iload_n hx hb dX4_overwrite_5 rfl (lv_at hl 4 rfl) ?_
      refine lv_icmp_ge (tgt := 27) hx hb dX4_overwrite_6 (by decide) (fun c_1 => ?_) (fun c_1 => ?_)
      · have i_1 : p1.toInt ≤ i.toInt := kc_le c_1
        refine lv_aload_n hx hb dX4_overwrite_27 rfl (lv_at hl 2 rfl) ?_
        refine lv_iload_n hx hb dX4_overwrite_28 rfl (lv_at hl 3 rfl) ?_
        refine lv_iload_n hx hb dX4_overwrite_29 rfl (lv_at hl 4 rfl) ?_
        obtain ⟨hPc, hDc, hFc, hCc⟩ := kx_pre (wc := [kx_2 q_t q_row q_joined q_from q_to q_size q_lossOf q_lessBy q_value q_number nodes here, kx_0 q_row q_cell len, kx_a q_cell cyI 160 gc, kx_a q_from cyI 319 ff, kx_a q_to cyI 319 ft, kx_a q_size cyI 319 fs, kx_a q_lossOf cyI 319 fo, kx_a q_lessBy cyI 319 fe, kx_a q_value cyI 1914 uv, kx_a q_number cyI 1914 un, kx_3 q_joined j_v j_n js jl je, kx_a j_v cyI 12 jv, kx_a j_n cyI 12 jn]) hP hD hS hA [1, 2, 3, 4, 5, 6, 7, 8, 9, 10, 11, 12, 13] (by decide) rfl
        have hKc := hK
        refine va_calli (va_runV (As := [.int p0, .int p1]) (rest := []) ⟨hx, hb, hml, hown, hts⟩ (c_X2_renew_x l dC dI q_t q_row q_joined q_from q_to q_size q_lossOf q_lessBy q_value q_number nodes here q_cell cyI len gc ff ft fs fo uv un fe j_v j_n js jl je jv jn p0 p1 H.size b0 c0 c1 s0 t0 kh0 kh1 hC.2.2.2.2.1 (mj_old hC.2.2.2.2.2.2 t0 (fun p hp => by rw [LP1_h2]; exact mj_fill_out (by omega)))) (cwV 2 hts gX4_overwrite_X2_renew rfl rfl rfl (by decide +kernel) ⟨Nat.le_of_ble_eq_true rfl, Nat.le_of_ble_eq_true rfl⟩) ⟨fun a U g mk q => by obtain ⟨q0, q1, qP, qK, qD⟩ := q; exact ⟨q0, q1, qP, va_K.moved (u := U) (U := U.calling g mk a) (Vm.Alike.refl U.vm) qK, qD⟩, va_recv hKc hPc (ci := 2) (q0 := 0) rfl rfl, fun U hU hW => ⟨rfl, by rw [hU], by rw [hU]; exact hPc, va_K.moved hW.alike hKc, hDc.weaken (fun _ _ _ _ => trivial)⟩⟩ rfl rfl hl.1 rfl (lv_room (Nat.le_of_ble_eq_true rfl)) dX4_overwrite_30 ⟨Nat.le_of_ble_eq_true rfl, Nat.le_of_ble_eq_true rfl⟩) hS (fun q _ h => hFc q h) hFc (fun r_2 u t H1 locs ht hvm w_2 hB hz1 hk1 hS => ?_)
        obtain ⟨o_3, o_4, o_5, o_6, o_7, o_8, o_9, o_10, o_11, o_12⟩ := u
        dsimp only at w_2 hB
        obtain ⟨hP1, hK1, hD1⟩ := hB
        rw [ht] at hP1
        have hK1 := va_K.moved hvm.symm hK1
        obtain ⟨hP, hD⟩ := kx_join (w2 := [kx_4 m_ q_row q_t t_ h0 k0 w_ z_ slots old, kx_2 q_t q_row q_joined q_from q_to q_size q_lossOf q_lessBy q_value q_number nodes here, kx_0 q_row q_cell len, kx_a q_cell cyI 160 gc, kx_a q_from cyI 319 ff, kx_a q_to cyI 319 ft, kx_a q_size cyI 319 o_3, kx_a q_lossOf cyI 319 o_4, kx_a q_lessBy cyI 319 o_5, kx_a q_value cyI 1914 o_6, kx_a q_number cyI 1914 o_7, kx_3 q_joined j_v j_n o_8 o_9 o_10, kx_a j_v cyI 12 o_11, kx_a j_n cyI 12 o_12]) hP hD hP1 hD1 hk1 hFc [1, 2, 3, 4, 5, 6, 7, 8, 9, 10, 11, 12, 13] [0] hCc rfl (by decide) (by decide)
        clear hP1 hD1 hK1 hk1 hz1 hFc hDc hPc hKc hCc
        generalize H1 = H at hP hS ⊢
        have w_2 : sixes o_3 ∧ ∀ k : Nat, (k : Int) < nodes.toInt → mj_ok here.toNatClampNeg gc ff ft o_3 o_4 o_5 o_6 o_7 k := w_2
        have hP9 := hP
        have hD9 := hD
        have hK9 := hK
        exact W.iret (v := r_2) hx hb hr (fun t ht hW => ⟨⟨r_2, (gc, o_3, o_4, o_5, o_6, o_7, o_8, o_9, o_10, o_11, o_12), rfl, ⟨(by (try dsimp only); rw [LP1_h2, show i.toNatClampNeg = p1.toNatClampNeg by omega]), w_2.1, mj_C_new hC w_2.2⟩, by rw [ht]; exact hP9, va_K.moved hW.alike hK9, hD9⟩, hS.F ht⟩) hS.2.2 dX4_overwrite_33
      · have i_1 : i.toInt < p1.toInt := kc_nle c_1
        refine lv_aload_n hx hb dX4_overwrite_9 rfl (lv_at hl 1 rfl) ?_
        refine va_get (D := (dC, dI)) (ci := 4) (v := .ref q_row) (C := RX4) (T := TX4) (N := 9) hx hb hts hi_4 hown hK hP 0 rfl rfl 0 (by decide) hf_12 (fun _ h9 => h9) rfl dX4_overwrite_10 ?_
        refine va_get (D := (dC, dI)) (ci := 0) (v := .ref q_cell) (C := RX0) (T := TX0) (N := 2) hx hb hts hi_0 hown hK hP 2 rfl rfl 0 (by decide) hf_110 (fun _ h9 => h9) rfl dX4_overwrite_13 ?_
        refine lv_iload hx hb dX4_overwrite_16 (lv_at hl 0 rfl) ?_
        refine lv_iload hx hb dX4_overwrite_18 (lv_at hl 5 rfl) ?_
        refine va_iast hx hb hK hP hD hS 3 0 rfl rfl (ki_in (om_0 d0 LP1_h0) (om_1 d1 i_1)) dX4_overwrite_20 (fun H locs hP hD hS => ?_)
        obtain ⟨hP, hD⟩ := kx_re (w2 := [kx_4 m_ q_row q_t t_ h0 k0 w_ z_ slots old, kx_2 q_t q_row q_joined q_from q_to q_size q_lossOf q_lessBy q_value q_number nodes here, kx_0 q_row q_cell len, kx_a q_cell cyI 160 (upd gc i.toNatClampNeg p2), kx_a q_from cyI 319 ff, kx_a q_to cyI 319 ft, kx_a q_size cyI 319 fs, kx_a q_lossOf cyI 319 fo, kx_a q_lessBy cyI 319 fe, kx_a q_value cyI 1914 uv, kx_a q_number cyI 1914 un, kx_3 q_joined j_v j_n js jl je, kx_a j_v cyI 12 jv, kx_a j_n cyI 12 jn]) hP hD rfl
        obtain ⟨x_13, ex_13⟩ : ∃ y : Int32, y = i + 1 := ⟨_, rfl⟩
        have i_13 : x_13.toInt = i.toInt + 1 := ki_add ex_13 rfl rfl (om_2 d0 LP1_h0) (om_201 d1 LP1_h1)
        refine lv_iinc (v := x_13) (lv' := [(5, .int x_13), (0, .ref m_), (1, .ref q_t), (2, .int p0), (3, .int p1), (4, .int p2)]) hx hb dX4_overwrite_21 hl (k := 0) rfl (by rw [ex_13]; rfl) (by decide) rfl (fun ls hl => ?_)
        refine lv_goto (tgt := 3) hx hb dX4_overwrite_24 (by decide) ?_
        have n_14 := ki_nat x_13 rfl (om_80 d0 LP1_h0 i_13)
        exact ih1 x_13 (upd gc i.toNatClampNeg p2) (om_4 LP1_h0 i_13) (om_47 i_1 i_13) (by rw [LP1_h2]; exact mj_fill_step (by omega) (by omega)) (om_mu hn1 (om_5 i_13) (om_6 i_1)) _ _ hP hD hS ls (lv_sub hl [0, 1, 2, 3, 4, 5] rfl)
  exact LP1 ((p1.toInt - p0.toInt : Int).toNat + 1) p0 f om_7 (om_366 d2) (mj_fill_0 _ _ (Nat.le_refl _)).symm (Nat.lt_succ_self _) _ _ hP hD hS ls (lv_sub hl [0, 1, 2, 3, 4, 5] rfl)

set_option maxHeartbeats 4000000 in
set_option maxRecDepth 100000 in
theorem c_X4_set_X (l : Launch) (dC : Nat → ClassId) (dI : Nat → Nat → Nat) (m_ : Nat) (q_row : Nat) (q_t : Nat) (t_ : Nat) (h0 : Nat) (k0 : Nat) (w_ : Nat) (z_ : Nat) (slots : Int32) (old : Int32) (q_joined : Nat) (q_from : Nat) (q_to : Nat) (q_size : Nat) (q_lossOf : Nat) (q_lessBy : Nat) (q_value : Nat) (q_number : Nat) (nodes : Int32) (here : Int32) (q_cell : Nat) (cyI : ClassId) (len : Int32) (f : Nat → Int32) (ff : Nat → Int32) (ft : Nat → Int32) (fs : Nat → Int32) (fo : Nat → Int32) (uv : Nat → Int32) (un : Nat → Int32) (fe : Nat → Int32) (j_v : Nat) (j_n : Nat) (js : Int32) (jl : Int32) (je : Int32) (jv : Nat → Int32) (jn : Nat → Int32) (p0 : Int32) (p1 : Int32) (sz : Nat) (a0 : 0 ≤ len.toInt) (a1 : len.toInt ≤ 160) (s0 : sixes fs) (sl0 : 1 ≤ slots.toInt) (sl1 : slots.toInt ≤ 6) (l0 : laidX old slots here f ff ft fs fo fe uv un nodes len) (s1 : shorts f) : Met l yX4_set wsX4_set ({ frames := 6, cells := 0, slots := 0, locals := 270 }) (va_Pc [.ref m_, .int p0, .int p1] (fun U => U.heap.size = sz ∧ va_P (dC, dI) vwCl [kx_4 m_ q_row q_t t_ h0 k0 w_ z_ slots old, kx_2 q_t q_row q_joined q_from q_to q_size q_lossOf q_lessBy q_value q_number nodes here, kx_0 q_row q_cell len, kx_a q_cell cyI 160 f, kx_a q_from cyI 319 ff, kx_a q_to cyI 319 ft, kx_a q_size cyI 319 fs, kx_a q_lossOf cyI 319 fo, kx_a q_lessBy cyI 319 fe, kx_a q_value cyI 1914 uv, kx_a q_number cyI 1914 un, kx_3 q_joined j_v j_n js jl je, kx_a j_v cyI 12 jv, kx_a j_n cyI 12 jn] U.heap ∧ va_K (dC, dI) vwCl [(cyI, .int)] U ∧ va_D (fun _ => True) [kx_4 m_ q_row q_t t_ h0 k0 w_ z_ slots old, kx_2 q_t q_row q_joined q_from q_to q_size q_lossOf q_lessBy q_value q_number nodes here, kx_0 q_row q_cell len, kx_a q_cell cyI 160 f, kx_a q_from cyI 319 ff, kx_a q_to cyI 319 ft, kx_a q_size cyI 319 fs, kx_a q_lossOf cyI 319 fo, kx_a q_lessBy cyI 319 fe, kx_a q_value cyI 1914 uv, kx_a q_number cyI 1914 un, kx_3 q_joined j_v j_n js jl je, kx_a j_v cyI 12 jv, kx_a j_n cyI 12 jn])) (va_Qi (fun (r : Int32) (u : Int32 × Int32 × Int32 × (Nat → Int32) × (Nat → Int32) × (Nat → Int32) × (Nat → Int32) × (Nat → Int32) × (Nat → Int32) × (Nat → Int32) × Int32 × Int32 × Int32 × (Nat → Int32) × (Nat → Int32) × (Nat → Int32)) => (((0 ≤ p0.toInt ∧ p0.toInt < len.toInt ∧ -32768 ≤ p1.toInt ∧ p1.toInt ≤ 32767) ∧ u.2.2.2.2.2.2.2.2.2.2.2.2.2.2.2 = upd f p0.toNatClampNeg p1) ∨ ((p0.toInt < 0 ∨ len.toInt ≤ p0.toInt ∨ p1.toInt < -32768 ∨ 32767 < p1.toInt) ∧ u.2.2.2.2.2.2.2.2.2.2.2.2.2.2.2 = f ∧ r = -1)) ∧ shorts u.2.2.2.2.2.2.2.2.2.2.2.2.2.2.2 ∧ laidX u.1 slots u.2.2.1 u.2.2.2.2.2.2.2.2.2.2.2.2.2.2.2 u.2.2.2.1 u.2.2.2.2.1 u.2.2.2.2.2.1 u.2.2.2.2.2.2.1 u.2.2.2.2.2.2.2.1 u.2.2.2.2.2.2.2.2.1 u.2.2.2.2.2.2.2.2.2.1 u.2.1 len ∧ sixes u.2.2.2.2.2.1) (fun (u : Int32 × Int32 × Int32 × (Nat → Int32) × (Nat → Int32) × (Nat → Int32) × (Nat → Int32) × (Nat → Int32) × (Nat → Int32) × (Nat → Int32) × Int32 × Int32 × Int32 × (Nat → Int32) × (Nat → Int32) × (Nat → Int32)) (t : State) => va_P (dC, dI) vwCl [kx_4 m_ q_row q_t t_ h0 k0 w_ z_ slots u.1, kx_2 q_t q_row q_joined q_from q_to q_size q_lossOf q_lessBy q_value q_number u.2.1 u.2.2.1, kx_0 q_row q_cell len, kx_a q_cell cyI 160 u.2.2.2.2.2.2.2.2.2.2.2.2.2.2.2, kx_a q_from cyI 319 u.2.2.2.1, kx_a q_to cyI 319 u.2.2.2.2.1, kx_a q_size cyI 319 u.2.2.2.2.2.1, kx_a q_lossOf cyI 319 u.2.2.2.2.2.2.1, kx_a q_lessBy cyI 319 u.2.2.2.2.2.2.2.1, kx_a q_value cyI 1914 u.2.2.2.2.2.2.2.2.1, kx_a q_number cyI 1914 u.2.2.2.2.2.2.2.2.2.1, kx_3 q_joined j_v j_n u.2.2.2.2.2.2.2.2.2.2.1 u.2.2.2.2.2.2.2.2.2.2.2.1 u.2.2.2.2.2.2.2.2.2.2.2.2.1, kx_a j_v cyI 12 u.2.2.2.2.2.2.2.2.2.2.2.2.2.1, kx_a j_n cyI 12 u.2.2.2.2.2.2.2.2.2.2.2.2.2.2.1] t.heap ∧ va_K (dC, dI) vwCl [(cyI, .int)] t ∧ va_D (va_A [kx_4 m_ q_row q_t t_ h0 k0 w_ z_ slots old, kx_2 q_t q_row q_joined q_from q_to q_size q_lossOf q_lessBy q_value q_number nodes here, kx_0 q_row q_cell len, kx_a q_cell cyI 160 f, kx_a q_from cyI 319 ff, kx_a q_to cyI 319 ft, kx_a q_size cyI 319 fs, kx_a q_lossOf cyI 319 fo, kx_a q_lessBy cyI 319 fe, kx_a q_value cyI 1914 uv, kx_a q_number cyI 1914 un, kx_3 q_joined j_v j_n js jl je, kx_a j_v cyI 12 jv, kx_a j_n cyI 12 jn] sz) [kx_4 m_ q_row q_t t_ h0 k0 w_ z_ slots u.1, kx_2 q_t q_row q_joined q_from q_to q_size q_lossOf q_lessBy q_value q_number u.2.1 u.2.2.1, kx_0 q_row q_cell len, kx_a q_cell cyI 160 u.2.2.2.2.2.2.2.2.2.2.2.2.2.2.2, kx_a q_from cyI 319 u.2.2.2.1, kx_a q_to cyI 319 u.2.2.2.2.1, kx_a q_size cyI 319 u.2.2.2.2.2.1, kx_a q_lossOf cyI 319 u.2.2.2.2.2.2.1, kx_a q_lessBy cyI 319 u.2.2.2.2.2.2.2.1, kx_a q_value cyI 1914 u.2.2.2.2.2.2.2.2.1, kx_a q_number cyI 1914 u.2.2.2.2.2.2.2.2.2.1, kx_3 q_joined j_v j_n u.2.2.2.2.2.2.2.2.2.2.1 u.2.2.2.2.2.2.2.2.2.2.2.1 u.2.2.2.2.2.2.2.2.2.2.2.2.1, kx_a j_v cyI 12 u.2.2.2.2.2.2.2.2.2.2.2.2.2.1, kx_a j_n cyI 12 u.2.2.2.2.2.2.2.2.2.2.2.2.2.2.1]) (va_A [kx_4 m_ q_row q_t t_ h0 k0 w_ z_ slots old, kx_2 q_t q_row q_joined q_from q_to q_size q_lossOf q_lessBy q_value q_number nodes here, kx_0 q_row q_cell len, kx_a q_cell cyI 160 f, kx_a q_from cyI 319 ff, kx_a q_to cyI 319 ft, kx_a q_size cyI 319 fs, kx_a q_lossOf cyI 319 fo, kx_a q_lessBy cyI 319 fe, kx_a q_value cyI 1914 uv, kx_a q_number cyI 1914 un, kx_3 q_joined j_v j_n js jl je, kx_a j_v cyI 12 jv, kx_a j_n cyI 12 jn] sz)) 0 0 (va_A [kx_4 m_ q_row q_t t_ h0 k0 w_ z_ slots old, kx_2 q_t q_row q_joined q_from q_to q_size q_lossOf q_lessBy q_value q_number nodes here, kx_0 q_row q_cell len, kx_a q_cell cyI 160 f, kx_a q_from cyI 319 ff, kx_a q_to cyI 319 ft, kx_a q_size cyI 319 fs, kx_a q_lossOf cyI 319 fo, kx_a q_lessBy cyI 319 fe, kx_a q_value cyI 1914 uv, kx_a q_number cyI 1914 un, kx_3 q_joined j_v j_n js jl je, kx_a j_v cyI 12 jv, kx_a j_n cyI 12 jn] sz) := by
  refine Met.ofW (cc := cX4_set) (maxL := 3) (ret := (some .int)) (by decide) rfl ?_
  intro p e s m args below meth c s₁ B hml hv
  obtain ⟨rfl, hsz, hP, hK, hD0⟩ := hv
  have hx := B.exec
  have hb := B.bytes
  have hr := B.returns
  have hts := atoms_spec (ws := wsX4_set) B.pre
  have hown : s.vm.findClass RX4 = some m.cls := findClass_of_methodNamed B.named
  have hlocks := B.notSynchronized
  subst hsz
  have hD := hD0.self (sz := s.heap.size)
  generalize hAe : va_A [kx_4 m_ q_row q_t t_ h0 k0 w_ z_ slots old, kx_2 q_t q_row q_joined q_from q_to q_size q_lossOf q_lessBy q_value q_number nodes here, kx_0 q_row q_cell len, kx_a q_cell cyI 160 f, kx_a q_from cyI 319 ff, kx_a q_to cyI 319 ft, kx_a q_size cyI 319 fs, kx_a q_lossOf cyI 319 fo, kx_a q_lessBy cyI 319 fe, kx_a q_value cyI 1914 uv, kx_a q_number cyI 1914 un, kx_3 q_joined j_v j_n js jl je, kx_a j_v cyI 12 jv, kx_a j_n cyI 12 jn] s.heap.size = A at hD ⊢
  have hA : ∀ q : Nat, s.heap.size ≤ q → A q := fun q h => by rw [← hAe]; exact Or.inr h
  have hS : va_S A s.heap s.heap [] := va_S.rf
  have hP : va_P (dC, dI) vwCl [kx_4 m_ q_row q_t t_ h0 k0 w_ z_ slots old, kx_2 q_t q_row q_joined q_from q_to q_size q_lossOf q_lessBy q_value q_number nodes here, kx_0 q_row q_cell len, kx_a q_cell cyI 160 f, kx_a q_from cyI 319 ff, kx_a q_to cyI 319 ft, kx_a q_size cyI 319 fs, kx_a q_lossOf cyI 319 fo, kx_a q_lessBy cyI 319 fe, kx_a q_value cyI 1914 uv, kx_a q_number cyI 1914 un, kx_3 q_joined j_v j_n js jl je, kx_a j_v cyI 12 jv, kx_a j_n cyI 12 jn] s.heap := hP
  have hl := lv_entry ([.ref m_, .int p0, .int p1]) (n := 3) (Nat.le_of_ble_eq_true rfl)
  rw [lg_entry_eq]
  generalize (lg_sl ([.ref m_, .int p0, .int p1]) ++ List.replicate (3 - (lg_sl ([.ref m_, .int p0, .int p1])).length) Slot.unset).toArray = ls at hl ⊢
  have hl : lv_has ls 3 [(0, .ref m_), (1, .int p0), (2, .int p1)] := hl
  have hf_12 := hts (.fieldLink RX4 12 "MajorityIndex" "row" "LMajorityIndex$Row;") (List.mem_of_getElem? (i := 1) rfl)
  have hi_4 : ∀ w ∈ u_ws RX4 TX4 9, w ∈ wsX4_set := fun w h => List.mem_cons_of_mem _ (List.mem_append_left _ (List.mem_append_left _ (List.mem_append_left _ (List.mem_append_right _ h))))
  refine lv_aload_n hx hb dX4_set_0 rfl (lv_at hl 0 rfl) ?_
  refine va_get (D := (dC, dI)) (ci := 4) (v := .ref q_row) (C := RX4) (T := TX4) (N := 9) hx hb hts hi_4 hown hK hP 0 rfl rfl 0 (by decide) hf_12 (fun _ h9 => h9) rfl dX4_set_1 ?_
  refine lv_iload_n hx hb dX4_set_4 rfl (lv_at hl 1 rfl) ?_
  have hPc := hP.sub (ws' := [kx_0 q_row q_cell len]) [2] rfl
  have hKc := hK.sub (tys' := []) [] rfl
  refine vp_callSi (W.runV (As := [.int p0]) (rest := []) ⟨hx, hb, hml, hown, hts⟩ (c_X0_hasPlace l dC dI q_row q_cell len p0) (cwV 1 hts gX4_set_X0_hasPlace rfl rfl rfl (by decide +kernel) ⟨Nat.le_of_ble_eq_true rfl, Nat.le_of_ble_eq_true rfl⟩) ⟨fun a U g mk q => by obtain ⟨q0, qP, qK⟩ := q; exact ⟨q0, qP, va_K.moved (u := U) (U := U.calling g mk a) (Vm.Alike.refl U.vm) qK⟩, va_recv hKc hPc (ci := 0) (q0 := 0) rfl rfl, fun U hU hW => ⟨rfl, by rw [hU]; exact hPc, va_K.moved hW.alike hKc⟩⟩ rfl rfl hl.1 rfl (lv_room (Nat.le_of_ble_eq_true rfl)) dX4_set_5 ⟨Nat.le_of_ble_eq_true rfl, Nat.le_of_ble_eq_true rfl⟩) (fun r_1 w_1 => ?_)
  rcases w_1 with ⟨rfl, w_1⟩ | ⟨rfl, w_1⟩
  · have w_1 : (0 ≤ p0.toInt ∧ p0.toInt < len.toInt) := w_1
    refine lv_if_eq (tgt := 18) hx hb dX4_set_8 (by decide) (fun c_2 => ?_) (fun c_2 => ?_)
    · exact absurd c_2 (by decide)
    · refine lv_iload_n hx hb dX4_set_11 rfl (lv_at hl 2 rfl) ?_
      have hPc := hP.sub (ws' := []) [] rfl
      have hKc := hK.sub (tys' := []) [] rfl
      refine vp_callSi (W.runS (As := [.int p1]) (rest := []) ⟨hx, hb, hml, hown, hts⟩ (c_X4_isValue l dC dI p1) (va_cwS 1 hts gX4_set_X4_isValue rfl rfl rfl (by decide +kernel) ⟨Nat.le_of_ble_eq_true rfl, Nat.le_of_ble_eq_true rfl⟩) ⟨fun a U g mk q => by obtain ⟨q0, qP, qK⟩ := q; exact ⟨q0, qP, va_K.moved (u := U) (U := U.calling g mk a) (Vm.Alike.refl U.vm) qK⟩, fun U hU hW => ⟨rfl, by rw [hU]; exact hPc, va_K.moved hW.alike hKc⟩⟩ rfl rfl hl.1 rfl (lv_room (Nat.le_of_ble_eq_true rfl)) dX4_set_12 ⟨Nat.le_of_ble_eq_true rfl, Nat.le_of_ble_eq_true rfl⟩) (fun r_3 w_3 => ?_)
      rcases w_3 with ⟨rfl, w_3⟩ | ⟨rfl, w_3⟩
      · have w_3 : (-32768 ≤ p1.toInt ∧ p1.toInt ≤ 32767) := w_3
        refine lv_if_ne (tgt := 20) hx hb dX4_set_15 (by decide) (fun c_4 => ?_) (fun c_4 => ?_)
        · refine lv_aload_n hx hb dX4_set_20 rfl (lv_at hl 0 rfl) ?_
          refine lv_aload_n hx hb dX4_set_21 rfl (lv_at hl 0 rfl) ?_
          have hPc := hP
          have hKc := hK
          have hDc := hD
          have hFc := kx_free hD hS hA
          refine va_callr (va_runV (As := []) (rest := [.ref m_]) ⟨hx, hb, hml, hown, hts⟩ (c_X4_laidTree_x l dC dI m_ q_row q_t t_ h0 k0 w_ z_ slots old q_joined q_from q_to q_size q_lossOf q_lessBy q_value q_number nodes here q_cell cyI len f ff ft fs fo uv un fe j_v j_n js jl je jv jn s.heap.size a0 a1 s0 sl0 sl1 l0) (cwV 0 hts gX4_set_X4_laidTree rfl rfl rfl (by decide +kernel) ⟨Nat.le_of_ble_eq_true rfl, Nat.le_of_ble_eq_true rfl⟩) ⟨fun a U g mk q => by obtain ⟨q0, q1, qP, qK, qD⟩ := q; exact ⟨q0, q1, qP, va_K.moved (u := U) (U := U.calling g mk a) (Vm.Alike.refl U.vm) qK, qD⟩, va_recv hKc hPc (ci := 4) (q0 := 0) rfl rfl, fun U hU hW => ⟨rfl, by rw [hU], by rw [hU]; exact hPc, va_K.moved hW.alike hKc, hDc.weaken (fun _ _ _ _ => trivial)⟩⟩ rfl rfl hl.1 rfl (lv_room (Nat.le_of_ble_eq_true rfl)) dX4_set_22 ⟨Nat.le_of_ble_eq_true rfl, Nat.le_of_ble_eq_true rfl⟩) hS (fun q _ h => hFc q h) hFc (fun u ra t H1 locs ht hvm w_5 hB hz1 hk1 hS => ?_)
          obtain ⟨o_6, o_7, o_8, o_9, o_10, o_11, o_12, o_13, o_14, o_15, o_16, o_17, o_18, o_19, o_20⟩ := u
          dsimp only at w_5 hB
          obtain ⟨er, hP1, hK1, hD1⟩ := hB
          rw [ht] at hP1
          have hK1 := va_K.moved hvm.symm hK1
          have hD := hD1.weaken (fun _ q _ h => hFc q.1 h)
          have hP := hP1
          clear hP1 hD1 hK1 hk1 hz1 hFc hDc hPc hKc
          generalize H1 = H at hP hS ⊢
          have w_5 : o_6.toInt = 0 ∧ o_8 = slots ∧ sixes o_11 ∧ mj_C slots.toNatClampNeg f o_9 o_10 o_11 o_12 o_13 o_14 o_15 o_7.toInt len.toInt ∧ 0 ≤ o_7.toInt ∧ o_7.toInt ≤ 319 ∧ treeOk o_9 o_10 o_7.toInt len.toInt := w_5
          rw [er]
          refine lv_iload_n hx hb dX4_set_25 rfl (lv_at hl 1 rfl) ?_
          refine lv_iload_n hx hb dX4_set_26 rfl (lv_at hl 1 rfl) ?_
          refine lv_iconst (v := 1) hx hb dX4_set_27 (by decide) ?_
          refine lv_iadd hx hb dX4_set_28 ?_
          refine lv_topi (fun y_21 ey_21 => ?_)
          have i_21 : y_21.toInt = p0.toInt + 1 := ki_add ey_21 rfl rfl (om_10 w_1.1) (om_3 a1 w_1.2)
          refine lv_iload_n hx hb dX4_set_29 rfl (lv_at hl 2 rfl) ?_
          have hPc := hP
          have hKc := hK
          have hDc := hD
          have hFc := kx_free hD hS hA
          refine va_calli (va_runV (As := [.ref q_t, .int p0, .int y_21, .int p1]) (rest := []) ⟨hx, hb, hml, hown, hts⟩ (c_X4_overwrite_xx l dC dI m_ q_row q_t t_ h0 k0 w_ z_ slots o_6 q_joined q_from q_to q_size q_lossOf q_lessBy q_value q_number o_7 o_8 q_cell cyI len f o_9 o_10 o_11 o_12 o_14 o_15 o_13 j_v j_n o_16 o_17 o_18 o_19 o_20 p0 y_21 p1 H.size w_5.2.2.2.2.1 w_5.2.2.2.2.2.1 a1 w_5.2.2.1 w_5.2.2.2.2.2.2 (om_8 w_1.1) (om_162 a1 w_1.2 i_21) (om_264 i_21) (by rw [w_5.2.1]; omega) (by rw [w_5.2.1]; omega) (by rw [w_5.2.1]; exact w_5.2.2.2.1)) (cwV 4 hts gX4_set_X4_overwrite rfl rfl rfl (by decide +kernel) ⟨Nat.le_of_ble_eq_true rfl, Nat.le_of_ble_eq_true rfl⟩) ⟨fun a U g mk q => by obtain ⟨q0, q1, qP, qK, qD⟩ := q; exact ⟨q0, q1, qP, va_K.moved (u := U) (U := U.calling g mk a) (Vm.Alike.refl U.vm) qK, qD⟩, va_recv hKc hPc (ci := 4) (q0 := 0) rfl rfl, fun U hU hW => ⟨rfl, by rw [hU], by rw [hU]; exact hPc, va_K.moved hW.alike hKc, hDc.weaken (fun _ _ _ _ => trivial)⟩⟩ rfl rfl hl.1 rfl (lv_room (Nat.le_of_ble_eq_true rfl)) dX4_set_30 ⟨Nat.le_of_ble_eq_true rfl, Nat.le_of_ble_eq_true rfl⟩) hS (fun q _ h => hFc q h) hFc (fun r_22 u t H1 locs ht hvm w_22 hB hz1 hk1 hS => ?_)
          obtain ⟨o_23, o_24, o_25, o_26, o_27, o_28, o_29, o_30, o_31, o_32, o_33⟩ := u
          dsimp only at w_22 hB
          obtain ⟨hP1, hK1, hD1⟩ := hB
          rw [ht] at hP1
          have hK1 := va_K.moved hvm.symm hK1
          have hD := hD1.weaken (fun _ q _ h => hFc q.1 h)
          have hP := hP1
          clear hP1 hD1 hK1 hk1 hz1 hFc hDc hPc hKc
          generalize H1 = H at hP hS ⊢
          have w_22 : o_23 = mj_fill f p0.toNatClampNeg y_21.toNatClampNeg p1 ∧ sixes o_24 ∧ mj_C o_8.toNatClampNeg o_23 o_9 o_10 o_24 o_25 o_26 o_27 o_28 o_7.toInt len.toInt := w_22
          have hP9 := hP
          have hD9 := hD
          have hK9 := hK
          have n_34 := ki_nat y_21 rfl (om_31 w_1.1 i_21)
          have n_p0 := ki_nat p0 rfl (om_8 w_1.1)
          have e_f : o_23 = upd f p0.toNatClampNeg p1 := w_22.1.trans (mj_fill_one f p1 (by omega))
          exact W.iret (v := r_22) hx hb hr (fun t ht hW => ⟨⟨r_22, (o_6, o_7, o_8, o_9, o_10, o_24, o_25, o_26, o_27, o_28, o_29, o_30, o_31, o_32, o_33, o_23), rfl, ⟨Or.inl ⟨by omega, e_f⟩, (by (try dsimp only); rw [e_f]; exact shorts_upd s1 (by omega) (by omega)), (fun _ => ⟨w_5.2.1, (by have h9 := w_22.2.2; rw [w_5.2.1] at h9; exact h9)⟩), w_22.2.1⟩, by rw [ht]; exact hP9, va_K.moved hW.alike hK9, hD9⟩, hS.F ht⟩) hS.2.2 dX4_set_33
        · exact absurd c_4 (by decide)
      · have w_3 : (p1.toInt < -32768 ∨ 32767 < p1.toInt) := w_3
        refine lv_if_ne (tgt := 20) hx hb dX4_set_15 (by decide) (fun c_35 => ?_) (fun c_35 => ?_)
        · exact absurd c_35 (by decide)
        · refine lv_iconst (v := (-1)) hx hb dX4_set_18 (by decide) ?_
          have hP9 := hP
          have hD9 := hD
          have hK9 := hK
          exact W.iret (v := (-1)) hx hb hr (fun t ht hW => ⟨⟨(-1), (old, nodes, here, ff, ft, fs, fo, fe, uv, un, js, jl, je, jv, jn, f), rfl, ⟨Or.inr ⟨by omega, rfl, rfl⟩, s1, l0, s0⟩, by rw [ht]; exact hP9, va_K.moved hW.alike hK9, hD9⟩, hS.F ht⟩) hS.2.2 dX4_set_19
  · have w_1 : (p0.toInt < 0 ∨ len.toInt ≤ p0.toInt) := w_1
    refine lv_if_eq (tgt := 18) hx hb dX4_set_8 (by decide) (fun c_36 => ?_) (fun c_36 => ?_)
    · refine lv_iconst (v := (-1)) hx hb dX4_set_18 (by decide) ?_
      have hP9 := hP
      have hD9 := hD
      have hK9 := hK
      exact W.iret (v := (-1)) hx hb hr (fun t ht hW => ⟨⟨(-1), (old, nodes, here, ff, ft, fs, fo, fe, uv, un, js, jl, je, jv, jn, f), rfl, ⟨Or.inr ⟨by omega, rfl, rfl⟩, s1, l0, s0⟩, by rw [ht]; exact hP9, va_K.moved hW.alike hK9, hD9⟩, hS.F ht⟩) hS.2.2 dX4_set_19
    · exact absurd c_36 (by decide)

set_option maxHeartbeats 4000000 in
set_option maxRecDepth 100000 in
theorem c_X4_fill_X (l : Launch) (dC : Nat → ClassId) (dI : Nat → Nat → Nat) (m_ : Nat) (q_row : Nat) (q_t : Nat) (t_ : Nat) (h0 : Nat) (k0 : Nat) (w_ : Nat) (z_ : Nat) (slots : Int32) (old : Int32) (q_joined : Nat) (q_from : Nat) (q_to : Nat) (q_size : Nat) (q_lossOf : Nat) (q_lessBy : Nat) (q_value : Nat) (q_number : Nat) (nodes : Int32) (here : Int32) (q_cell : Nat) (cyI : ClassId) (len : Int32) (f : Nat → Int32) (ff : Nat → Int32) (ft : Nat → Int32) (fs : Nat → Int32) (fo : Nat → Int32) (uv : Nat → Int32) (un : Nat → Int32) (fe : Nat → Int32) (j_v : Nat) (j_n : Nat) (js : Int32) (jl : Int32) (je : Int32) (jv : Nat → Int32) (jn : Nat → Int32) (p0 : Int32) (p1 : Int32) (p2 : Int32) (sz : Nat) (a0 : 0 ≤ len.toInt) (a1 : len.toInt ≤ 160) (s0 : sixes fs) (sl0 : 1 ≤ slots.toInt) (sl1 : slots.toInt ≤ 6) (l0 : laidX old slots here f ff ft fs fo fe uv un nodes len) (s1 : shorts f) : Met l yX4_fill wsX4_fill ({ frames := 6, cells := 0, slots := 0, locals := 270 }) (va_Pc [.ref m_, .int p0, .int p1, .int p2] (fun U => U.heap.size = sz ∧ va_P (dC, dI) vwCl [kx_4 m_ q_row q_t t_ h0 k0 w_ z_ slots old, kx_2 q_t q_row q_joined q_from q_to q_size q_lossOf q_lessBy q_value q_number nodes here, kx_0 q_row q_cell len, kx_a q_cell cyI 160 f, kx_a q_from cyI 319 ff, kx_a q_to cyI 319 ft, kx_a q_size cyI 319 fs, kx_a q_lossOf cyI 319 fo, kx_a q_lessBy cyI 319 fe, kx_a q_value cyI 1914 uv, kx_a q_number cyI 1914 un, kx_3 q_joined j_v j_n js jl je, kx_a j_v cyI 12 jv, kx_a j_n cyI 12 jn] U.heap ∧ va_K (dC, dI) vwCl [(cyI, .int)] U ∧ va_D (fun _ => True) [kx_4 m_ q_row q_t t_ h0 k0 w_ z_ slots old, kx_2 q_t q_row q_joined q_from q_to q_size q_lossOf q_lessBy q_value q_number nodes here, kx_0 q_row q_cell len, kx_a q_cell cyI 160 f, kx_a q_from cyI 319 ff, kx_a q_to cyI 319 ft, kx_a q_size cyI 319 fs, kx_a q_lossOf cyI 319 fo, kx_a q_lessBy cyI 319 fe, kx_a q_value cyI 1914 uv, kx_a q_number cyI 1914 un, kx_3 q_joined j_v j_n js jl je, kx_a j_v cyI 12 jv, kx_a j_n cyI 12 jn])) (va_Qi (fun (r : Int32) (u : Int32 × Int32 × Int32 × (Nat → Int32) × (Nat → Int32) × (Nat → Int32) × (Nat → Int32) × (Nat → Int32) × (Nat → Int32) × (Nat → Int32) × Int32 × Int32 × Int32 × (Nat → Int32) × (Nat → Int32) × (Nat → Int32)) => (((0 ≤ p0.toInt ∧ p0.toInt < p1.toInt ∧ p1.toInt ≤ len.toInt ∧ -32768 ≤ p2.toInt ∧ p2.toInt ≤ 32767) ∧ u.2.2.2.2.2.2.2.2.2.2.2.2.2.2.2 = mj_fill f p0.toNatClampNeg p1.toNatClampNeg p2) ∨ ((p0.toInt < 0 ∨ p1.toInt ≤ p0.toInt ∨ len.toInt < p1.toInt ∨ p2.toInt < -32768 ∨ 32767 < p2.toInt) ∧ u.2.2.2.2.2.2.2.2.2.2.2.2.2.2.2 = f ∧ r = -1)) ∧ shorts u.2.2.2.2.2.2.2.2.2.2.2.2.2.2.2 ∧ laidX u.1 slots u.2.2.1 u.2.2.2.2.2.2.2.2.2.2.2.2.2.2.2 u.2.2.2.1 u.2.2.2.2.1 u.2.2.2.2.2.1 u.2.2.2.2.2.2.1 u.2.2.2.2.2.2.2.1 u.2.2.2.2.2.2.2.2.1 u.2.2.2.2.2.2.2.2.2.1 u.2.1 len ∧ sixes u.2.2.2.2.2.1) (fun (u : Int32 × Int32 × Int32 × (Nat → Int32) × (Nat → Int32) × (Nat → Int32) × (Nat → Int32) × (Nat → Int32) × (Nat → Int32) × (Nat → Int32) × Int32 × Int32 × Int32 × (Nat → Int32) × (Nat → Int32) × (Nat → Int32)) (t : State) => va_P (dC, dI) vwCl [kx_4 m_ q_row q_t t_ h0 k0 w_ z_ slots u.1, kx_2 q_t q_row q_joined q_from q_to q_size q_lossOf q_lessBy q_value q_number u.2.1 u.2.2.1, kx_0 q_row q_cell len, kx_a q_cell cyI 160 u.2.2.2.2.2.2.2.2.2.2.2.2.2.2.2, kx_a q_from cyI 319 u.2.2.2.1, kx_a q_to cyI 319 u.2.2.2.2.1, kx_a q_size cyI 319 u.2.2.2.2.2.1, kx_a q_lossOf cyI 319 u.2.2.2.2.2.2.1, kx_a q_lessBy cyI 319 u.2.2.2.2.2.2.2.1, kx_a q_value cyI 1914 u.2.2.2.2.2.2.2.2.1, kx_a q_number cyI 1914 u.2.2.2.2.2.2.2.2.2.1, kx_3 q_joined j_v j_n u.2.2.2.2.2.2.2.2.2.2.1 u.2.2.2.2.2.2.2.2.2.2.2.1 u.2.2.2.2.2.2.2.2.2.2.2.2.1, kx_a j_v cyI 12 u.2.2.2.2.2.2.2.2.2.2.2.2.2.1, kx_a j_n cyI 12 u.2.2.2.2.2.2.2.2.2.2.2.2.2.2.1] t.heap ∧ va_K (dC, dI) vwCl [(cyI, .int)] t ∧ va_D (va_A [kx_4 m_ q_row q_t t_ h0 k0 w_ z_ slots old, kx_2 q_t q_row q_joined q_from q_to q_size q_lossOf q_lessBy q_value q_number nodes here, kx_0 q_row q_cell len, kx_a q_cell cyI 160 f, kx_a q_from cyI 319 ff, kx_a q_to cyI 319 ft, kx_a q_size cyI 319 fs, kx_a q_lossOf cyI 319 fo, kx_a q_lessBy cyI 319 fe, kx_a q_value cyI 1914 uv, kx_a q_number cyI 1914 un, kx_3 q_joined j_v j_n js jl je, kx_a j_v cyI 12 jv, kx_a j_n cyI 12 jn] sz) [kx_4 m_ q_row q_t t_ h0 k0 w_ z_ slots u.1, kx_2 q_t q_row q_joined q_from q_to q_size q_lossOf q_lessBy q_value q_number u.2.1 u.2.2.1, kx_0 q_row q_cell len, kx_a q_cell cyI 160 u.2.2.2.2.2.2.2.2.2.2.2.2.2.2.2, kx_a q_from cyI 319 u.2.2.2.1, kx_a q_to cyI 319 u.2.2.2.2.1, kx_a q_size cyI 319 u.2.2.2.2.2.1, kx_a q_lossOf cyI 319 u.2.2.2.2.2.2.1, kx_a q_lessBy cyI 319 u.2.2.2.2.2.2.2.1, kx_a q_value cyI 1914 u.2.2.2.2.2.2.2.2.1, kx_a q_number cyI 1914 u.2.2.2.2.2.2.2.2.2.1, kx_3 q_joined j_v j_n u.2.2.2.2.2.2.2.2.2.2.1 u.2.2.2.2.2.2.2.2.2.2.2.1 u.2.2.2.2.2.2.2.2.2.2.2.2.1, kx_a j_v cyI 12 u.2.2.2.2.2.2.2.2.2.2.2.2.2.1, kx_a j_n cyI 12 u.2.2.2.2.2.2.2.2.2.2.2.2.2.2.1]) (va_A [kx_4 m_ q_row q_t t_ h0 k0 w_ z_ slots old, kx_2 q_t q_row q_joined q_from q_to q_size q_lossOf q_lessBy q_value q_number nodes here, kx_0 q_row q_cell len, kx_a q_cell cyI 160 f, kx_a q_from cyI 319 ff, kx_a q_to cyI 319 ft, kx_a q_size cyI 319 fs, kx_a q_lossOf cyI 319 fo, kx_a q_lessBy cyI 319 fe, kx_a q_value cyI 1914 uv, kx_a q_number cyI 1914 un, kx_3 q_joined j_v j_n js jl je, kx_a j_v cyI 12 jv, kx_a j_n cyI 12 jn] sz)) 0 0 (va_A [kx_4 m_ q_row q_t t_ h0 k0 w_ z_ slots old, kx_2 q_t q_row q_joined q_from q_to q_size q_lossOf q_lessBy q_value q_number nodes here, kx_0 q_row q_cell len, kx_a q_cell cyI 160 f, kx_a q_from cyI 319 ff, kx_a q_to cyI 319 ft, kx_a q_size cyI 319 fs, kx_a q_lossOf cyI 319 fo, kx_a q_lessBy cyI 319 fe, kx_a q_value cyI 1914 uv, kx_a q_number cyI 1914 un, kx_3 q_joined j_v j_n js jl je, kx_a j_v cyI 12 jv, kx_a j_n cyI 12 jn] sz) := by
  refine Met.ofW (cc := cX4_fill) (maxL := 4) (ret := (some .int)) (by decide) rfl ?_
  intro p e s m args below meth c s₁ B hml hv
  obtain ⟨rfl, hsz, hP, hK, hD0⟩ := hv
  have hx := B.exec
  have hb := B.bytes
  have hr := B.returns
  have hts := atoms_spec (ws := wsX4_fill) B.pre
  have hown : s.vm.findClass RX4 = some m.cls := findClass_of_methodNamed B.named
  have hlocks := B.notSynchronized
  subst hsz
  have hD := hD0.self (sz := s.heap.size)
  generalize hAe : va_A [kx_4 m_ q_row q_t t_ h0 k0 w_ z_ slots old, kx_2 q_t q_row q_joined q_from q_to q_size q_lossOf q_lessBy q_value q_number nodes here, kx_0 q_row q_cell len, kx_a q_cell cyI 160 f, kx_a q_from cyI 319 ff, kx_a q_to cyI 319 ft, kx_a q_size cyI 319 fs, kx_a q_lossOf cyI 319 fo, kx_a q_lessBy cyI 319 fe, kx_a q_value cyI 1914 uv, kx_a q_number cyI 1914 un, kx_3 q_joined j_v j_n js jl je, kx_a j_v cyI 12 jv, kx_a j_n cyI 12 jn] s.heap.size = A at hD ⊢
  have hA : ∀ q : Nat, s.heap.size ≤ q → A q := fun q h => by rw [← hAe]; exact Or.inr h
  have hS : va_S A s.heap s.heap [] := va_S.rf
  have hP : va_P (dC, dI) vwCl [kx_4 m_ q_row q_t t_ h0 k0 w_ z_ slots old, kx_2 q_t q_row q_joined q_from q_to q_size q_lossOf q_lessBy q_value q_number nodes here, kx_0 q_row q_cell len, kx_a q_cell cyI 160 f, kx_a q_from cyI 319 ff, kx_a q_to cyI 319 ft, kx_a q_size cyI 319 fs, kx_a q_lossOf cyI 319 fo, kx_a q_lessBy cyI 319 fe, kx_a q_value cyI 1914 uv, kx_a q_number cyI 1914 un, kx_3 q_joined j_v j_n js jl je, kx_a j_v cyI 12 jv, kx_a j_n cyI 12 jn] s.heap := hP
  have hl := lv_entry ([.ref m_, .int p0, .int p1, .int p2]) (n := 4) (Nat.le_of_ble_eq_true rfl)
  rw [lg_entry_eq]
  generalize (lg_sl ([.ref m_, .int p0, .int p1, .int p2]) ++ List.replicate (4 - (lg_sl ([.ref m_, .int p0, .int p1, .int p2])).length) Slot.unset).toArray = ls at hl ⊢
  have hl : lv_has ls 4 [(0, .ref m_), (1, .int p0), (2, .int p1), (3, .int p2)] := hl
  have hf_12 := hts (.fieldLink RX4 12 "MajorityIndex" "row" "LMajorityIndex$Row;") (List.mem_of_getElem? (i := 1) rfl)
  have hi_4 : ∀ w ∈ u_ws RX4 TX4 9, w ∈ wsX4_fill := fun w h => List.mem_cons_of_mem _ (List.mem_append_left _ (List.mem_append_left _ (List.mem_append_left _ (List.mem_append_right _ h))))
  refine lv_aload_n hx hb dX4_fill_0 rfl (lv_at hl 0 rfl) ?_
  refine va_get (D := (dC, dI)) (ci := 4) (v := .ref q_row) (C := RX4) (T := TX4) (N := 9) hx hb hts hi_4 hown hK hP 0 rfl rfl 0 (by decide) hf_12 (fun _ h9 => h9) rfl dX4_fill_1 ?_
  refine lv_iload_n hx hb dX4_fill_4 rfl (lv_at hl 1 rfl) ?_
  refine lv_iload_n hx hb dX4_fill_5 rfl (lv_at hl 2 rfl) ?_
  have hPc := hP.sub (ws' := [kx_0 q_row q_cell len]) [2] rfl
  have hKc := hK.sub (tys' := []) [] rfl
  refine vp_callSi (W.runV (As := [.int p0, .int p1]) (rest := []) ⟨hx, hb, hml, hown, hts⟩ (c_X0_hasRange l dC dI q_row q_cell len p0 p1) (cwV 2 hts gX4_fill_X0_hasRange rfl rfl rfl (by decide +kernel) ⟨Nat.le_of_ble_eq_true rfl, Nat.le_of_ble_eq_true rfl⟩) ⟨fun a U g mk q => by obtain ⟨q0, qP, qK⟩ := q; exact ⟨q0, qP, va_K.moved (u := U) (U := U.calling g mk a) (Vm.Alike.refl U.vm) qK⟩, va_recv hKc hPc (ci := 0) (q0 := 0) rfl rfl, fun U hU hW => ⟨rfl, by rw [hU]; exact hPc, va_K.moved hW.alike hKc⟩⟩ rfl rfl hl.1 rfl (lv_room (Nat.le_of_ble_eq_true rfl)) dX4_fill_6 ⟨Nat.le_of_ble_eq_true rfl, Nat.le_of_ble_eq_true rfl⟩) (fun r_1 w_1 => ?_)
  rcases w_1 with ⟨rfl, w_1⟩ | ⟨rfl, w_1⟩
  · have w_1 : (0 ≤ p0.toInt ∧ p0.toInt < p1.toInt ∧ p1.toInt ≤ len.toInt) := w_1
    refine lv_if_eq (tgt := 19) hx hb dX4_fill_9 (by decide) (fun c_2 => ?_) (fun c_2 => ?_)
    · exact absurd c_2 (by decide)
    · refine lv_iload_n hx hb dX4_fill_12 rfl (lv_at hl 3 rfl) ?_
      have hPc := hP.sub (ws' := []) [] rfl
      have hKc := hK.sub (tys' := []) [] rfl
      refine vp_callSi (W.runS (As := [.int p2]) (rest := []) ⟨hx, hb, hml, hown, hts⟩ (c_X4_isValue l dC dI p2) (va_cwS 1 hts gX4_fill_X4_isValue rfl rfl rfl (by decide +kernel) ⟨Nat.le_of_ble_eq_true rfl, Nat.le_of_ble_eq_true rfl⟩) ⟨fun a U g mk q => by obtain ⟨q0, qP, qK⟩ := q; exact ⟨q0, qP, va_K.moved (u := U) (U := U.calling g mk a) (Vm.Alike.refl U.vm) qK⟩, fun U hU hW => ⟨rfl, by rw [hU]; exact hPc, va_K.moved hW.alike hKc⟩⟩ rfl rfl hl.1 rfl (lv_room (Nat.le_of_ble_eq_true rfl)) dX4_fill_13 ⟨Nat.le_of_ble_eq_true rfl, Nat.le_of_ble_eq_true rfl⟩) (fun r_3 w_3 => ?_)
      rcases w_3 with ⟨rfl, w_3⟩ | ⟨rfl, w_3⟩
      · have w_3 : (-32768 ≤ p2.toInt ∧ p2.toInt ≤ 32767) := w_3
        refine lv_if_ne (tgt := 21) hx hb dX4_fill_16 (by decide) (fun c_4 => ?_) (fun c_4 => ?_)
        · refine lv_aload_n hx hb dX4_fill_21 rfl (lv_at hl 0 rfl) ?_
          refine lv_aload_n hx hb dX4_fill_22 rfl (lv_at hl 0 rfl) ?_
          have hPc := hP
          have hKc := hK
          have hDc := hD
          have hFc := kx_free hD hS hA
          refine va_callr (va_runV (As := []) (rest := [.ref m_]) ⟨hx, hb, hml, hown, hts⟩ (c_X4_laidTree_x l dC dI m_ q_row q_t t_ h0 k0 w_ z_ slots old q_joined q_from q_to q_size q_lossOf q_lessBy q_value q_number nodes here q_cell cyI len f ff ft fs fo uv un fe j_v j_n js jl je jv jn s.heap.size a0 a1 s0 sl0 sl1 l0) (cwV 0 hts gX4_fill_X4_laidTree rfl rfl rfl (by decide +kernel) ⟨Nat.le_of_ble_eq_true rfl, Nat.le_of_ble_eq_true rfl⟩) ⟨fun a U g mk q => by obtain ⟨q0, q1, qP, qK, qD⟩ := q; exact ⟨q0, q1, qP, va_K.moved (u := U) (U := U.calling g mk a) (Vm.Alike.refl U.vm) qK, qD⟩, va_recv hKc hPc (ci := 4) (q0 := 0) rfl rfl, fun U hU hW => ⟨rfl, by rw [hU], by rw [hU]; exact hPc, va_K.moved hW.alike hKc, hDc.weaken (fun _ _ _ _ => trivial)⟩⟩ rfl rfl hl.1 rfl (lv_room (Nat.le_of_ble_eq_true rfl)) dX4_fill_23 ⟨Nat.le_of_ble_eq_true rfl, Nat.le_of_ble_eq_true rfl⟩) hS (fun q _ h => hFc q h) hFc (fun u ra t H1 locs ht hvm w_5 hB hz1 hk1 hS => ?_)
          obtain ⟨o_6, o_7, o_8, o_9, o_10, o_11, o_12, o_13, o_14, o_15, o_16, o_17, o_18, o_19, o_20⟩ := u
          dsimp only at w_5 hB
          obtain ⟨er, hP1, hK1, hD1⟩ := hB
          rw [ht] at hP1
          have hK1 := va_K.moved hvm.symm hK1
          have hD := hD1.weaken (fun _ q _ h => hFc q.1 h)
          have hP := hP1
          clear hP1 hD1 hK1 hk1 hz1 hFc hDc hPc hKc
          generalize H1 = H at hP hS ⊢
          have w_5 : o_6.toInt = 0 ∧ o_8 = slots ∧ sixes o_11 ∧ mj_C slots.toNatClampNeg f o_9 o_10 o_11 o_12 o_13 o_14 o_15 o_7.toInt len.toInt ∧ 0 ≤ o_7.toInt ∧ o_7.toInt ≤ 319 ∧ treeOk o_9 o_10 o_7.toInt len.toInt := w_5
          rw [er]
          refine lv_iload_n hx hb dX4_fill_26 rfl (lv_at hl 1 rfl) ?_
          refine lv_iload_n hx hb dX4_fill_27 rfl (lv_at hl 2 rfl) ?_
          refine lv_iload_n hx hb dX4_fill_28 rfl (lv_at hl 3 rfl) ?_
          have hPc := hP
          have hKc := hK
          have hDc := hD
          have hFc := kx_free hD hS hA
          refine va_calli (va_runV (As := [.ref q_t, .int p0, .int p1, .int p2]) (rest := []) ⟨hx, hb, hml, hown, hts⟩ (c_X4_overwrite_xx l dC dI m_ q_row q_t t_ h0 k0 w_ z_ slots o_6 q_joined q_from q_to q_size q_lossOf q_lessBy q_value q_number o_7 o_8 q_cell cyI len f o_9 o_10 o_11 o_12 o_14 o_15 o_13 j_v j_n o_16 o_17 o_18 o_19 o_20 p0 p1 p2 H.size w_5.2.2.2.2.1 w_5.2.2.2.2.2.1 a1 w_5.2.2.1 w_5.2.2.2.2.2.2 (om_8 w_1.1) (om_141 a1 w_1.2.2) (om_140 w_1.2.1) (by rw [w_5.2.1]; omega) (by rw [w_5.2.1]; omega) (by rw [w_5.2.1]; exact w_5.2.2.2.1)) (cwV 4 hts gX4_fill_X4_overwrite rfl rfl rfl (by decide +kernel) ⟨Nat.le_of_ble_eq_true rfl, Nat.le_of_ble_eq_true rfl⟩) ⟨fun a U g mk q => by obtain ⟨q0, q1, qP, qK, qD⟩ := q; exact ⟨q0, q1, qP, va_K.moved (u := U) (U := U.calling g mk a) (Vm.Alike.refl U.vm) qK, qD⟩, va_recv hKc hPc (ci := 4) (q0 := 0) rfl rfl, fun U hU hW => ⟨rfl, by rw [hU], by rw [hU]; exact hPc, va_K.moved hW.alike hKc, hDc.weaken (fun _ _ _ _ => trivial)⟩⟩ rfl rfl hl.1 rfl (lv_room (Nat.le_of_ble_eq_true rfl)) dX4_fill_29 ⟨Nat.le_of_ble_eq_true rfl, Nat.le_of_ble_eq_true rfl⟩) hS (fun q _ h => hFc q h) hFc (fun r_21 u t H1 locs ht hvm w_21 hB hz1 hk1 hS => ?_)
          obtain ⟨o_22, o_23, o_24, o_25, o_26, o_27, o_28, o_29, o_30, o_31, o_32⟩ := u
          dsimp only at w_21 hB
          obtain ⟨hP1, hK1, hD1⟩ := hB
          rw [ht] at hP1
          have hK1 := va_K.moved hvm.symm hK1
          have hD := hD1.weaken (fun _ q _ h => hFc q.1 h)
          have hP := hP1
          clear hP1 hD1 hK1 hk1 hz1 hFc hDc hPc hKc
          generalize H1 = H at hP hS ⊢
          have w_21 : o_22 = mj_fill f p0.toNatClampNeg p1.toNatClampNeg p2 ∧ sixes o_23 ∧ mj_C o_8.toNatClampNeg o_22 o_9 o_10 o_23 o_24 o_25 o_26 o_27 o_7.toInt len.toInt := w_21
          have hP9 := hP
          have hD9 := hD
          have hK9 := hK
          have e_f : o_22 = mj_fill f p0.toNatClampNeg p1.toNatClampNeg p2 := w_21.1
          exact W.iret (v := r_21) hx hb hr (fun t ht hW => ⟨⟨r_21, (o_6, o_7, o_8, o_9, o_10, o_23, o_24, o_25, o_26, o_27, o_28, o_29, o_30, o_31, o_32, o_22), rfl, ⟨Or.inl ⟨by omega, e_f⟩, (by (try dsimp only); rw [e_f]; exact shorts_fill s1 (by omega) (by omega)), (fun _ => ⟨w_5.2.1, (by have h9 := w_21.2.2; rw [w_5.2.1] at h9; exact h9)⟩), w_21.2.1⟩, by rw [ht]; exact hP9, va_K.moved hW.alike hK9, hD9⟩, hS.F ht⟩) hS.2.2 dX4_fill_32
        · exact absurd c_4 (by decide)
      · have w_3 : (p2.toInt < -32768 ∨ 32767 < p2.toInt) := w_3
        refine lv_if_ne (tgt := 21) hx hb dX4_fill_16 (by decide) (fun c_33 => ?_) (fun c_33 => ?_)
        · exact absurd c_33 (by decide)
        · refine lv_iconst (v := (-1)) hx hb dX4_fill_19 (by decide) ?_
          have hP9 := hP
          have hD9 := hD
          have hK9 := hK
          exact W.iret (v := (-1)) hx hb hr (fun t ht hW => ⟨⟨(-1), (old, nodes, here, ff, ft, fs, fo, fe, uv, un, js, jl, je, jv, jn, f), rfl, ⟨Or.inr ⟨by omega, rfl, rfl⟩, s1, l0, s0⟩, by rw [ht]; exact hP9, va_K.moved hW.alike hK9, hD9⟩, hS.F ht⟩) hS.2.2 dX4_fill_20
  · have w_1 : (p0.toInt < 0 ∨ p1.toInt ≤ p0.toInt ∨ len.toInt < p1.toInt) := w_1
    refine lv_if_eq (tgt := 19) hx hb dX4_fill_9 (by decide) (fun c_34 => ?_) (fun c_34 => ?_)
    · refine lv_iconst (v := (-1)) hx hb dX4_fill_19 (by decide) ?_
      have hP9 := hP
      have hD9 := hD
      have hK9 := hK
      exact W.iret (v := (-1)) hx hb hr (fun t ht hW => ⟨⟨(-1), (old, nodes, here, ff, ft, fs, fo, fe, uv, un, js, jl, je, jv, jn, f), rfl, ⟨Or.inr ⟨by omega, rfl, rfl⟩, s1, l0, s0⟩, by rw [ht]; exact hP9, va_K.moved hW.alike hK9, hD9⟩, hS.F ht⟩) hS.2.2 dX4_fill_20
    · exact absurd c_34 (by decide)

set_option maxHeartbeats 4000000 in
set_option maxRecDepth 100000 in
theorem c_X4_turn_X (l : Launch) (dC : Nat → ClassId) (dI : Nat → Nat → Nat) (m_ : Nat) (q_row : Nat) (q_t : Nat) (t_ : Nat) (h0 : Nat) (k0 : Nat) (w_ : Nat) (z_ : Nat) (slots : Int32) (old : Int32) (q_joined : Nat) (q_from : Nat) (q_to : Nat) (q_size : Nat) (q_lossOf : Nat) (q_lessBy : Nat) (q_value : Nat) (q_number : Nat) (nodes : Int32) (here : Int32) (q_cell : Nat) (cyI : ClassId) (len : Int32) (f : Nat → Int32) (ff : Nat → Int32) (ft : Nat → Int32) (fs : Nat → Int32) (fo : Nat → Int32) (uv : Nat → Int32) (un : Nat → Int32) (fe : Nat → Int32) (j_v : Nat) (j_n : Nat) (js : Int32) (jl : Int32) (je : Int32) (jv : Nat → Int32) (jn : Nat → Int32) (p0 : Int32) (p1 : Int32) (sz : Nat) (a0 : 0 ≤ len.toInt) (a1 : len.toInt ≤ 160) (s0 : sixes fs) (sl0 : 1 ≤ slots.toInt) (sl1 : slots.toInt ≤ 6) (l0 : laidX old slots here f ff ft fs fo fe uv un nodes len) (s1 : shorts f) : Met l yX4_turn wsX4_turn ({ frames := 6, cells := 0, slots := 0, locals := 270 }) (va_Pc [.ref m_, .int p0, .int p1] (fun U => U.heap.size = sz ∧ va_P (dC, dI) vwCl [kx_4 m_ q_row q_t t_ h0 k0 w_ z_ slots old, kx_2 q_t q_row q_joined q_from q_to q_size q_lossOf q_lessBy q_value q_number nodes here, kx_0 q_row q_cell len, kx_a q_cell cyI 160 f, kx_a q_from cyI 319 ff, kx_a q_to cyI 319 ft, kx_a q_size cyI 319 fs, kx_a q_lossOf cyI 319 fo, kx_a q_lessBy cyI 319 fe, kx_a q_value cyI 1914 uv, kx_a q_number cyI 1914 un, kx_3 q_joined j_v j_n js jl je, kx_a j_v cyI 12 jv, kx_a j_n cyI 12 jn] U.heap ∧ va_K (dC, dI) vwCl [(cyI, .int)] U ∧ va_D (fun _ => True) [kx_4 m_ q_row q_t t_ h0 k0 w_ z_ slots old, kx_2 q_t q_row q_joined q_from q_to q_size q_lossOf q_lessBy q_value q_number nodes here, kx_0 q_row q_cell len, kx_a q_cell cyI 160 f, kx_a q_from cyI 319 ff, kx_a q_to cyI 319 ft, kx_a q_size cyI 319 fs, kx_a q_lossOf cyI 319 fo, kx_a q_lessBy cyI 319 fe, kx_a q_value cyI 1914 uv, kx_a q_number cyI 1914 un, kx_3 q_joined j_v j_n js jl je, kx_a j_v cyI 12 jv, kx_a j_n cyI 12 jn])) (va_Qi (fun (r : Int32) (u : Int32 × Int32 × Int32 × (Nat → Int32) × (Nat → Int32) × (Nat → Int32) × (Nat → Int32) × (Nat → Int32) × (Nat → Int32) × (Nat → Int32) × Int32 × Int32 × Int32 × (Nat → Int32) × (Nat → Int32) × (Nat → Int32)) => (((0 ≤ p0.toInt ∧ p0.toInt < p1.toInt ∧ p1.toInt ≤ len.toInt) ∧ u.2.2.2.2.2.2.2.2.2.2.2.2.2.2.2 = mj_turn f p0.toNatClampNeg p1.toNatClampNeg) ∨ ((p0.toInt < 0 ∨ p1.toInt ≤ p0.toInt ∨ len.toInt < p1.toInt) ∧ u.2.2.2.2.2.2.2.2.2.2.2.2.2.2.2 = f ∧ r = -1)) ∧ shorts u.2.2.2.2.2.2.2.2.2.2.2.2.2.2.2 ∧ laidX u.1 slots u.2.2.1 u.2.2.2.2.2.2.2.2.2.2.2.2.2.2.2 u.2.2.2.1 u.2.2.2.2.1 u.2.2.2.2.2.1 u.2.2.2.2.2.2.1 u.2.2.2.2.2.2.2.1 u.2.2.2.2.2.2.2.2.1 u.2.2.2.2.2.2.2.2.2.1 u.2.1 len ∧ sixes u.2.2.2.2.2.1) (fun (u : Int32 × Int32 × Int32 × (Nat → Int32) × (Nat → Int32) × (Nat → Int32) × (Nat → Int32) × (Nat → Int32) × (Nat → Int32) × (Nat → Int32) × Int32 × Int32 × Int32 × (Nat → Int32) × (Nat → Int32) × (Nat → Int32)) (t : State) => va_P (dC, dI) vwCl [kx_4 m_ q_row q_t t_ h0 k0 w_ z_ slots u.1, kx_2 q_t q_row q_joined q_from q_to q_size q_lossOf q_lessBy q_value q_number u.2.1 u.2.2.1, kx_0 q_row q_cell len, kx_a q_cell cyI 160 u.2.2.2.2.2.2.2.2.2.2.2.2.2.2.2, kx_a q_from cyI 319 u.2.2.2.1, kx_a q_to cyI 319 u.2.2.2.2.1, kx_a q_size cyI 319 u.2.2.2.2.2.1, kx_a q_lossOf cyI 319 u.2.2.2.2.2.2.1, kx_a q_lessBy cyI 319 u.2.2.2.2.2.2.2.1, kx_a q_value cyI 1914 u.2.2.2.2.2.2.2.2.1, kx_a q_number cyI 1914 u.2.2.2.2.2.2.2.2.2.1, kx_3 q_joined j_v j_n u.2.2.2.2.2.2.2.2.2.2.1 u.2.2.2.2.2.2.2.2.2.2.2.1 u.2.2.2.2.2.2.2.2.2.2.2.2.1, kx_a j_v cyI 12 u.2.2.2.2.2.2.2.2.2.2.2.2.2.1, kx_a j_n cyI 12 u.2.2.2.2.2.2.2.2.2.2.2.2.2.2.1] t.heap ∧ va_K (dC, dI) vwCl [(cyI, .int)] t ∧ va_D (va_A [kx_4 m_ q_row q_t t_ h0 k0 w_ z_ slots old, kx_2 q_t q_row q_joined q_from q_to q_size q_lossOf q_lessBy q_value q_number nodes here, kx_0 q_row q_cell len, kx_a q_cell cyI 160 f, kx_a q_from cyI 319 ff, kx_a q_to cyI 319 ft, kx_a q_size cyI 319 fs, kx_a q_lossOf cyI 319 fo, kx_a q_lessBy cyI 319 fe, kx_a q_value cyI 1914 uv, kx_a q_number cyI 1914 un, kx_3 q_joined j_v j_n js jl je, kx_a j_v cyI 12 jv, kx_a j_n cyI 12 jn] sz) [kx_4 m_ q_row q_t t_ h0 k0 w_ z_ slots u.1, kx_2 q_t q_row q_joined q_from q_to q_size q_lossOf q_lessBy q_value q_number u.2.1 u.2.2.1, kx_0 q_row q_cell len, kx_a q_cell cyI 160 u.2.2.2.2.2.2.2.2.2.2.2.2.2.2.2, kx_a q_from cyI 319 u.2.2.2.1, kx_a q_to cyI 319 u.2.2.2.2.1, kx_a q_size cyI 319 u.2.2.2.2.2.1, kx_a q_lossOf cyI 319 u.2.2.2.2.2.2.1, kx_a q_lessBy cyI 319 u.2.2.2.2.2.2.2.1, kx_a q_value cyI 1914 u.2.2.2.2.2.2.2.2.1, kx_a q_number cyI 1914 u.2.2.2.2.2.2.2.2.2.1, kx_3 q_joined j_v j_n u.2.2.2.2.2.2.2.2.2.2.1 u.2.2.2.2.2.2.2.2.2.2.2.1 u.2.2.2.2.2.2.2.2.2.2.2.2.1, kx_a j_v cyI 12 u.2.2.2.2.2.2.2.2.2.2.2.2.2.1, kx_a j_n cyI 12 u.2.2.2.2.2.2.2.2.2.2.2.2.2.2.1]) (va_A [kx_4 m_ q_row q_t t_ h0 k0 w_ z_ slots old, kx_2 q_t q_row q_joined q_from q_to q_size q_lossOf q_lessBy q_value q_number nodes here, kx_0 q_row q_cell len, kx_a q_cell cyI 160 f, kx_a q_from cyI 319 ff, kx_a q_to cyI 319 ft, kx_a q_size cyI 319 fs, kx_a q_lossOf cyI 319 fo, kx_a q_lessBy cyI 319 fe, kx_a q_value cyI 1914 uv, kx_a q_number cyI 1914 un, kx_3 q_joined j_v j_n js jl je, kx_a j_v cyI 12 jv, kx_a j_n cyI 12 jn] sz)) 0 0 (va_A [kx_4 m_ q_row q_t t_ h0 k0 w_ z_ slots old, kx_2 q_t q_row q_joined q_from q_to q_size q_lossOf q_lessBy q_value q_number nodes here, kx_0 q_row q_cell len, kx_a q_cell cyI 160 f, kx_a q_from cyI 319 ff, kx_a q_to cyI 319 ft, kx_a q_size cyI 319 fs, kx_a q_lossOf cyI 319 fo, kx_a q_lessBy cyI 319 fe, kx_a q_value cyI 1914 uv, kx_a q_number cyI 1914 un, kx_3 q_joined j_v j_n js jl je, kx_a j_v cyI 12 jv, kx_a j_n cyI 12 jn] sz) := by
  refine Met.ofW (cc := cX4_turn) (maxL := 6) (ret := (some .int)) (by decide) rfl ?_
  intro p e s m args below meth c s₁ B hml hv
  obtain ⟨rfl, hsz, hP, hK, hD0⟩ := hv
  have hx := B.exec
  have hb := B.bytes
  have hr := B.returns
  have hts := atoms_spec (ws := wsX4_turn) B.pre
  have hown : s.vm.findClass RX4 = some m.cls := findClass_of_methodNamed B.named
  have hlocks := B.notSynchronized
  subst hsz
  have hD := hD0.self (sz := s.heap.size)
  generalize hAe : va_A [kx_4 m_ q_row q_t t_ h0 k0 w_ z_ slots old, kx_2 q_t q_row q_joined q_from q_to q_size q_lossOf q_lessBy q_value q_number nodes here, kx_0 q_row q_cell len, kx_a q_cell cyI 160 f, kx_a q_from cyI 319 ff, kx_a q_to cyI 319 ft, kx_a q_size cyI 319 fs, kx_a q_lossOf cyI 319 fo, kx_a q_lessBy cyI 319 fe, kx_a q_value cyI 1914 uv, kx_a q_number cyI 1914 un, kx_3 q_joined j_v j_n js jl je, kx_a j_v cyI 12 jv, kx_a j_n cyI 12 jn] s.heap.size = A at hD ⊢
  have hA : ∀ q : Nat, s.heap.size ≤ q → A q := fun q h => by rw [← hAe]; exact Or.inr h
  have hS : va_S A s.heap s.heap [] := va_S.rf
  have hP : va_P (dC, dI) vwCl [kx_4 m_ q_row q_t t_ h0 k0 w_ z_ slots old, kx_2 q_t q_row q_joined q_from q_to q_size q_lossOf q_lessBy q_value q_number nodes here, kx_0 q_row q_cell len, kx_a q_cell cyI 160 f, kx_a q_from cyI 319 ff, kx_a q_to cyI 319 ft, kx_a q_size cyI 319 fs, kx_a q_lossOf cyI 319 fo, kx_a q_lessBy cyI 319 fe, kx_a q_value cyI 1914 uv, kx_a q_number cyI 1914 un, kx_3 q_joined j_v j_n js jl je, kx_a j_v cyI 12 jv, kx_a j_n cyI 12 jn] s.heap := hP
  have hl := lv_entry ([.ref m_, .int p0, .int p1]) (n := 6) (Nat.le_of_ble_eq_true rfl)
  rw [lg_entry_eq]
  generalize (lg_sl ([.ref m_, .int p0, .int p1]) ++ List.replicate (6 - (lg_sl ([.ref m_, .int p0, .int p1])).length) Slot.unset).toArray = ls at hl ⊢
  have hl : lv_has ls 6 [(0, .ref m_), (1, .int p0), (2, .int p1)] := hl
  have hf_12 := hts (.fieldLink RX4 12 "MajorityIndex" "row" "LMajorityIndex$Row;") (List.mem_of_getElem? (i := 1) rfl)
  have hi_4 : ∀ w ∈ u_ws RX4 TX4 9, w ∈ wsX4_turn := fun w h => List.mem_cons_of_mem _ (List.mem_append_left _ (List.mem_append_left _ (List.mem_append_left _ (List.mem_append_right _ h))))
  refine lv_aload_n hx hb dX4_turn_0 rfl (lv_at hl 0 rfl) ?_
  refine va_get (D := (dC, dI)) (ci := 4) (v := .ref q_row) (C := RX4) (T := TX4) (N := 9) hx hb hts hi_4 hown hK hP 0 rfl rfl 0 (by decide) hf_12 (fun _ h9 => h9) rfl dX4_turn_1 ?_
  refine lv_iload_n hx hb dX4_turn_4 rfl (lv_at hl 1 rfl) ?_
  refine lv_iload_n hx hb dX4_turn_5 rfl (lv_at hl 2 rfl) ?_
  have hPc := hP.sub (ws' := [kx_0 q_row q_cell len]) [2] rfl
  have hKc := hK.sub (tys' := []) [] rfl
  refine vp_callSi (W.runV (As := [.int p0, .int p1]) (rest := []) ⟨hx, hb, hml, hown, hts⟩ (c_X0_hasRange l dC dI q_row q_cell len p0 p1) (cwV 2 hts gX4_turn_X0_hasRange rfl rfl rfl (by decide +kernel) ⟨Nat.le_of_ble_eq_true rfl, Nat.le_of_ble_eq_true rfl⟩) ⟨fun a U g mk q => by obtain ⟨q0, qP, qK⟩ := q; exact ⟨q0, qP, va_K.moved (u := U) (U := U.calling g mk a) (Vm.Alike.refl U.vm) qK⟩, va_recv hKc hPc (ci := 0) (q0 := 0) rfl rfl, fun U hU hW => ⟨rfl, by rw [hU]; exact hPc, va_K.moved hW.alike hKc⟩⟩ rfl rfl hl.1 rfl (lv_room (Nat.le_of_ble_eq_true rfl)) dX4_turn_6 ⟨Nat.le_of_ble_eq_true rfl, Nat.le_of_ble_eq_true rfl⟩) (fun r_1 w_1 => ?_)
  rcases w_1 with ⟨rfl, w_1⟩ | ⟨rfl, w_1⟩
  · have w_1 : (0 ≤ p0.toInt ∧ p0.toInt < p1.toInt ∧ p1.toInt ≤ len.toInt) := w_1
    refine lv_if_ne (tgt := 14) hx hb dX4_turn_9 (by decide) (fun c_2 => ?_) (fun c_2 => ?_)
    · refine lv_aload_n hx hb dX4_turn_14 rfl (lv_at hl 0 rfl) ?_
      have hPc := hP
      have hKc := hK
      have hDc := hD
      have hFc := kx_free hD hS hA
      refine va_callr (va_runV (As := []) (rest := []) ⟨hx, hb, hml, hown, hts⟩ (c_X4_laidTree_x l dC dI m_ q_row q_t t_ h0 k0 w_ z_ slots old q_joined q_from q_to q_size q_lossOf q_lessBy q_value q_number nodes here q_cell cyI len f ff ft fs fo uv un fe j_v j_n js jl je jv jn s.heap.size a0 a1 s0 sl0 sl1 l0) (cwV 0 hts gX4_turn_X4_laidTree rfl rfl rfl (by decide +kernel) ⟨Nat.le_of_ble_eq_true rfl, Nat.le_of_ble_eq_true rfl⟩) ⟨fun a U g mk q => by obtain ⟨q0, q1, qP, qK, qD⟩ := q; exact ⟨q0, q1, qP, va_K.moved (u := U) (U := U.calling g mk a) (Vm.Alike.refl U.vm) qK, qD⟩, va_recv hKc hPc (ci := 4) (q0 := 0) rfl rfl, fun U hU hW => ⟨rfl, by rw [hU], by rw [hU]; exact hPc, va_K.moved hW.alike hKc, hDc.weaken (fun _ _ _ _ => trivial)⟩⟩ rfl rfl hl.1 rfl (lv_room (Nat.le_of_ble_eq_true rfl)) dX4_turn_15 ⟨Nat.le_of_ble_eq_true rfl, Nat.le_of_ble_eq_true rfl⟩) hS (fun q _ h => hFc q h) hFc (fun u ra t H1 locs ht hvm w_3 hB hz1 hk1 hS => ?_)
      obtain ⟨o_4, o_5, o_6, o_7, o_8, o_9, o_10, o_11, o_12, o_13, o_14, o_15, o_16, o_17, o_18⟩ := u
      dsimp only at w_3 hB
      obtain ⟨er, hP1, hK1, hD1⟩ := hB
      rw [ht] at hP1
      have hK1 := va_K.moved hvm.symm hK1
      have hD := hD1.weaken (fun _ q _ h => hFc q.1 h)
      have hP := hP1
      clear hP1 hD1 hK1 hk1 hz1 hFc hDc hPc hKc
      generalize H1 = H at hP hS ⊢
      have w_3 : o_4.toInt = 0 ∧ o_6 = slots ∧ sixes o_9 ∧ mj_C slots.toNatClampNeg f o_7 o_8 o_9 o_10 o_11 o_12 o_13 o_5.toInt len.toInt ∧ 0 ≤ o_5.toInt ∧ o_5.toInt ≤ 319 ∧ treeOk o_7 o_8 o_5.toInt len.toInt := w_3
      rw [er]
      refine lv_astore_n (lv' := [(3, .ref q_t), (0, .ref m_), (1, .int p0), (2, .int p1)]) hx hb dX4_turn_18 rfl hl (by decide) rfl (fun ls hl => ?_)
      refine lv_iload_n hx hb dX4_turn_19 rfl (lv_at hl 2 rfl) ?_
      refine lv_istore (lv' := [(4, .int p0), (3, .ref q_t), (0, .ref m_), (1, .int p0), (2, .int p1)]) hx hb dX4_turn_20 hl (by decide) rfl (fun ls hl => ?_)
      refine lv_iload_n hx hb dX4_turn_22 rfl (lv_at hl 4 rfl) ?_
      refine lv_iconst (v := 1) hx hb dX4_turn_23 (by decide) ?_
      refine lv_isub hx hb dX4_turn_24 ?_
      refine lv_topi (fun y_19 ey_19 => ?_)
      have i_19 : y_19.toInt = p1.toInt - 1 := ki_sub ey_19 rfl rfl (om_14 w_1.1 w_1.2.1) (om_157 a1 w_1.2.2)
      refine lv_istore (lv' := [(5, .int y_19), (4, .int p0), (3, .ref q_t), (0, .ref m_), (1, .int p0), (2, .int p1)]) hx hb dX4_turn_25 hl (by decide) rfl (fun ls hl => ?_)
      have LP1 : ∀ (n : Nat) (lf : Int32) (rg : Int32) (gc : Nat → Int32), (p0.toInt ≤ lf.toInt) → (lf.toInt + rg.toInt = p0.toInt + p1.toInt - 1) → (lf.toInt ≤ rg.toInt + 1) → (-1 ≤ rg.toInt) → (gc = mj_tu f p0.toNatClampNeg p1.toNatClampNeg (lf.toNatClampNeg - p0.toNatClampNeg)) → (rg.toInt - lf.toInt).toNat < n → ∀ (H : Heap) (locs : List Loc), va_P (dC, dI) vwCl [kx_4 m_ q_row q_t t_ h0 k0 w_ z_ slots o_4, kx_2 q_t q_row q_joined q_from q_to q_size q_lossOf q_lessBy q_value q_number o_5 o_6, kx_0 q_row q_cell len, kx_a q_cell cyI 160 gc, kx_a q_from cyI 319 o_7, kx_a q_to cyI 319 o_8, kx_a q_size cyI 319 o_9, kx_a q_lossOf cyI 319 o_10, kx_a q_lessBy cyI 319 o_11, kx_a q_value cyI 1914 o_12, kx_a q_number cyI 1914 o_13, kx_3 q_joined j_v j_n o_14 o_15 o_16, kx_a j_v cyI 12 o_17, kx_a j_n cyI 12 o_18] H → va_D A [kx_4 m_ q_row q_t t_ h0 k0 w_ z_ slots o_4, kx_2 q_t q_row q_joined q_from q_to q_size q_lossOf q_lessBy q_value q_number o_5 o_6, kx_0 q_row q_cell len, kx_a q_cell cyI 160 gc, kx_a q_from cyI 319 o_7, kx_a q_to cyI 319 o_8, kx_a q_size cyI 319 o_9, kx_a q_lossOf cyI 319 o_10, kx_a q_lessBy cyI 319 o_11, kx_a q_value cyI 1914 o_12, kx_a q_number cyI 1914 o_13, kx_3 q_joined j_v j_n o_14 o_15 o_16, kx_a j_v cyI 12 o_17, kx_a j_n cyI 12 o_18] → va_S A s.heap H locs → ∀ (ls : Array Slot), lv_has ls 6 [(5, .int rg), (4, .int lf), (3, .ref q_t), (0, .ref m_), (1, .int p0), (2, .int p1)] → W p l e (headSpec wsX4_turn ({ frames := 6, cells := 0, slots := 0, locals := 270 })).room s m ([.ref m_, .int p0, .int p1] : List Value).toArray below meth c H locs 0 0 (MQ below (va_Qi (fun (r : Int32) (u : Int32 × Int32 × Int32 × (Nat → Int32) × (Nat → Int32) × (Nat → Int32) × (Nat → Int32) × (Nat → Int32) × (Nat → Int32) × (Nat → Int32) × Int32 × Int32 × Int32 × (Nat → Int32) × (Nat → Int32) × (Nat → Int32)) => (((0 ≤ p0.toInt ∧ p0.toInt < p1.toInt ∧ p1.toInt ≤ len.toInt) ∧ u.2.2.2.2.2.2.2.2.2.2.2.2.2.2.2 = mj_turn f p0.toNatClampNeg p1.toNatClampNeg) ∨ ((p0.toInt < 0 ∨ p1.toInt ≤ p0.toInt ∨ len.toInt < p1.toInt) ∧ u.2.2.2.2.2.2.2.2.2.2.2.2.2.2.2 = f ∧ r = -1)) ∧ shorts u.2.2.2.2.2.2.2.2.2.2.2.2.2.2.2 ∧ laidX u.1 slots u.2.2.1 u.2.2.2.2.2.2.2.2.2.2.2.2.2.2.2 u.2.2.2.1 u.2.2.2.2.1 u.2.2.2.2.2.1 u.2.2.2.2.2.2.1 u.2.2.2.2.2.2.2.1 u.2.2.2.2.2.2.2.2.1 u.2.2.2.2.2.2.2.2.2.1 u.2.1 len ∧ sixes u.2.2.2.2.2.1) (fun (u : Int32 × Int32 × Int32 × (Nat → Int32) × (Nat → Int32) × (Nat → Int32) × (Nat → Int32) × (Nat → Int32) × (Nat → Int32) × (Nat → Int32) × Int32 × Int32 × Int32 × (Nat → Int32) × (Nat → Int32) × (Nat → Int32)) (t : State) => va_P (dC, dI) vwCl [kx_4 m_ q_row q_t t_ h0 k0 w_ z_ slots u.1, kx_2 q_t q_row q_joined q_from q_to q_size q_lossOf q_lessBy q_value q_number u.2.1 u.2.2.1, kx_0 q_row q_cell len, kx_a q_cell cyI 160 u.2.2.2.2.2.2.2.2.2.2.2.2.2.2.2, kx_a q_from cyI 319 u.2.2.2.1, kx_a q_to cyI 319 u.2.2.2.2.1, kx_a q_size cyI 319 u.2.2.2.2.2.1, kx_a q_lossOf cyI 319 u.2.2.2.2.2.2.1, kx_a q_lessBy cyI 319 u.2.2.2.2.2.2.2.1, kx_a q_value cyI 1914 u.2.2.2.2.2.2.2.2.1, kx_a q_number cyI 1914 u.2.2.2.2.2.2.2.2.2.1, kx_3 q_joined j_v j_n u.2.2.2.2.2.2.2.2.2.2.1 u.2.2.2.2.2.2.2.2.2.2.2.1 u.2.2.2.2.2.2.2.2.2.2.2.2.1, kx_a j_v cyI 12 u.2.2.2.2.2.2.2.2.2.2.2.2.2.1, kx_a j_n cyI 12 u.2.2.2.2.2.2.2.2.2.2.2.2.2.2.1] t.heap ∧ va_K (dC, dI) vwCl [(cyI, .int)] t ∧ va_D A [kx_4 m_ q_row q_t t_ h0 k0 w_ z_ slots u.1, kx_2 q_t q_row q_joined q_from q_to q_size q_lossOf q_lessBy q_value q_number u.2.1 u.2.2.1, kx_0 q_row q_cell len, kx_a q_cell cyI 160 u.2.2.2.2.2.2.2.2.2.2.2.2.2.2.2, kx_a q_from cyI 319 u.2.2.2.1, kx_a q_to cyI 319 u.2.2.2.2.1, kx_a q_size cyI 319 u.2.2.2.2.2.1, kx_a q_lossOf cyI 319 u.2.2.2.2.2.2.1, kx_a q_lessBy cyI 319 u.2.2.2.2.2.2.2.1, kx_a q_value cyI 1914 u.2.2.2.2.2.2.2.2.1, kx_a q_number cyI 1914 u.2.2.2.2.2.2.2.2.2.1, kx_3 q_joined j_v j_n u.2.2.2.2.2.2.2.2.2.2.1 u.2.2.2.2.2.2.2.2.2.2.2.1 u.2.2.2.2.2.2.2.2.2.2.2.2.1, kx_a j_v cyI 12 u.2.2.2.2.2.2.2.2.2.2.2.2.2.1, kx_a j_n cyI 12 u.2.2.2.2.2.2.2.2.2.2.2.2.2.2.1]) A) ([.ref m_, .int p0, .int p1] : List Value).toArray s 0 0 A) (F0 m 27 ls []) := by
        intro n
        induction n with
        | zero => intro lf rg gc LP1_h0 LP1_h1 LP1_h2 LP1_h3 LP1_h4 hn; exact absurd hn (Nat.not_lt_zero _)
        | succ n ih1 =>
          intro lf rg gc LP1_h0 LP1_h1 LP1_h2 LP1_h3 LP1_h4 hn1 H locs hP hD hS ls hl
          have n_lf := ki_nat lf rfl (om_0 w_1.1 LP1_h0)
          have n_p0 := ki_nat p0 rfl (om_8 w_1.1)
          have n_p1 := ki_nat p1 rfl (om_18 w_1.1 w_1.2.1)
          refine lv_iload hx hb dX4_turn_27 (lv_at hl 1 rfl) ?_
          refine lv_iload hx hb dX4_turn_29 (lv_at hl 0 rfl) ?_
          refine lv_icmp_ge (tgt := 54) hx hb dX4_turn_31 (by decide) (fun c_20 => ?_) (fun c_20 => ?_)
          · have i_20 : rg.toInt ≤ lf.toInt := kc_le c_20
            refine lv_aload_n hx hb dX4_turn_54 rfl (lv_at hl 2 rfl) ?_
            refine lv_iload_n hx hb dX4_turn_55 rfl (lv_at hl 4 rfl) ?_
            refine lv_iload_n hx hb dX4_turn_56 rfl (lv_at hl 5 rfl) ?_
            obtain ⟨hPc, hDc, hFc, hCc⟩ := kx_pre (wc := [kx_2 q_t q_row q_joined q_from q_to q_size q_lossOf q_lessBy q_value q_number o_5 o_6, kx_0 q_row q_cell len, kx_a q_cell cyI 160 gc, kx_a q_from cyI 319 o_7, kx_a q_to cyI 319 o_8, kx_a q_size cyI 319 o_9, kx_a q_lossOf cyI 319 o_10, kx_a q_lessBy cyI 319 o_11, kx_a q_value cyI 1914 o_12, kx_a q_number cyI 1914 o_13, kx_3 q_joined j_v j_n o_14 o_15 o_16, kx_a j_v cyI 12 o_17, kx_a j_n cyI 12 o_18]) hP hD hS hA [1, 2, 3, 4, 5, 6, 7, 8, 9, 10, 11, 12, 13] (by decide) rfl
            have hKc := hK
            refine va_calli (va_runV (As := [.int p0, .int p1]) (rest := []) ⟨hx, hb, hml, hown, hts⟩ (c_X2_renew_x l dC dI q_t q_row q_joined q_from q_to q_size q_lossOf q_lessBy q_value q_number o_5 o_6 q_cell cyI len gc o_7 o_8 o_9 o_10 o_12 o_13 o_11 j_v j_n o_14 o_15 o_16 o_17 o_18 p0 p1 H.size w_3.2.2.2.2.1 w_3.2.2.2.2.2.1 a1 w_3.2.2.1 w_3.2.2.2.2.2.2 (by rw [w_3.2.1]; omega) (by rw [w_3.2.1]; omega) w_3.2.2.2.1.2.2.2.2.1 (by rw [w_3.2.1]; exact mj_old w_3.2.2.2.1.2.2.2.2.2.2 w_3.2.2.2.2.2.2 (fun p hp => (by rw [show gc = mj_turn f p0.toNatClampNeg p1.toNatClampNeg by rw [LP1_h4]; exact mj_tu_end (by omega) (by omega) (by omega)]; exact mj_turn_out (by omega))))) (cwV 2 hts gX4_turn_X2_renew rfl rfl rfl (by decide +kernel) ⟨Nat.le_of_ble_eq_true rfl, Nat.le_of_ble_eq_true rfl⟩) ⟨fun a U g mk q => by obtain ⟨q0, q1, qP, qK, qD⟩ := q; exact ⟨q0, q1, qP, va_K.moved (u := U) (U := U.calling g mk a) (Vm.Alike.refl U.vm) qK, qD⟩, va_recv hKc hPc (ci := 2) (q0 := 0) rfl rfl, fun U hU hW => ⟨rfl, by rw [hU], by rw [hU]; exact hPc, va_K.moved hW.alike hKc, hDc.weaken (fun _ _ _ _ => trivial)⟩⟩ rfl rfl hl.1 rfl (lv_room (Nat.le_of_ble_eq_true rfl)) dX4_turn_57 ⟨Nat.le_of_ble_eq_true rfl, Nat.le_of_ble_eq_true rfl⟩) hS (fun q _ h => hFc q h) hFc (fun r_21 u t H1 locs ht hvm w_21 hB hz1 hk1 hS => ?_)
            obtain ⟨o_22, o_23, o_24, o_25, o_26, o_27, o_28, o_29, o_30, o_31⟩ := u
            dsimp only at w_21 hB
            obtain ⟨hP1, hK1, hD1⟩ := hB
            rw [ht] at hP1
            have hK1 := va_K.moved hvm.symm hK1
            obtain ⟨hP, hD⟩ := kx_join (w2 := [kx_4 m_ q_row q_t t_ h0 k0 w_ z_ slots o_4, kx_2 q_t q_row q_joined q_from q_to q_size q_lossOf q_lessBy q_value q_number o_5 o_6, kx_0 q_row q_cell len, kx_a q_cell cyI 160 gc, kx_a q_from cyI 319 o_7, kx_a q_to cyI 319 o_8, kx_a q_size cyI 319 o_22, kx_a q_lossOf cyI 319 o_23, kx_a q_lessBy cyI 319 o_24, kx_a q_value cyI 1914 o_25, kx_a q_number cyI 1914 o_26, kx_3 q_joined j_v j_n o_27 o_28 o_29, kx_a j_v cyI 12 o_30, kx_a j_n cyI 12 o_31]) hP hD hP1 hD1 hk1 hFc [1, 2, 3, 4, 5, 6, 7, 8, 9, 10, 11, 12, 13] [0] hCc rfl (by decide) (by decide)
            clear hP1 hD1 hK1 hk1 hz1 hFc hDc hPc hKc hCc
            generalize H1 = H at hP hS ⊢
            have w_21 : sixes o_22 ∧ ∀ k : Nat, (k : Int) < o_5.toInt → mj_ok o_6.toNatClampNeg gc o_7 o_8 o_22 o_23 o_24 o_25 o_26 k := w_21
            have hP9 := hP
            have hD9 := hD
            have hK9 := hK
            have e_f : gc = mj_turn f p0.toNatClampNeg p1.toNatClampNeg := by rw [LP1_h4]; exact mj_tu_end (by omega) (by omega) (by omega)
            exact W.iret (v := r_21) hx hb hr (fun t ht hW => ⟨⟨r_21, (o_4, o_5, o_6, o_7, o_8, o_22, o_23, o_24, o_25, o_26, o_27, o_28, o_29, o_30, o_31, gc), rfl, ⟨Or.inl ⟨by omega, e_f⟩, (by (try dsimp only); rw [e_f]; exact shorts_turn s1 (by omega)), (fun _ => ⟨w_3.2.1, (by have h9 := w_21.2; rw [w_3.2.1] at h9; exact mj_C_new w_3.2.2.2.1 h9)⟩), w_21.1⟩, by rw [ht]; exact hP9, va_K.moved hW.alike hK9, hD9⟩, hS.F ht⟩) hS.2.2 dX4_turn_60
          · have i_20 : lf.toInt < rg.toInt := kc_nle c_20
            refine lv_aload_n hx hb dX4_turn_34 rfl (lv_at hl 3 rfl) ?_
            refine va_get (D := (dC, dI)) (ci := 4) (v := .ref q_row) (C := RX4) (T := TX4) (N := 9) hx hb hts hi_4 hown hK hP 0 rfl rfl 0 (by decide) hf_12 (fun _ h9 => h9) rfl dX4_turn_35 ?_
            refine lv_iload hx hb dX4_turn_38 (lv_at hl 1 rfl) ?_
            refine lv_iload hx hb dX4_turn_40 (lv_at hl 0 rfl) ?_
            obtain ⟨hPc, hDc, hFc, hCc⟩ := kx_pre (wc := [kx_0 q_row q_cell len, kx_a q_cell cyI 160 gc]) hP hD hS hA [2, 3] (by decide) rfl
            have hKc := hK
            refine va_callv (va_runV (As := [.int lf, .int rg]) (rest := []) ⟨hx, hb, hml, hown, hts⟩ (c_X0_exchange l dC dI q_row q_cell cyI len gc lf rg H.size (om_0 w_1.1 LP1_h0) (om_415 a1 w_1.2.1 w_1.2.2 LP1_h1 i_20) (om_416 w_1.1 w_1.2.1 LP1_h1 LP1_h3 i_20) (om_417 a1 w_1.2.2 LP1_h0 LP1_h1)) (cwV 2 hts gX4_turn_X0_exchange rfl rfl rfl (by decide +kernel) ⟨Nat.le_of_ble_eq_true rfl, Nat.le_of_ble_eq_true rfl⟩) ⟨fun a U g mk q => by obtain ⟨q0, q1, qP, qK, qD⟩ := q; exact ⟨q0, q1, qP, va_K.moved (u := U) (U := U.calling g mk a) (Vm.Alike.refl U.vm) qK, qD⟩, va_recv hKc hPc (ci := 0) (q0 := 0) rfl rfl, fun U hU hW => ⟨rfl, by rw [hU], by rw [hU]; exact hPc, va_K.moved hW.alike hKc, hDc.weaken (fun _ _ _ _ => trivial)⟩⟩ rfl rfl hl.1 rfl (lv_room (Nat.le_of_ble_eq_true rfl)) dX4_turn_42 ⟨Nat.le_of_ble_eq_true rfl, Nat.le_of_ble_eq_true rfl⟩) hS (fun q _ h => hFc q h) hFc (fun u t H1 locs ht hvm w_32 hB hz1 hk1 hS => ?_)
            obtain ⟨o_33, rfl⟩ : ∃ z, z = u := ⟨_, rfl⟩
            obtain ⟨hP1, hK1, hD1⟩ := hB
            rw [ht] at hP1
            have hK1 := va_K.moved hvm.symm hK1
            obtain ⟨hP, hD⟩ := kx_join (w2 := [kx_4 m_ q_row q_t t_ h0 k0 w_ z_ slots o_4, kx_2 q_t q_row q_joined q_from q_to q_size q_lossOf q_lessBy q_value q_number o_5 o_6, kx_a q_from cyI 319 o_7, kx_a q_to cyI 319 o_8, kx_a q_size cyI 319 o_9, kx_a q_lossOf cyI 319 o_10, kx_a q_lessBy cyI 319 o_11, kx_a q_value cyI 1914 o_12, kx_a q_number cyI 1914 o_13, kx_3 q_joined j_v j_n o_14 o_15 o_16, kx_a j_v cyI 12 o_17, kx_a j_n cyI 12 o_18, kx_0 q_row q_cell len, kx_a q_cell cyI 160 o_33]) hP hD hP1 hD1 hk1 hFc [2, 3] [0, 1, 4, 5, 6, 7, 8, 9, 10, 11, 12, 13] hCc rfl (by decide) (by decide)
            clear hP1 hD1 hK1 hk1 hz1 hFc hDc hPc hKc hCc
            generalize H1 = H at hP hS ⊢
            have w_32 : o_33 = upd (upd gc lf.toNatClampNeg (gc rg.toNatClampNeg)) rg.toNatClampNeg (gc lf.toNatClampNeg) := w_32
            obtain ⟨x_34, ex_34⟩ : ∃ y : Int32, y = lf + 1 := ⟨_, rfl⟩
            have i_34 : x_34.toInt = lf.toInt + 1 := ki_add ex_34 rfl rfl (om_2 w_1.1 LP1_h0) (om_418 a1 w_1.2.1 w_1.2.2 LP1_h1 i_20)
            refine lv_iinc (v := x_34) (lv' := [(4, .int x_34), (5, .int rg), (3, .ref q_t), (0, .ref m_), (1, .int p0), (2, .int p1)]) hx hb dX4_turn_45 hl (k := 1) rfl (by rw [ex_34]; rfl) (by decide) rfl (fun ls hl => ?_)
            obtain ⟨x_35, ex_35⟩ : ∃ y : Int32, y = rg + (-1) := ⟨_, rfl⟩
            have i_35 : x_35.toInt = rg.toInt + (-1) := ki_add ex_35 rfl rfl (om_168 LP1_h3) (om_419 a1 w_1.2.2 LP1_h0 LP1_h1)
            refine lv_iinc (v := x_35) (lv' := [(5, .int x_35), (4, .int x_34), (3, .ref q_t), (0, .ref m_), (1, .int p0), (2, .int p1)]) hx hb dX4_turn_48 hl (k := 1) rfl (by rw [ex_35]; rfl) (by decide) rfl (fun ls hl => ?_)
            refine lv_goto (tgt := 27) hx hb dX4_turn_51 (by decide) ?_
            have hP : va_P (dC, dI) vwCl [kx_4 m_ q_row q_t t_ h0 k0 w_ z_ slots o_4, kx_2 q_t q_row q_joined q_from q_to q_size q_lossOf q_lessBy q_value q_number o_5 o_6, kx_0 q_row q_cell len, kx_a q_cell cyI 160 o_33, kx_a q_from cyI 319 o_7, kx_a q_to cyI 319 o_8, kx_a q_size cyI 319 o_9, kx_a q_lossOf cyI 319 o_10, kx_a q_lessBy cyI 319 o_11, kx_a q_value cyI 1914 o_12, kx_a q_number cyI 1914 o_13, kx_3 q_joined j_v j_n o_14 o_15 o_16, kx_a j_v cyI 12 o_17, kx_a j_n cyI 12 o_18] _ := hP.sub [0, 1, 12, 13, 2, 3, 4, 5, 6, 7, 8, 9, 10, 11] rfl
            have hD : va_D A [kx_4 m_ q_row q_t t_ h0 k0 w_ z_ slots o_4, kx_2 q_t q_row q_joined q_from q_to q_size q_lossOf q_lessBy q_value q_number o_5 o_6, kx_0 q_row q_cell len, kx_a q_cell cyI 160 o_33, kx_a q_from cyI 319 o_7, kx_a q_to cyI 319 o_8, kx_a q_size cyI 319 o_9, kx_a q_lossOf cyI 319 o_10, kx_a q_lessBy cyI 319 o_11, kx_a q_value cyI 1914 o_12, kx_a q_number cyI 1914 o_13, kx_3 q_joined j_v j_n o_14 o_15 o_16, kx_a j_v cyI 12 o_17, kx_a j_n cyI 12 o_18] := hD.sub [0, 1, 12, 13, 2, 3, 4, 5, 6, 7, 8, 9, 10, 11] (by decide) rfl
            have n_36 := ki_nat x_34 rfl (om_80 w_1.1 LP1_h0 i_34)
            have n_rg := ki_nat rg rfl (om_416 w_1.1 w_1.2.1 LP1_h1 LP1_h3 i_20)
            exact ih1 x_34 x_35 o_33 (om_4 LP1_h0 i_34) (om_420 LP1_h1 i_34 i_35) (om_421 i_20 i_34 i_35) (om_422 w_1.1 w_1.2.1 LP1_h1 LP1_h3 i_20 i_35) (by rw [w_32, LP1_h4]; exact mj_tu_step (by omega) (by omega) (by omega) (by omega) (by omega)) (om_mu hn1 (om_173 i_34 i_35) (om_6 i_20)) _ _ hP hD hS ls (lv_sub hl [0, 1, 2, 3, 4, 5] rfl)
      exact LP1 ((y_19.toInt - p0.toInt : Int).toNat + 1) p0 y_19 f om_7 (om_423 i_19) (om_424 w_1.2.1 i_19) (om_175 w_1.1 w_1.2.1 i_19) (mj_tu_0 _ _ _ (by omega)).symm (Nat.lt_succ_self _) _ _ hP hD hS ls (lv_sub hl [0, 1, 2, 3, 4, 5] rfl)
    · exact absurd c_2 (by decide)
  · have w_1 : (p0.toInt < 0 ∨ p1.toInt ≤ p0.toInt ∨ len.toInt < p1.toInt) := w_1
    refine lv_if_ne (tgt := 14) hx hb dX4_turn_9 (by decide) (fun c_37 => ?_) (fun c_37 => ?_)
    · exact absurd c_37 (by decide)
    · refine lv_iconst (v := (-1)) hx hb dX4_turn_12 (by decide) ?_
      have hP9 := hP
      have hD9 := hD
      have hK9 := hK
      exact W.iret (v := (-1)) hx hb hr (fun t ht hW => ⟨⟨(-1), (old, nodes, here, ff, ft, fs, fo, fe, uv, un, js, jl, je, jv, jn, f), rfl, ⟨Or.inr ⟨by omega, rfl, rfl⟩, s1, l0, s0⟩, by rw [ht]; exact hP9, va_K.moved hW.alike hK9, hD9⟩, hS.F ht⟩) hS.2.2 dX4_turn_13

set_option maxHeartbeats 4000000 in
set_option maxRecDepth 100000 in
theorem c_X4_swap_X (l : Launch) (dC : Nat → ClassId) (dI : Nat → Nat → Nat) (m_ : Nat) (q_row : Nat) (q_t : Nat) (t_ : Nat) (h0 : Nat) (k0 : Nat) (w_ : Nat) (z_ : Nat) (slots : Int32) (old : Int32) (q_joined : Nat) (q_from : Nat) (q_to : Nat) (q_size : Nat) (q_lossOf : Nat) (q_lessBy : Nat) (q_value : Nat) (q_number : Nat) (nodes : Int32) (here : Int32) (q_cell : Nat) (cyI : ClassId) (len : Int32) (f : Nat → Int32) (ff : Nat → Int32) (ft : Nat → Int32) (fs : Nat → Int32) (fo : Nat → Int32) (uv : Nat → Int32) (un : Nat → Int32) (fe : Nat → Int32) (j_v : Nat) (j_n : Nat) (js : Int32) (jl : Int32) (je : Int32) (jv : Nat → Int32) (jn : Nat → Int32) (p0 : Int32) (p1 : Int32) (sz : Nat) (a0 : 0 ≤ len.toInt) (a1 : len.toInt ≤ 160) (s0 : sixes fs) (sl0 : 1 ≤ slots.toInt) (sl1 : slots.toInt ≤ 6) (l0 : laidX old slots here f ff ft fs fo fe uv un nodes len) (s1 : shorts f) : Met l yX4_swap wsX4_swap ({ frames := 6, cells := 0, slots := 0, locals := 270 }) (va_Pc [.ref m_, .int p0, .int p1] (fun U => U.heap.size = sz ∧ va_P (dC, dI) vwCl [kx_4 m_ q_row q_t t_ h0 k0 w_ z_ slots old, kx_2 q_t q_row q_joined q_from q_to q_size q_lossOf q_lessBy q_value q_number nodes here, kx_0 q_row q_cell len, kx_a q_cell cyI 160 f, kx_a q_from cyI 319 ff, kx_a q_to cyI 319 ft, kx_a q_size cyI 319 fs, kx_a q_lossOf cyI 319 fo, kx_a q_lessBy cyI 319 fe, kx_a q_value cyI 1914 uv, kx_a q_number cyI 1914 un, kx_3 q_joined j_v j_n js jl je, kx_a j_v cyI 12 jv, kx_a j_n cyI 12 jn] U.heap ∧ va_K (dC, dI) vwCl [(cyI, .int)] U ∧ va_D (fun _ => True) [kx_4 m_ q_row q_t t_ h0 k0 w_ z_ slots old, kx_2 q_t q_row q_joined q_from q_to q_size q_lossOf q_lessBy q_value q_number nodes here, kx_0 q_row q_cell len, kx_a q_cell cyI 160 f, kx_a q_from cyI 319 ff, kx_a q_to cyI 319 ft, kx_a q_size cyI 319 fs, kx_a q_lossOf cyI 319 fo, kx_a q_lessBy cyI 319 fe, kx_a q_value cyI 1914 uv, kx_a q_number cyI 1914 un, kx_3 q_joined j_v j_n js jl je, kx_a j_v cyI 12 jv, kx_a j_n cyI 12 jn])) (va_Qi (fun (r : Int32) (u : Int32 × Int32 × Int32 × (Nat → Int32) × (Nat → Int32) × (Nat → Int32) × (Nat → Int32) × (Nat → Int32) × (Nat → Int32) × (Nat → Int32) × Int32 × Int32 × Int32 × (Nat → Int32) × (Nat → Int32) × (Nat → Int32)) => (((0 ≤ p0.toInt ∧ p0.toInt < len.toInt ∧ 0 ≤ p1.toInt ∧ p1.toInt < len.toInt) ∧ u.2.2.2.2.2.2.2.2.2.2.2.2.2.2.2 = mj_ex f p0.toNatClampNeg p1.toNatClampNeg) ∨ ((p0.toInt < 0 ∨ len.toInt ≤ p0.toInt ∨ p1.toInt < 0 ∨ len.toInt ≤ p1.toInt) ∧ u.2.2.2.2.2.2.2.2.2.2.2.2.2.2.2 = f ∧ r = -1)) ∧ shorts u.2.2.2.2.2.2.2.2.2.2.2.2.2.2.2 ∧ laidX u.1 slots u.2.2.1 u.2.2.2.2.2.2.2.2.2.2.2.2.2.2.2 u.2.2.2.1 u.2.2.2.2.1 u.2.2.2.2.2.1 u.2.2.2.2.2.2.1 u.2.2.2.2.2.2.2.1 u.2.2.2.2.2.2.2.2.1 u.2.2.2.2.2.2.2.2.2.1 u.2.1 len ∧ sixes u.2.2.2.2.2.1) (fun (u : Int32 × Int32 × Int32 × (Nat → Int32) × (Nat → Int32) × (Nat → Int32) × (Nat → Int32) × (Nat → Int32) × (Nat → Int32) × (Nat → Int32) × Int32 × Int32 × Int32 × (Nat → Int32) × (Nat → Int32) × (Nat → Int32)) (t : State) => va_P (dC, dI) vwCl [kx_4 m_ q_row q_t t_ h0 k0 w_ z_ slots u.1, kx_2 q_t q_row q_joined q_from q_to q_size q_lossOf q_lessBy q_value q_number u.2.1 u.2.2.1, kx_0 q_row q_cell len, kx_a q_cell cyI 160 u.2.2.2.2.2.2.2.2.2.2.2.2.2.2.2, kx_a q_from cyI 319 u.2.2.2.1, kx_a q_to cyI 319 u.2.2.2.2.1, kx_a q_size cyI 319 u.2.2.2.2.2.1, kx_a q_lossOf cyI 319 u.2.2.2.2.2.2.1, kx_a q_lessBy cyI 319 u.2.2.2.2.2.2.2.1, kx_a q_value cyI 1914 u.2.2.2.2.2.2.2.2.1, kx_a q_number cyI 1914 u.2.2.2.2.2.2.2.2.2.1, kx_3 q_joined j_v j_n u.2.2.2.2.2.2.2.2.2.2.1 u.2.2.2.2.2.2.2.2.2.2.2.1 u.2.2.2.2.2.2.2.2.2.2.2.2.1, kx_a j_v cyI 12 u.2.2.2.2.2.2.2.2.2.2.2.2.2.1, kx_a j_n cyI 12 u.2.2.2.2.2.2.2.2.2.2.2.2.2.2.1] t.heap ∧ va_K (dC, dI) vwCl [(cyI, .int)] t ∧ va_D (va_A [kx_4 m_ q_row q_t t_ h0 k0 w_ z_ slots old, kx_2 q_t q_row q_joined q_from q_to q_size q_lossOf q_lessBy q_value q_number nodes here, kx_0 q_row q_cell len, kx_a q_cell cyI 160 f, kx_a q_from cyI 319 ff, kx_a q_to cyI 319 ft, kx_a q_size cyI 319 fs, kx_a q_lossOf cyI 319 fo, kx_a q_lessBy cyI 319 fe, kx_a q_value cyI 1914 uv, kx_a q_number cyI 1914 un, kx_3 q_joined j_v j_n js jl je, kx_a j_v cyI 12 jv, kx_a j_n cyI 12 jn] sz) [kx_4 m_ q_row q_t t_ h0 k0 w_ z_ slots u.1, kx_2 q_t q_row q_joined q_from q_to q_size q_lossOf q_lessBy q_value q_number u.2.1 u.2.2.1, kx_0 q_row q_cell len, kx_a q_cell cyI 160 u.2.2.2.2.2.2.2.2.2.2.2.2.2.2.2, kx_a q_from cyI 319 u.2.2.2.1, kx_a q_to cyI 319 u.2.2.2.2.1, kx_a q_size cyI 319 u.2.2.2.2.2.1, kx_a q_lossOf cyI 319 u.2.2.2.2.2.2.1, kx_a q_lessBy cyI 319 u.2.2.2.2.2.2.2.1, kx_a q_value cyI 1914 u.2.2.2.2.2.2.2.2.1, kx_a q_number cyI 1914 u.2.2.2.2.2.2.2.2.2.1, kx_3 q_joined j_v j_n u.2.2.2.2.2.2.2.2.2.2.1 u.2.2.2.2.2.2.2.2.2.2.2.1 u.2.2.2.2.2.2.2.2.2.2.2.2.1, kx_a j_v cyI 12 u.2.2.2.2.2.2.2.2.2.2.2.2.2.1, kx_a j_n cyI 12 u.2.2.2.2.2.2.2.2.2.2.2.2.2.2.1]) (va_A [kx_4 m_ q_row q_t t_ h0 k0 w_ z_ slots old, kx_2 q_t q_row q_joined q_from q_to q_size q_lossOf q_lessBy q_value q_number nodes here, kx_0 q_row q_cell len, kx_a q_cell cyI 160 f, kx_a q_from cyI 319 ff, kx_a q_to cyI 319 ft, kx_a q_size cyI 319 fs, kx_a q_lossOf cyI 319 fo, kx_a q_lessBy cyI 319 fe, kx_a q_value cyI 1914 uv, kx_a q_number cyI 1914 un, kx_3 q_joined j_v j_n js jl je, kx_a j_v cyI 12 jv, kx_a j_n cyI 12 jn] sz)) 0 0 (va_A [kx_4 m_ q_row q_t t_ h0 k0 w_ z_ slots old, kx_2 q_t q_row q_joined q_from q_to q_size q_lossOf q_lessBy q_value q_number nodes here, kx_0 q_row q_cell len, kx_a q_cell cyI 160 f, kx_a q_from cyI 319 ff, kx_a q_to cyI 319 ft, kx_a q_size cyI 319 fs, kx_a q_lossOf cyI 319 fo, kx_a q_lessBy cyI 319 fe, kx_a q_value cyI 1914 uv, kx_a q_number cyI 1914 un, kx_3 q_joined j_v j_n js jl je, kx_a j_v cyI 12 jv, kx_a j_n cyI 12 jn] sz) := by
  refine Met.ofW (cc := cX4_swap) (maxL := 4) (ret := (some .int)) (by decide) rfl ?_
  intro p e s m args below meth c s₁ B hml hv
  obtain ⟨rfl, hsz, hP, hK, hD0⟩ := hv
  have hx := B.exec
  have hb := B.bytes
  have hr := B.returns
  have hts := atoms_spec (ws := wsX4_swap) B.pre
  have hown : s.vm.findClass RX4 = some m.cls := findClass_of_methodNamed B.named
  have hlocks := B.notSynchronized
  subst hsz
  have hD := hD0.self (sz := s.heap.size)
  generalize hAe : va_A [kx_4 m_ q_row q_t t_ h0 k0 w_ z_ slots old, kx_2 q_t q_row q_joined q_from q_to q_size q_lossOf q_lessBy q_value q_number nodes here, kx_0 q_row q_cell len, kx_a q_cell cyI 160 f, kx_a q_from cyI 319 ff, kx_a q_to cyI 319 ft, kx_a q_size cyI 319 fs, kx_a q_lossOf cyI 319 fo, kx_a q_lessBy cyI 319 fe, kx_a q_value cyI 1914 uv, kx_a q_number cyI 1914 un, kx_3 q_joined j_v j_n js jl je, kx_a j_v cyI 12 jv, kx_a j_n cyI 12 jn] s.heap.size = A at hD ⊢
  have hA : ∀ q : Nat, s.heap.size ≤ q → A q := fun q h => by rw [← hAe]; exact Or.inr h
  have hS : va_S A s.heap s.heap [] := va_S.rf
  have hP : va_P (dC, dI) vwCl [kx_4 m_ q_row q_t t_ h0 k0 w_ z_ slots old, kx_2 q_t q_row q_joined q_from q_to q_size q_lossOf q_lessBy q_value q_number nodes here, kx_0 q_row q_cell len, kx_a q_cell cyI 160 f, kx_a q_from cyI 319 ff, kx_a q_to cyI 319 ft, kx_a q_size cyI 319 fs, kx_a q_lossOf cyI 319 fo, kx_a q_lessBy cyI 319 fe, kx_a q_value cyI 1914 uv, kx_a q_number cyI 1914 un, kx_3 q_joined j_v j_n js jl je, kx_a j_v cyI 12 jv, kx_a j_n cyI 12 jn] s.heap := hP
  have hl := lv_entry ([.ref m_, .int p0, .int p1]) (n := 4) (Nat.le_of_ble_eq_true rfl)
  rw [lg_entry_eq]
  generalize (lg_sl ([.ref m_, .int p0, .int p1]) ++ List.replicate (4 - (lg_sl ([.ref m_, .int p0, .int p1])).length) Slot.unset).toArray = ls at hl ⊢
  have hl : lv_has ls 4 [(0, .ref m_), (1, .int p0), (2, .int p1)] := hl
  have hf_12 := hts (.fieldLink RX4 12 "MajorityIndex" "row" "LMajorityIndex$Row;") (List.mem_of_getElem? (i := 1) rfl)
  have hi_4 : ∀ w ∈ u_ws RX4 TX4 9, w ∈ wsX4_swap := fun w h => List.mem_cons_of_mem _ (List.mem_append_left _ (List.mem_append_left _ (List.mem_append_left _ (List.mem_append_right _ h))))
  have hm_91 := hts (.methodLink RX4 91 Lib.Math.min.name) (List.mem_of_getElem? (i := 2) rfl)
  have hms_min := hts (.static Lib.Math.min.name) (List.mem_of_getElem? (i := 3) rfl)
  have hz_math := hts (.initialized "java/lang/Math") (List.mem_of_getElem? (i := 4) rfl)
  have hmc_min := hts (.code Lib.Math.min.name Lib.Math.min.code 2 (some .int)) (List.mem_of_getElem? (i := 5) rfl)
  have hm_96 := hts (.methodLink RX4 96 Lib.Math.max.name) (List.mem_of_getElem? (i := 6) rfl)
  have hms_max := hts (.static Lib.Math.max.name) (List.mem_of_getElem? (i := 7) rfl)
  have hmc_max := hts (.code Lib.Math.max.name Lib.Math.max.code 2 (some .int)) (List.mem_of_getElem? (i := 8) rfl)
  refine lv_aload_n hx hb dX4_swap_0 rfl (lv_at hl 0 rfl) ?_
  refine va_get (D := (dC, dI)) (ci := 4) (v := .ref q_row) (C := RX4) (T := TX4) (N := 9) hx hb hts hi_4 hown hK hP 0 rfl rfl 0 (by decide) hf_12 (fun _ h9 => h9) rfl dX4_swap_1 ?_
  refine lv_iload_n hx hb dX4_swap_4 rfl (lv_at hl 1 rfl) ?_
  have hPc := hP.sub (ws' := [kx_0 q_row q_cell len]) [2] rfl
  have hKc := hK.sub (tys' := []) [] rfl
  refine vp_callSi (W.runV (As := [.int p0]) (rest := []) ⟨hx, hb, hml, hown, hts⟩ (c_X0_hasPlace l dC dI q_row q_cell len p0) (cwV 1 hts gX4_swap_X0_hasPlace rfl rfl rfl (by decide +kernel) ⟨Nat.le_of_ble_eq_true rfl, Nat.le_of_ble_eq_true rfl⟩) ⟨fun a U g mk q => by obtain ⟨q0, qP, qK⟩ := q; exact ⟨q0, qP, va_K.moved (u := U) (U := U.calling g mk a) (Vm.Alike.refl U.vm) qK⟩, va_recv hKc hPc (ci := 0) (q0 := 0) rfl rfl, fun U hU hW => ⟨rfl, by rw [hU]; exact hPc, va_K.moved hW.alike hKc⟩⟩ rfl rfl hl.1 rfl (lv_room (Nat.le_of_ble_eq_true rfl)) dX4_swap_5 ⟨Nat.le_of_ble_eq_true rfl, Nat.le_of_ble_eq_true rfl⟩) (fun r_1 w_1 => ?_)
  rcases w_1 with ⟨rfl, w_1⟩ | ⟨rfl, w_1⟩
  · have w_1 : (0 ≤ p0.toInt ∧ p0.toInt < len.toInt) := w_1
    refine lv_if_eq (tgt := 22) hx hb dX4_swap_8 (by decide) (fun c_2 => ?_) (fun c_2 => ?_)
    · exact absurd c_2 (by decide)
    · refine lv_aload_n hx hb dX4_swap_11 rfl (lv_at hl 0 rfl) ?_
      refine va_get (D := (dC, dI)) (ci := 4) (v := .ref q_row) (C := RX4) (T := TX4) (N := 9) hx hb hts hi_4 hown hK hP 0 rfl rfl 0 (by decide) hf_12 (fun _ h9 => h9) rfl dX4_swap_12 ?_
      refine lv_iload_n hx hb dX4_swap_15 rfl (lv_at hl 2 rfl) ?_
      have hPc := hP.sub (ws' := [kx_0 q_row q_cell len]) [2] rfl
      have hKc := hK.sub (tys' := []) [] rfl
      refine vp_callSi (W.runV (As := [.int p1]) (rest := []) ⟨hx, hb, hml, hown, hts⟩ (c_X0_hasPlace l dC dI q_row q_cell len p1) (cwV 1 hts gX4_swap_X0_hasPlace rfl rfl rfl (by decide +kernel) ⟨Nat.le_of_ble_eq_true rfl, Nat.le_of_ble_eq_true rfl⟩) ⟨fun a U g mk q => by obtain ⟨q0, qP, qK⟩ := q; exact ⟨q0, qP, va_K.moved (u := U) (U := U.calling g mk a) (Vm.Alike.refl U.vm) qK⟩, va_recv hKc hPc (ci := 0) (q0 := 0) rfl rfl, fun U hU hW => ⟨rfl, by rw [hU]; exact hPc, va_K.moved hW.alike hKc⟩⟩ rfl rfl hl.1 rfl (lv_room (Nat.le_of_ble_eq_true rfl)) dX4_swap_16 ⟨Nat.le_of_ble_eq_true rfl, Nat.le_of_ble_eq_true rfl⟩) (fun r_3 w_3 => ?_)
      rcases w_3 with ⟨rfl, w_3⟩ | ⟨rfl, w_3⟩
      · have w_3 : (0 ≤ p1.toInt ∧ p1.toInt < len.toInt) := w_3
        refine lv_if_ne (tgt := 24) hx hb dX4_swap_19 (by decide) (fun c_4 => ?_) (fun c_4 => ?_)
        · refine lv_aload_n hx hb dX4_swap_24 rfl (lv_at hl 0 rfl) ?_
          have hPc := hP
          have hKc := hK
          have hDc := hD
          have hFc := kx_free hD hS hA
          refine va_callr (va_runV (As := []) (rest := []) ⟨hx, hb, hml, hown, hts⟩ (c_X4_laidTree_x l dC dI m_ q_row q_t t_ h0 k0 w_ z_ slots old q_joined q_from q_to q_size q_lossOf q_lessBy q_value q_number nodes here q_cell cyI len f ff ft fs fo uv un fe j_v j_n js jl je jv jn s.heap.size a0 a1 s0 sl0 sl1 l0) (cwV 0 hts gX4_swap_X4_laidTree rfl rfl rfl (by decide +kernel) ⟨Nat.le_of_ble_eq_true rfl, Nat.le_of_ble_eq_true rfl⟩) ⟨fun a U g mk q => by obtain ⟨q0, q1, qP, qK, qD⟩ := q; exact ⟨q0, q1, qP, va_K.moved (u := U) (U := U.calling g mk a) (Vm.Alike.refl U.vm) qK, qD⟩, va_recv hKc hPc (ci := 4) (q0 := 0) rfl rfl, fun U hU hW => ⟨rfl, by rw [hU], by rw [hU]; exact hPc, va_K.moved hW.alike hKc, hDc.weaken (fun _ _ _ _ => trivial)⟩⟩ rfl rfl hl.1 rfl (lv_room (Nat.le_of_ble_eq_true rfl)) dX4_swap_25 ⟨Nat.le_of_ble_eq_true rfl, Nat.le_of_ble_eq_true rfl⟩) hS (fun q _ h => hFc q h) hFc (fun u ra t H1 locs ht hvm w_5 hB hz1 hk1 hS => ?_)
          obtain ⟨o_6, o_7, o_8, o_9, o_10, o_11, o_12, o_13, o_14, o_15, o_16, o_17, o_18, o_19, o_20⟩ := u
          dsimp only at w_5 hB
          obtain ⟨er, hP1, hK1, hD1⟩ := hB
          rw [ht] at hP1
          have hK1 := va_K.moved hvm.symm hK1
          have hD := hD1.weaken (fun _ q _ h => hFc q.1 h)
          have hP := hP1
          clear hP1 hD1 hK1 hk1 hz1 hFc hDc hPc hKc
          generalize H1 = H at hP hS ⊢
          have w_5 : o_6.toInt = 0 ∧ o_8 = slots ∧ sixes o_11 ∧ mj_C slots.toNatClampNeg f o_9 o_10 o_11 o_12 o_13 o_14 o_15 o_7.toInt len.toInt ∧ 0 ≤ o_7.toInt ∧ o_7.toInt ≤ 319 ∧ treeOk o_9 o_10 o_7.toInt len.toInt := w_5
          rw [er]
          refine lv_astore_n (lv' := [(3, .ref q_t), (0, .ref m_), (1, .int p0), (2, .int p1)]) hx hb dX4_swap_28 rfl hl (by decide) rfl (fun ls hl => ?_)
          refine lv_aload_n hx hb dX4_swap_29 rfl (lv_at hl 1 rfl) ?_
          refine va_get (D := (dC, dI)) (ci := 4) (v := .ref q_row) (C := RX4) (T := TX4) (N := 9) hx hb hts hi_4 hown hK hP 0 rfl rfl 0 (by decide) hf_12 (fun _ h9 => h9) rfl dX4_swap_30 ?_
          refine lv_iload_n hx hb dX4_swap_33 rfl (lv_at hl 2 rfl) ?_
          refine lv_iload_n hx hb dX4_swap_34 rfl (lv_at hl 3 rfl) ?_
          obtain ⟨hPc, hDc, hFc, hCc⟩ := kx_pre (wc := [kx_0 q_row q_cell len, kx_a q_cell cyI 160 f]) hP hD hS hA [2, 3] (by decide) rfl
          have hKc := hK
          refine va_callv (va_runV (As := [.int p0, .int p1]) (rest := []) ⟨hx, hb, hml, hown, hts⟩ (c_X0_exchange l dC dI q_row q_cell cyI len f p0 p1 H.size (om_8 w_1.1) (om_130 a1 w_1.2) (om_8 w_3.1) (om_130 a1 w_3.2)) (cwV 2 hts gX4_swap_X0_exchange rfl rfl rfl (by decide +kernel) ⟨Nat.le_of_ble_eq_true rfl, Nat.le_of_ble_eq_true rfl⟩) ⟨fun a U g mk q => by obtain ⟨q0, q1, qP, qK, qD⟩ := q; exact ⟨q0, q1, qP, va_K.moved (u := U) (U := U.calling g mk a) (Vm.Alike.refl U.vm) qK, qD⟩, va_recv hKc hPc (ci := 0) (q0 := 0) rfl rfl, fun U hU hW => ⟨rfl, by rw [hU], by rw [hU]; exact hPc, va_K.moved hW.alike hKc, hDc.weaken (fun _ _ _ _ => trivial)⟩⟩ rfl rfl hl.1 rfl (lv_room (Nat.le_of_ble_eq_true rfl)) dX4_swap_35 ⟨Nat.le_of_ble_eq_true rfl, Nat.le_of_ble_eq_true rfl⟩) hS (fun q _ h => hFc q h) hFc (fun u t H1 locs ht hvm w_21 hB hz1 hk1 hS => ?_)
          obtain ⟨o_22, rfl⟩ : ∃ z, z = u := ⟨_, rfl⟩
          obtain ⟨hP1, hK1, hD1⟩ := hB
          rw [ht] at hP1
          have hK1 := va_K.moved hvm.symm hK1
          obtain ⟨hP, hD⟩ := kx_join (w2 := [kx_4 m_ q_row q_t t_ h0 k0 w_ z_ slots o_6, kx_2 q_t q_row q_joined q_from q_to q_size q_lossOf q_lessBy q_value q_number o_7 o_8, kx_a q_from cyI 319 o_9, kx_a q_to cyI 319 o_10, kx_a q_size cyI 319 o_11, kx_a q_lossOf cyI 319 o_12, kx_a q_lessBy cyI 319 o_13, kx_a q_value cyI 1914 o_14, kx_a q_number cyI 1914 o_15, kx_3 q_joined j_v j_n o_16 o_17 o_18, kx_a j_v cyI 12 o_19, kx_a j_n cyI 12 o_20, kx_0 q_row q_cell len, kx_a q_cell cyI 160 o_22]) hP hD hP1 hD1 hk1 hFc [2, 3] [0, 1, 4, 5, 6, 7, 8, 9, 10, 11, 12, 13] hCc rfl (by decide) (by decide)
          clear hP1 hD1 hK1 hk1 hz1 hFc hDc hPc hKc hCc
          generalize H1 = H at hP hS ⊢
          have w_21 : o_22 = upd (upd f p0.toNatClampNeg (f p1.toNatClampNeg)) p1.toNatClampNeg (f p0.toNatClampNeg) := w_21
          refine lv_aload_n hx hb dX4_swap_38 rfl (lv_at hl 0 rfl) ?_
          refine lv_iload_n hx hb dX4_swap_39 rfl (lv_at hl 2 rfl) ?_
          refine lv_iload_n hx hb dX4_swap_40 rfl (lv_at hl 3 rfl) ?_
          refine va_mmin hx hb (hml.trans hl.1.symm) hown hm_91 hms_min hz_math hmc_min (Nat.le_of_ble_eq_true rfl) (Nat.le_of_ble_eq_true rfl) (Nat.le_of_ble_eq_true rfl) (Nat.le_of_ble_eq_true rfl) dX4_swap_41 ?_
          refine lv_topi (fun y_23 ey_23 => ?_)
          have i_24 : (p0.toInt ≤ p1.toInt ∧ y_23.toInt = p0.toInt) ∨ (p1.toInt < p0.toInt ∧ y_23.toInt = p1.toInt) := ki_min ey_23 rfl rfl
          refine lv_iload_n hx hb dX4_swap_44 rfl (lv_at hl 2 rfl) ?_
          refine lv_iload_n hx hb dX4_swap_45 rfl (lv_at hl 3 rfl) ?_
          refine va_mmax hx hb (hml.trans hl.1.symm) hown hm_96 hms_max hz_math hmc_max (Nat.le_of_ble_eq_true rfl) (Nat.le_of_ble_eq_true rfl) (Nat.le_of_ble_eq_true rfl) (Nat.le_of_ble_eq_true rfl) dX4_swap_46 ?_
          refine lv_topi (fun y_25 ey_25 => ?_)
          have i_26 : (p0.toInt ≤ p1.toInt ∧ y_25.toInt = p1.toInt) ∨ (p1.toInt < p0.toInt ∧ y_25.toInt = p0.toInt) := ki_max ey_25 rfl rfl
          refine lv_iconst (v := 1) hx hb dX4_swap_49 (by decide) ?_
          refine lv_iadd hx hb dX4_swap_50 ?_
          refine lv_topi (fun y_27 ey_27 => ?_)
          have i_27 : y_27.toInt = y_25.toInt + 1 := ki_add ey_27 rfl rfl (by omega) (by omega)
          obtain ⟨hPc, hDc, hFc, hCc⟩ := kx_pre (wc := [kx_2 q_t q_row q_joined q_from q_to q_size q_lossOf q_lessBy q_value q_number o_7 o_8, kx_0 q_row q_cell len, kx_a q_cell cyI 160 o_22, kx_a q_from cyI 319 o_9, kx_a q_to cyI 319 o_10, kx_a q_size cyI 319 o_11, kx_a q_lossOf cyI 319 o_12, kx_a q_lessBy cyI 319 o_13, kx_a q_value cyI 1914 o_14, kx_a q_number cyI 1914 o_15, kx_3 q_joined j_v j_n o_16 o_17 o_18, kx_a j_v cyI 12 o_19, kx_a j_n cyI 12 o_20]) hP hD hS hA [1, 12, 13, 2, 3, 4, 5, 6, 7, 8, 9, 10, 11] (by decide) rfl
          have hKc := hK
          refine va_calli (va_runV (As := [.int y_23, .int y_27]) (rest := []) ⟨hx, hb, hml, hown, hts⟩ (c_X2_renew_x l dC dI q_t q_row q_joined q_from q_to q_size q_lossOf q_lessBy q_value q_number o_7 o_8 q_cell cyI len o_22 o_9 o_10 o_11 o_12 o_14 o_15 o_13 j_v j_n o_16 o_17 o_18 o_19 o_20 y_23 y_27 H.size w_5.2.2.2.2.1 w_5.2.2.2.2.2.1 a1 w_5.2.2.1 w_5.2.2.2.2.2.2 (by rw [w_5.2.1]; omega) (by rw [w_5.2.1]; omega) w_5.2.2.2.1.2.2.2.2.1 (by rw [w_5.2.1]; exact mj_old w_5.2.2.2.1.2.2.2.2.2.2 w_5.2.2.2.2.2.2 (fun p hp => (by rw [w_21]; exact mj_ex_o (fun e => by have := ki_nat p0 rfl (by omega); omega) (fun e => by have := ki_nat p1 rfl (by omega); omega))))) (cwV 2 hts gX4_swap_X2_renew rfl rfl rfl (by decide +kernel) ⟨Nat.le_of_ble_eq_true rfl, Nat.le_of_ble_eq_true rfl⟩) ⟨fun a U g mk q => by obtain ⟨q0, q1, qP, qK, qD⟩ := q; exact ⟨q0, q1, qP, va_K.moved (u := U) (U := U.calling g mk a) (Vm.Alike.refl U.vm) qK, qD⟩, va_recv hKc hPc (ci := 2) (q0 := 0) rfl rfl, fun U hU hW => ⟨rfl, by rw [hU], by rw [hU]; exact hPc, va_K.moved hW.alike hKc, hDc.weaken (fun _ _ _ _ => trivial)⟩⟩ rfl rfl hl.1 rfl (lv_room (Nat.le_of_ble_eq_true rfl)) dX4_swap_51 ⟨Nat.le_of_ble_eq_true rfl, Nat.le_of_ble_eq_true rfl⟩) hS (fun q _ h => hFc q h) hFc (fun r_28 u t H1 locs ht hvm w_28 hB hz1 hk1 hS => ?_)
          obtain ⟨o_29, o_30, o_31, o_32, o_33, o_34, o_35, o_36, o_37, o_38⟩ := u
          dsimp only at w_28 hB
          obtain ⟨hP1, hK1, hD1⟩ := hB
          rw [ht] at hP1
          have hK1 := va_K.moved hvm.symm hK1
          obtain ⟨hP, hD⟩ := kx_join (w2 := [kx_4 m_ q_row q_t t_ h0 k0 w_ z_ slots o_6, kx_2 q_t q_row q_joined q_from q_to q_size q_lossOf q_lessBy q_value q_number o_7 o_8, kx_0 q_row q_cell len, kx_a q_cell cyI 160 o_22, kx_a q_from cyI 319 o_9, kx_a q_to cyI 319 o_10, kx_a q_size cyI 319 o_29, kx_a q_lossOf cyI 319 o_30, kx_a q_lessBy cyI 319 o_31, kx_a q_value cyI 1914 o_32, kx_a q_number cyI 1914 o_33, kx_3 q_joined j_v j_n o_34 o_35 o_36, kx_a j_v cyI 12 o_37, kx_a j_n cyI 12 o_38]) hP hD hP1 hD1 hk1 hFc [1, 12, 13, 2, 3, 4, 5, 6, 7, 8, 9, 10, 11] [0] hCc rfl (by decide) (by decide)
          clear hP1 hD1 hK1 hk1 hz1 hFc hDc hPc hKc hCc
          generalize H1 = H at hP hS ⊢
          have w_28 : sixes o_29 ∧ ∀ k : Nat, (k : Int) < o_7.toInt → mj_ok o_8.toNatClampNeg o_22 o_9 o_10 o_29 o_30 o_31 o_32 o_33 k := w_28
          have hP9 := hP
          have hD9 := hD
          have hK9 := hK
          have n_p0 := ki_nat p0 rfl (om_8 w_1.1)
          have n_p1 := ki_nat p1 rfl (om_8 w_3.1)
          have e_f : o_22 = mj_ex f p0.toNatClampNeg p1.toNatClampNeg := w_21
          exact W.iret (v := r_28) hx hb hr (fun t ht hW => ⟨⟨r_28, (o_6, o_7, o_8, o_9, o_10, o_29, o_30, o_31, o_32, o_33, o_34, o_35, o_36, o_37, o_38, o_22), rfl, ⟨Or.inl ⟨by omega, e_f⟩, (by (try dsimp only); rw [e_f]; exact shorts_mex s1 (by omega) (by omega)), (fun _ => ⟨w_5.2.1, (by have h9 := w_28.2; rw [w_5.2.1] at h9; exact mj_C_new w_5.2.2.2.1 h9)⟩), w_28.1⟩, by rw [ht]; exact hP9, va_K.moved hW.alike hK9, hD9⟩, hS.F ht⟩) hS.2.2 dX4_swap_54
        · exact absurd c_4 (by decide)
      · have w_3 : (p1.toInt < 0 ∨ len.toInt ≤ p1.toInt) := w_3
        refine lv_if_ne (tgt := 24) hx hb dX4_swap_19 (by decide) (fun c_39 => ?_) (fun c_39 => ?_)
        · exact absurd c_39 (by decide)
        · refine lv_iconst (v := (-1)) hx hb dX4_swap_22 (by decide) ?_
          have hP9 := hP
          have hD9 := hD
          have hK9 := hK
          exact W.iret (v := (-1)) hx hb hr (fun t ht hW => ⟨⟨(-1), (old, nodes, here, ff, ft, fs, fo, fe, uv, un, js, jl, je, jv, jn, f), rfl, ⟨Or.inr ⟨by omega, rfl, rfl⟩, s1, l0, s0⟩, by rw [ht]; exact hP9, va_K.moved hW.alike hK9, hD9⟩, hS.F ht⟩) hS.2.2 dX4_swap_23
  · have w_1 : (p0.toInt < 0 ∨ len.toInt ≤ p0.toInt) := w_1
    refine lv_if_eq (tgt := 22) hx hb dX4_swap_8 (by decide) (fun c_40 => ?_) (fun c_40 => ?_)
    · refine lv_iconst (v := (-1)) hx hb dX4_swap_22 (by decide) ?_
      have hP9 := hP
      have hD9 := hD
      have hK9 := hK
      exact W.iret (v := (-1)) hx hb hr (fun t ht hW => ⟨⟨(-1), (old, nodes, here, ff, ft, fs, fo, fe, uv, un, js, jl, je, jv, jn, f), rfl, ⟨Or.inr ⟨by omega, rfl, rfl⟩, s1, l0, s0⟩, by rw [ht]; exact hP9, va_K.moved hW.alike hK9, hD9⟩, hS.F ht⟩) hS.2.2 dX4_swap_23
    · exact absurd c_40 (by decide)



set_option maxHeartbeats 4000000 in
set_option maxRecDepth 100000 in
theorem c_X4_told_x (l : Launch) (dC : Nat → ClassId) (dI : Nat → Nat → Nat) (m_ : Nat) (q_row : Nat) (q_t : Nat) (t_ : Nat) (h0 : Nat) (k0 : Nat) (w_ : Nat) (z_ : Nat) (slots : Int32) (old : Int32) (q_joined : Nat) (q_from : Nat) (q_to : Nat) (q_size : Nat) (q_lossOf : Nat) (q_lessBy : Nat) (q_value : Nat) (q_number : Nat) (nodes : Int32) (here : Int32) (q_cell : Nat) (cyI : ClassId) (len : Int32) (f : Nat → Int32) (ff : Nat → Int32) (ft : Nat → Int32) (fs : Nat → Int32) (fo : Nat → Int32) (uv : Nat → Int32) (un : Nat → Int32) (fe : Nat → Int32) (j_v : Nat) (j_n : Nat) (js : Int32) (jl : Int32) (je : Int32) (jv : Nat → Int32) (jn : Nat → Int32) (p0 : Int32) (sz : Nat) (a0 : 0 ≤ len.toInt) (a1 : len.toInt ≤ 160) (s0 : sixes fs) (sl0 : 1 ≤ slots.toInt) (sl1 : slots.toInt ≤ 6) (l0 : laidX old slots here f ff ft fs fo fe uv un nodes len) : Met l yX4_told wsX4_told ({ frames := 6, cells := 0, slots := 0, locals := 270 }) (va_Pc [.ref m_, .int p0] (fun U => U.heap.size = sz ∧ va_P (dC, dI) vwCl [kx_4 m_ q_row q_t t_ h0 k0 w_ z_ slots old, kx_2 q_t q_row q_joined q_from q_to q_size q_lossOf q_lessBy q_value q_number nodes here, kx_0 q_row q_cell len, kx_a q_cell cyI 160 f, kx_a q_from cyI 319 ff, kx_a q_to cyI 319 ft, kx_a q_size cyI 319 fs, kx_a q_lossOf cyI 319 fo, kx_a q_lessBy cyI 319 fe, kx_a q_value cyI 1914 uv, kx_a q_number cyI 1914 un, kx_3 q_joined j_v j_n js jl je, kx_a j_v cyI 12 jv, kx_a j_n cyI 12 jn] U.heap ∧ va_K (dC, dI) vwCl [(cyI, .int)] U ∧ va_D (fun _ => True) [kx_4 m_ q_row q_t t_ h0 k0 w_ z_ slots old, kx_2 q_t q_row q_joined q_from q_to q_size q_lossOf q_lessBy q_value q_number nodes here, kx_0 q_row q_cell len, kx_a q_cell cyI 160 f, kx_a q_from cyI 319 ff, kx_a q_to cyI 319 ft, kx_a q_size cyI 319 fs, kx_a q_lossOf cyI 319 fo, kx_a q_lessBy cyI 319 fe, kx_a q_value cyI 1914 uv, kx_a q_number cyI 1914 un, kx_3 q_joined j_v j_n js jl je, kx_a j_v cyI 12 jv, kx_a j_n cyI 12 jn] ∧ va_Nw (.methodLinkNest RX0 28 yX4_isHeavy RX4) U)) (va_Qi (fun (r : Int32) (u : Int32 × Int32 × Int32 × (Nat → Int32) × (Nat → Int32) × (Nat → Int32) × (Nat → Int32) × (Nat → Int32) × (Nat → Int32) × (Nat → Int32) × Int32 × Int32 × Int32 × (Nat → Int32) × (Nat → Int32)) => laidX u.1 slots u.2.2.1 f u.2.2.2.1 u.2.2.2.2.1 u.2.2.2.2.2.1 u.2.2.2.2.2.2.1 u.2.2.2.2.2.2.2.1 u.2.2.2.2.2.2.2.2.1 u.2.2.2.2.2.2.2.2.2.1 u.2.1 len ∧ sixes u.2.2.2.2.2.1) (fun (u : Int32 × Int32 × Int32 × (Nat → Int32) × (Nat → Int32) × (Nat → Int32) × (Nat → Int32) × (Nat → Int32) × (Nat → Int32) × (Nat → Int32) × Int32 × Int32 × Int32 × (Nat → Int32) × (Nat → Int32)) (t : State) => va_P (dC, dI) vwCl [kx_4 m_ q_row q_t t_ h0 k0 w_ z_ slots u.1, kx_2 q_t q_row q_joined q_from q_to q_size q_lossOf q_lessBy q_value q_number u.2.1 u.2.2.1, kx_0 q_row q_cell len, kx_a q_cell cyI 160 f, kx_a q_from cyI 319 u.2.2.2.1, kx_a q_to cyI 319 u.2.2.2.2.1, kx_a q_size cyI 319 u.2.2.2.2.2.1, kx_a q_lossOf cyI 319 u.2.2.2.2.2.2.1, kx_a q_lessBy cyI 319 u.2.2.2.2.2.2.2.1, kx_a q_value cyI 1914 u.2.2.2.2.2.2.2.2.1, kx_a q_number cyI 1914 u.2.2.2.2.2.2.2.2.2.1, kx_3 q_joined j_v j_n u.2.2.2.2.2.2.2.2.2.2.1 u.2.2.2.2.2.2.2.2.2.2.2.1 u.2.2.2.2.2.2.2.2.2.2.2.2.1, kx_a j_v cyI 12 u.2.2.2.2.2.2.2.2.2.2.2.2.2.1, kx_a j_n cyI 12 u.2.2.2.2.2.2.2.2.2.2.2.2.2.2] t.heap ∧ va_K (dC, dI) vwCl [(cyI, .int)] t ∧ va_D (va_A [kx_4 m_ q_row q_t t_ h0 k0 w_ z_ slots old, kx_2 q_t q_row q_joined q_from q_to q_size q_lossOf q_lessBy q_value q_number nodes here, kx_0 q_row q_cell len, kx_a q_cell cyI 160 f, kx_a q_from cyI 319 ff, kx_a q_to cyI 319 ft, kx_a q_size cyI 319 fs, kx_a q_lossOf cyI 319 fo, kx_a q_lessBy cyI 319 fe, kx_a q_value cyI 1914 uv, kx_a q_number cyI 1914 un, kx_3 q_joined j_v j_n js jl je, kx_a j_v cyI 12 jv, kx_a j_n cyI 12 jn] sz) [kx_4 m_ q_row q_t t_ h0 k0 w_ z_ slots u.1, kx_2 q_t q_row q_joined q_from q_to q_size q_lossOf q_lessBy q_value q_number u.2.1 u.2.2.1, kx_0 q_row q_cell len, kx_a q_cell cyI 160 f, kx_a q_from cyI 319 u.2.2.2.1, kx_a q_to cyI 319 u.2.2.2.2.1, kx_a q_size cyI 319 u.2.2.2.2.2.1, kx_a q_lossOf cyI 319 u.2.2.2.2.2.2.1, kx_a q_lessBy cyI 319 u.2.2.2.2.2.2.2.1, kx_a q_value cyI 1914 u.2.2.2.2.2.2.2.2.1, kx_a q_number cyI 1914 u.2.2.2.2.2.2.2.2.2.1, kx_3 q_joined j_v j_n u.2.2.2.2.2.2.2.2.2.2.1 u.2.2.2.2.2.2.2.2.2.2.2.1 u.2.2.2.2.2.2.2.2.2.2.2.2.1, kx_a j_v cyI 12 u.2.2.2.2.2.2.2.2.2.2.2.2.2.1, kx_a j_n cyI 12 u.2.2.2.2.2.2.2.2.2.2.2.2.2.2]) (va_A [kx_4 m_ q_row q_t t_ h0 k0 w_ z_ slots old, kx_2 q_t q_row q_joined q_from q_to q_size q_lossOf q_lessBy q_value q_number nodes here, kx_0 q_row q_cell len, kx_a q_cell cyI 160 f, kx_a q_from cyI 319 ff, kx_a q_to cyI 319 ft, kx_a q_size cyI 319 fs, kx_a q_lossOf cyI 319 fo, kx_a q_lessBy cyI 319 fe, kx_a q_value cyI 1914 uv, kx_a q_number cyI 1914 un, kx_3 q_joined j_v j_n js jl je, kx_a j_v cyI 12 jv, kx_a j_n cyI 12 jn] sz)) 0 0 (va_A [kx_4 m_ q_row q_t t_ h0 k0 w_ z_ slots old, kx_2 q_t q_row q_joined q_from q_to q_size q_lossOf q_lessBy q_value q_number nodes here, kx_0 q_row q_cell len, kx_a q_cell cyI 160 f, kx_a q_from cyI 319 ff, kx_a q_to cyI 319 ft, kx_a q_size cyI 319 fs, kx_a q_lossOf cyI 319 fo, kx_a q_lessBy cyI 319 fe, kx_a q_value cyI 1914 uv, kx_a q_number cyI 1914 un, kx_3 q_joined j_v j_n js jl je, kx_a j_v cyI 12 jv, kx_a j_n cyI 12 jn] sz) := by
  refine Met.ofW (cc := cX4_told) (maxL := 2) (ret := (some .int)) (by decide) rfl ?_
  intro p e s m args below meth c s₁ B hml hv
  obtain ⟨rfl, hsz, hP, hK, hD0, hN0⟩ := hv
  have hx := B.exec
  have hb := B.bytes
  have hr := B.returns
  have hts := atoms_spec (ws := wsX4_told) B.pre
  have hown : s.vm.findClass RX4 = some m.cls := findClass_of_methodNamed B.named
  have hlocks := B.notSynchronized
  subst hsz
  have hD := hD0.self (sz := s.heap.size)
  generalize hAe : va_A [kx_4 m_ q_row q_t t_ h0 k0 w_ z_ slots old, kx_2 q_t q_row q_joined q_from q_to q_size q_lossOf q_lessBy q_value q_number nodes here, kx_0 q_row q_cell len, kx_a q_cell cyI 160 f, kx_a q_from cyI 319 ff, kx_a q_to cyI 319 ft, kx_a q_size cyI 319 fs, kx_a q_lossOf cyI 319 fo, kx_a q_lessBy cyI 319 fe, kx_a q_value cyI 1914 uv, kx_a q_number cyI 1914 un, kx_3 q_joined j_v j_n js jl je, kx_a j_v cyI 12 jv, kx_a j_n cyI 12 jn] s.heap.size = A at hD ⊢
  have hA : ∀ q : Nat, s.heap.size ≤ q → A q := fun q h => by rw [← hAe]; exact Or.inr h
  have hS : va_S A s.heap s.heap [] := va_S.rf
  have hP : va_P (dC, dI) vwCl [kx_4 m_ q_row q_t t_ h0 k0 w_ z_ slots old, kx_2 q_t q_row q_joined q_from q_to q_size q_lossOf q_lessBy q_value q_number nodes here, kx_0 q_row q_cell len, kx_a q_cell cyI 160 f, kx_a q_from cyI 319 ff, kx_a q_to cyI 319 ft, kx_a q_size cyI 319 fs, kx_a q_lossOf cyI 319 fo, kx_a q_lessBy cyI 319 fe, kx_a q_value cyI 1914 uv, kx_a q_number cyI 1914 un, kx_3 q_joined j_v j_n js jl je, kx_a j_v cyI 12 jv, kx_a j_n cyI 12 jn] s.heap := hP
  have hl := lv_entry ([.ref m_, .int p0]) (n := 2) (Nat.le_of_ble_eq_true rfl)
  rw [lg_entry_eq]
  generalize (lg_sl ([.ref m_, .int p0]) ++ List.replicate (2 - (lg_sl ([.ref m_, .int p0])).length) Slot.unset).toArray = ls at hl ⊢
  have hl : lv_has ls 2 [(0, .ref m_), (1, .int p0)] := hl
  have hf_12 := hts (.fieldLink RX4 12 "MajorityIndex" "row" "LMajorityIndex$Row;") (List.mem_of_getElem? (i := 1) rfl)
  have hi_4 : ∀ w ∈ u_ws RX4 TX4 9, w ∈ wsX4_told := fun w h => List.mem_cons_of_mem _ (List.mem_append_left _ (List.mem_append_left _ (List.mem_append_left _ (List.mem_append_right _ h))))
  have hf_57 := hts (.fieldLink RX4 57 "MajorityIndex$Row" "length" "I") (List.mem_of_getElem? (i := 2) rfl)
  have hi_0 : ∀ w ∈ u_ws RX0 TX0 2, w ∈ wsX4_told := fun w h => List.mem_cons_of_mem _ (List.mem_append_left _ (List.mem_append_left _ (List.mem_append_right _ h)))
  have hf_49 := hts (.fieldLink RX4 49 "MajorityIndex" "slotsNow" "I") (List.mem_of_getElem? (i := 3) rfl)
  have hf_163 := hts (.fieldLink RX4 163 "MajorityIndex$Tree" "nodes" "I") (List.mem_of_getElem? (i := 4) rfl)
  have hi_2 : ∀ w ∈ u_ws RX2 TX2 11, w ∈ wsX4_told := fun w h => List.mem_cons_of_mem _ (List.mem_append_left _ (List.mem_append_right _ h))
  have hf_139 := hts (.fieldLink RX4 139 "MajorityIndex$Tree" "lossOf" "[I") (List.mem_of_getElem? (i := 5) rfl)
  refine lv_iload_n hx hb dX4_told_0 rfl (lv_at hl 1 rfl) ?_
  by_cases s_1 : p0.toInt = 0
  · refine lv_tableIn (tgt := 44) (off := 43) hx hb dX4_told_1 (by omega) (by omega) (by rw [s_1]; rfl) (by decide) ?_
    refine lv_aload_n hx hb dX4_told_44 rfl (lv_at hl 0 rfl) ?_
    refine va_get (D := (dC, dI)) (ci := 4) (v := .ref q_row) (C := RX4) (T := TX4) (N := 9) hx hb hts hi_4 hown hK hP 0 rfl rfl 0 (by decide) hf_12 (fun _ h9 => h9) rfl dX4_told_45 ?_
    refine va_get (D := (dC, dI)) (ci := 0) (v := .int len) (C := RX0) (T := TX0) (N := 2) hx hb hts hi_0 hown hK hP 2 rfl rfl 1 (by decide) hf_57 (fun _ h9 => h9) rfl dX4_told_48 ?_
    have hP9 := hP
    have hD9 := hD
    have hK9 := hK
    exact W.iret (v := len) hx hb hr (fun t ht hW => ⟨⟨len, (old, nodes, here, ff, ft, fs, fo, fe, uv, un, js, jl, je, jv, jn), rfl, ⟨l0, s0⟩, by rw [ht]; exact hP9, va_K.moved hW.alike hK9, hD9⟩, hS.F ht⟩) hS.2.2 dX4_told_51
  by_cases s_2 : p0.toInt = 1
  · refine lv_tableIn (tgt := 52) (off := 51) hx hb dX4_told_1 (by omega) (by omega) (by rw [s_2]; rfl) (by decide) ?_
    refine lv_aload_n hx hb dX4_told_52 rfl (lv_at hl 0 rfl) ?_
    refine va_get (D := (dC, dI)) (ci := 4) (v := .int slots) (C := RX4) (T := TX4) (N := 9) hx hb hts hi_4 hown hK hP 0 rfl rfl 7 (by decide) hf_49 (fun _ h9 => h9) rfl dX4_told_53 ?_
    have hP9 := hP
    have hD9 := hD
    have hK9 := hK
    exact W.iret (v := slots) hx hb hr (fun t ht hW => ⟨⟨slots, (old, nodes, here, ff, ft, fs, fo, fe, uv, un, js, jl, je, jv, jn), rfl, ⟨l0, s0⟩, by rw [ht]; exact hP9, va_K.moved hW.alike hK9, hD9⟩, hS.F ht⟩) hS.2.2 dX4_told_56
  by_cases s_3 : p0.toInt = 2
  · refine lv_tableIn (tgt := 57) (off := 56) hx hb dX4_told_1 (by omega) (by omega) (by rw [s_3]; rfl) (by decide) ?_
    refine lv_aload_n hx hb dX4_told_57 rfl (lv_at hl 0 rfl) ?_
    have hPc := hP
    have hKc := hK
    have hDc := hD
    have hFc := kx_free hD hS hA
    refine va_callr (va_runV (As := []) (rest := []) ⟨hx, hb, hml, hown, hts⟩ (c_X4_laidTree_x l dC dI m_ q_row q_t t_ h0 k0 w_ z_ slots old q_joined q_from q_to q_size q_lossOf q_lessBy q_value q_number nodes here q_cell cyI len f ff ft fs fo uv un fe j_v j_n js jl je jv jn s.heap.size a0 a1 s0 sl0 sl1 l0) (cwV 0 hts gX4_told_X4_laidTree rfl rfl rfl (by decide +kernel) ⟨Nat.le_of_ble_eq_true rfl, Nat.le_of_ble_eq_true rfl⟩) ⟨fun a U g mk q => by obtain ⟨q0, q1, qP, qK, qD⟩ := q; exact ⟨q0, q1, qP, va_K.moved (u := U) (U := U.calling g mk a) (Vm.Alike.refl U.vm) qK, qD⟩, va_recv hKc hPc (ci := 4) (q0 := 0) rfl rfl, fun U hU hW => ⟨rfl, by rw [hU], by rw [hU]; exact hPc, va_K.moved hW.alike hKc, hDc.weaken (fun _ _ _ _ => trivial)⟩⟩ rfl rfl hl.1 rfl (lv_room (Nat.le_of_ble_eq_true rfl)) dX4_told_58 ⟨Nat.le_of_ble_eq_true rfl, Nat.le_of_ble_eq_true rfl⟩) hS (fun q _ h => hFc q h) hFc (fun u ra t H1 locs ht hvm w_4 hB hz1 hk1 hS => ?_)
    obtain ⟨o_5, o_6, o_7, o_8, o_9, o_10, o_11, o_12, o_13, o_14, o_15, o_16, o_17, o_18, o_19⟩ := u
    dsimp only at w_4 hB
    obtain ⟨er, hP1, hK1, hD1⟩ := hB
    rw [ht] at hP1
    have hK1 := va_K.moved hvm.symm hK1
    have hD := hD1.weaken (fun _ q _ h => hFc q.1 h)
    have hP := hP1
    clear hP1 hD1 hK1 hk1 hz1 hFc hDc hPc hKc
    generalize H1 = H at hP hS ⊢
    have w_4 : o_5.toInt = 0 ∧ o_7 = slots ∧ sixes o_10 ∧ mj_C slots.toNatClampNeg f o_8 o_9 o_10 o_11 o_12 o_13 o_14 o_6.toInt len.toInt ∧ 0 ≤ o_6.toInt ∧ o_6.toInt ≤ 319 ∧ treeOk o_8 o_9 o_6.toInt len.toInt := w_4
    rw [er]
    refine va_get (D := (dC, dI)) (ci := 2) (v := .int o_6) (C := RX2) (T := TX2) (N := 11) hx hb hts hi_2 hown hK hP 1 rfl rfl 9 (by decide) hf_163 (fun _ h9 => h9) rfl dX4_told_61 ?_
    have hP9 := hP
    have hD9 := hD
    have hK9 := hK
    exact W.iret (v := o_6) hx hb hr (fun t ht hW => ⟨⟨o_6, (o_5, o_6, o_7, o_8, o_9, o_10, o_11, o_12, o_13, o_14, o_15, o_16, o_17, o_18, o_19), rfl, ⟨(fun _ => ⟨w_4.2.1, w_4.2.2.2.1⟩), w_4.2.2.1⟩, by rw [ht]; exact hP9, va_K.moved hW.alike hK9, hD9⟩, hS.F ht⟩) hS.2.2 dX4_told_64
  by_cases s_20 : p0.toInt = 3
  · refine lv_tableIn (tgt := 65) (off := 64) hx hb dX4_told_1 (by omega) (by omega) (by rw [s_20]; rfl) (by decide) ?_
    refine lv_aload_n hx hb dX4_told_65 rfl (lv_at hl 0 rfl) ?_
    have hPc := hP
    have hKc := hK
    have hDc := hD
    have hFc := kx_free hD hS hA
    refine va_callr (va_runV (As := []) (rest := []) ⟨hx, hb, hml, hown, hts⟩ (c_X4_laidTree_x l dC dI m_ q_row q_t t_ h0 k0 w_ z_ slots old q_joined q_from q_to q_size q_lossOf q_lessBy q_value q_number nodes here q_cell cyI len f ff ft fs fo uv un fe j_v j_n js jl je jv jn s.heap.size a0 a1 s0 sl0 sl1 l0) (cwV 0 hts gX4_told_X4_laidTree rfl rfl rfl (by decide +kernel) ⟨Nat.le_of_ble_eq_true rfl, Nat.le_of_ble_eq_true rfl⟩) ⟨fun a U g mk q => by obtain ⟨q0, q1, qP, qK, qD⟩ := q; exact ⟨q0, q1, qP, va_K.moved (u := U) (U := U.calling g mk a) (Vm.Alike.refl U.vm) qK, qD⟩, va_recv hKc hPc (ci := 4) (q0 := 0) rfl rfl, fun U hU hW => ⟨rfl, by rw [hU], by rw [hU]; exact hPc, va_K.moved hW.alike hKc, hDc.weaken (fun _ _ _ _ => trivial)⟩⟩ rfl rfl hl.1 rfl (lv_room (Nat.le_of_ble_eq_true rfl)) dX4_told_66 ⟨Nat.le_of_ble_eq_true rfl, Nat.le_of_ble_eq_true rfl⟩) hS (fun q _ h => hFc q h) hFc (fun u ra t H1 locs ht hvm w_21 hB hz1 hk1 hS => ?_)
    obtain ⟨o_22, o_23, o_24, o_25, o_26, o_27, o_28, o_29, o_30, o_31, o_32, o_33, o_34, o_35, o_36⟩ := u
    dsimp only at w_21 hB
    obtain ⟨er, hP1, hK1, hD1⟩ := hB
    rw [ht] at hP1
    have hK1 := va_K.moved hvm.symm hK1
    have hD := hD1.weaken (fun _ q _ h => hFc q.1 h)
    have hP := hP1
    clear hP1 hD1 hK1 hk1 hz1 hFc hDc hPc hKc
    generalize H1 = H at hP hS ⊢
    have w_21 : o_22.toInt = 0 ∧ o_24 = slots ∧ sixes o_27 ∧ mj_C slots.toNatClampNeg f o_25 o_26 o_27 o_28 o_29 o_30 o_31 o_23.toInt len.toInt ∧ 0 ≤ o_23.toInt ∧ o_23.toInt ≤ 319 ∧ treeOk o_25 o_26 o_23.toInt len.toInt := w_21
    rw [er]
    have hPc := hP.sub (ws' := [kx_2 q_t q_row q_joined q_from q_to q_size q_lossOf q_lessBy q_value q_number o_23 o_24, kx_0 q_row q_cell len, kx_a q_cell cyI 160 f, kx_a q_from cyI 319 o_25, kx_a q_to cyI 319 o_26]) [1, 2, 3, 4, 5] rfl
    have hKc := hK
    refine vp_callSi (W.runV (As := []) (rest := []) ⟨hx, hb, hml, hown, hts⟩ (c_X2_nodesWithMajority l dC dI q_t q_row q_joined q_from q_to q_size q_lossOf q_lessBy q_value q_number o_23 o_24 q_cell cyI len f o_25 o_26 w_21.2.2.2.2.1 w_21.2.2.2.2.2.1 a1 w_21.2.2.2.2.2.2) (cwV 0 hts gX4_told_X2_nodesWithMajority rfl rfl rfl (by decide +kernel) ⟨Nat.le_of_ble_eq_true rfl, Nat.le_of_ble_eq_true rfl⟩) ⟨fun a U g mk q => by obtain ⟨q0, qP, qK, qn0⟩ := q; exact ⟨q0, qP, va_K.moved (u := U) (U := U.calling g mk a) (Vm.Alike.refl U.vm) qK, va_Nw.same (u := U) (U := U.calling g mk a) rfl rfl qn0⟩, va_recv hKc hPc (ci := 2) (q0 := 0) rfl rfl, fun U hU hW => ⟨rfl, by rw [hU]; exact hPc, va_K.moved hW.alike hKc, va_Nw.warmM hW hN0⟩⟩ rfl rfl hl.1 rfl (lv_room (Nat.le_of_ble_eq_true rfl)) dX4_told_69 ⟨Nat.le_of_ble_eq_true rfl, Nat.le_of_ble_eq_true rfl⟩) (fun r_37 w_37 => ?_)
    have hP9 := hP
    have hD9 := hD
    have hK9 := hK
    exact W.iret (v := r_37) hx hb hr (fun t ht hW => ⟨⟨r_37, (o_22, o_23, o_24, o_25, o_26, o_27, o_28, o_29, o_30, o_31, o_32, o_33, o_34, o_35, o_36), rfl, ⟨(fun _ => ⟨w_21.2.1, w_21.2.2.2.1⟩), w_21.2.2.1⟩, by rw [ht]; exact hP9, va_K.moved hW.alike hK9, hD9⟩, hS.F ht⟩) hS.2.2 dX4_told_72
  by_cases s_38 : p0.toInt = 4
  · refine lv_tableIn (tgt := 73) (off := 72) hx hb dX4_told_1 (by omega) (by omega) (by rw [s_38]; rfl) (by decide) ?_
    refine lv_aload_n hx hb dX4_told_73 rfl (lv_at hl 0 rfl) ?_
    have hPc := hP
    have hKc := hK
    have hDc := hD
    have hFc := kx_free hD hS hA
    refine va_callr (va_runV (As := []) (rest := []) ⟨hx, hb, hml, hown, hts⟩ (c_X4_laidTree_x l dC dI m_ q_row q_t t_ h0 k0 w_ z_ slots old q_joined q_from q_to q_size q_lossOf q_lessBy q_value q_number nodes here q_cell cyI len f ff ft fs fo uv un fe j_v j_n js jl je jv jn s.heap.size a0 a1 s0 sl0 sl1 l0) (cwV 0 hts gX4_told_X4_laidTree rfl rfl rfl (by decide +kernel) ⟨Nat.le_of_ble_eq_true rfl, Nat.le_of_ble_eq_true rfl⟩) ⟨fun a U g mk q => by obtain ⟨q0, q1, qP, qK, qD⟩ := q; exact ⟨q0, q1, qP, va_K.moved (u := U) (U := U.calling g mk a) (Vm.Alike.refl U.vm) qK, qD⟩, va_recv hKc hPc (ci := 4) (q0 := 0) rfl rfl, fun U hU hW => ⟨rfl, by rw [hU], by rw [hU]; exact hPc, va_K.moved hW.alike hKc, hDc.weaken (fun _ _ _ _ => trivial)⟩⟩ rfl rfl hl.1 rfl (lv_room (Nat.le_of_ble_eq_true rfl)) dX4_told_74 ⟨Nat.le_of_ble_eq_true rfl, Nat.le_of_ble_eq_true rfl⟩) hS (fun q _ h => hFc q h) hFc (fun u ra t H1 locs ht hvm w_39 hB hz1 hk1 hS => ?_)
    obtain ⟨o_40, o_41, o_42, o_43, o_44, o_45, o_46, o_47, o_48, o_49, o_50, o_51, o_52, o_53, o_54⟩ := u
    dsimp only at w_39 hB
    obtain ⟨er, hP1, hK1, hD1⟩ := hB
    rw [ht] at hP1
    have hK1 := va_K.moved hvm.symm hK1
    have hD := hD1.weaken (fun _ q _ h => hFc q.1 h)
    have hP := hP1
    clear hP1 hD1 hK1 hk1 hz1 hFc hDc hPc hKc
    generalize H1 = H at hP hS ⊢
    have w_39 : o_40.toInt = 0 ∧ o_42 = slots ∧ sixes o_45 ∧ mj_C slots.toNatClampNeg f o_43 o_44 o_45 o_46 o_47 o_48 o_49 o_41.toInt len.toInt ∧ 0 ≤ o_41.toInt ∧ o_41.toInt ≤ 319 ∧ treeOk o_43 o_44 o_41.toInt len.toInt := w_39
    rw [er]
    have hPc := hP.sub (ws' := [kx_2 q_t q_row q_joined q_from q_to q_size q_lossOf q_lessBy q_value q_number o_41 o_42, kx_0 q_row q_cell len]) [1, 2] rfl
    have hKc := hK.sub (tys' := []) [] rfl
    refine vp_callSi (W.runV (As := []) (rest := []) ⟨hx, hb, hml, hown, hts⟩ (c_X2_deepest l dC dI q_t q_row q_joined q_from q_to q_size q_lossOf q_lessBy q_value q_number o_41 o_42 q_cell len a0 a1) (cwV 0 hts gX4_told_X2_deepest rfl rfl rfl (by decide +kernel) ⟨Nat.le_of_ble_eq_true rfl, Nat.le_of_ble_eq_true rfl⟩) ⟨fun a U g mk q => by obtain ⟨q0, qP, qK⟩ := q; exact ⟨q0, qP, va_K.moved (u := U) (U := U.calling g mk a) (Vm.Alike.refl U.vm) qK⟩, va_recv hKc hPc (ci := 2) (q0 := 0) rfl rfl, fun U hU hW => ⟨rfl, by rw [hU]; exact hPc, va_K.moved hW.alike hKc⟩⟩ rfl rfl hl.1 rfl (lv_room (Nat.le_of_ble_eq_true rfl)) dX4_told_77 ⟨Nat.le_of_ble_eq_true rfl, Nat.le_of_ble_eq_true rfl⟩) (fun r_55 w_55 => ?_)
    have hP9 := hP
    have hD9 := hD
    have hK9 := hK
    exact W.iret (v := r_55) hx hb hr (fun t ht hW => ⟨⟨r_55, (o_40, o_41, o_42, o_43, o_44, o_45, o_46, o_47, o_48, o_49, o_50, o_51, o_52, o_53, o_54), rfl, ⟨(fun _ => ⟨w_39.2.1, w_39.2.2.2.1⟩), w_39.2.2.1⟩, by rw [ht]; exact hP9, va_K.moved hW.alike hK9, hD9⟩, hS.F ht⟩) hS.2.2 dX4_told_80
  by_cases s_56 : p0.toInt = 5
  · refine lv_tableIn (tgt := 81) (off := 80) hx hb dX4_told_1 (by omega) (by omega) (by rw [s_56]; rfl) (by decide) ?_
    refine lv_aload_n hx hb dX4_told_81 rfl (lv_at hl 0 rfl) ?_
    refine va_get (D := (dC, dI)) (ci := 4) (v := .ref q_row) (C := RX4) (T := TX4) (N := 9) hx hb hts hi_4 hown hK hP 0 rfl rfl 0 (by decide) hf_12 (fun _ h9 => h9) rfl dX4_told_82 ?_
    refine va_get (D := (dC, dI)) (ci := 0) (v := .int len) (C := RX0) (T := TX0) (N := 2) hx hb hts hi_0 hown hK hP 2 rfl rfl 1 (by decide) hf_57 (fun _ h9 => h9) rfl dX4_told_85 ?_
    refine lv_if_ne (tgt := 95) hx hb dX4_told_88 (by decide) (fun c_57 => ?_) (fun c_57 => ?_)
    · have i_57 : ¬ len.toInt = 0 := kc_ne c_57
      refine lv_aload_n hx hb dX4_told_95 rfl (lv_at hl 0 rfl) ?_
      have hPc := hP
      have hKc := hK
      have hDc := hD
      have hFc := kx_free hD hS hA
      refine va_callr (va_runV (As := []) (rest := []) ⟨hx, hb, hml, hown, hts⟩ (c_X4_laidTree_x l dC dI m_ q_row q_t t_ h0 k0 w_ z_ slots old q_joined q_from q_to q_size q_lossOf q_lessBy q_value q_number nodes here q_cell cyI len f ff ft fs fo uv un fe j_v j_n js jl je jv jn s.heap.size a0 a1 s0 sl0 sl1 l0) (cwV 0 hts gX4_told_X4_laidTree rfl rfl rfl (by decide +kernel) ⟨Nat.le_of_ble_eq_true rfl, Nat.le_of_ble_eq_true rfl⟩) ⟨fun a U g mk q => by obtain ⟨q0, q1, qP, qK, qD⟩ := q; exact ⟨q0, q1, qP, va_K.moved (u := U) (U := U.calling g mk a) (Vm.Alike.refl U.vm) qK, qD⟩, va_recv hKc hPc (ci := 4) (q0 := 0) rfl rfl, fun U hU hW => ⟨rfl, by rw [hU], by rw [hU]; exact hPc, va_K.moved hW.alike hKc, hDc.weaken (fun _ _ _ _ => trivial)⟩⟩ rfl rfl hl.1 rfl (lv_room (Nat.le_of_ble_eq_true rfl)) dX4_told_96 ⟨Nat.le_of_ble_eq_true rfl, Nat.le_of_ble_eq_true rfl⟩) hS (fun q _ h => hFc q h) hFc (fun u ra t H1 locs ht hvm w_58 hB hz1 hk1 hS => ?_)
      obtain ⟨o_59, o_60, o_61, o_62, o_63, o_64, o_65, o_66, o_67, o_68, o_69, o_70, o_71, o_72, o_73⟩ := u
      dsimp only at w_58 hB
      obtain ⟨er, hP1, hK1, hD1⟩ := hB
      rw [ht] at hP1
      have hK1 := va_K.moved hvm.symm hK1
      have hD := hD1.weaken (fun _ q _ h => hFc q.1 h)
      have hP := hP1
      clear hP1 hD1 hK1 hk1 hz1 hFc hDc hPc hKc
      generalize H1 = H at hP hS ⊢
      have w_58 : o_59.toInt = 0 ∧ o_61 = slots ∧ sixes o_64 ∧ mj_C slots.toNatClampNeg f o_62 o_63 o_64 o_65 o_66 o_67 o_68 o_60.toInt len.toInt ∧ 0 ≤ o_60.toInt ∧ o_60.toInt ≤ 319 ∧ treeOk o_62 o_63 o_60.toInt len.toInt := w_58
      rw [er]
      refine va_get (D := (dC, dI)) (ci := 2) (v := .ref q_lossOf) (C := RX2) (T := TX2) (N := 11) hx hb hts hi_2 hown hK hP 1 rfl rfl 5 (by decide) hf_139 (fun _ h9 => h9) rfl dX4_told_99 ?_
      refine lv_iconst (v := 0) hx hb dX4_told_102 (by decide) ?_
      refine va_iald hx hb hK hP 7 0 rfl rfl (ki_inl (by decide)) dX4_told_103 ?_
      refine lv_topi (fun y_74 ey_74 => ?_)
      have j_74 : y_74.toInt = (o_65 (0 : Int32).toNatClampNeg).toInt := congrArg Int32.toInt ey_74
      have hP9 := hP
      have hD9 := hD
      have hK9 := hK
      exact W.iret (v := y_74) hx hb hr (fun t ht hW => ⟨⟨y_74, (o_59, o_60, o_61, o_62, o_63, o_64, o_65, o_66, o_67, o_68, o_69, o_70, o_71, o_72, o_73), rfl, ⟨(fun _ => ⟨w_58.2.1, w_58.2.2.2.1⟩), w_58.2.2.1⟩, by rw [ht]; exact hP9, va_K.moved hW.alike hK9, hD9⟩, hS.F ht⟩) hS.2.2 dX4_told_104
    · have i_57 : len.toInt = 0 := kc_eq c_57
      refine lv_iconst (v := 0) hx hb dX4_told_91 (by decide) ?_
      refine lv_goto (tgt := 104) hx hb dX4_told_92 (by decide) ?_
      have hP9 := hP
      have hD9 := hD
      have hK9 := hK
      exact W.iret (v := 0) hx hb hr (fun t ht hW => ⟨⟨0, (old, nodes, here, ff, ft, fs, fo, fe, uv, un, js, jl, je, jv, jn), rfl, ⟨l0, s0⟩, by rw [ht]; exact hP9, va_K.moved hW.alike hK9, hD9⟩, hS.F ht⟩) hS.2.2 dX4_told_104
  by_cases s_75 : p0.toInt = 6
  · refine lv_tableIn (tgt := 105) (off := 104) hx hb dX4_told_1 (by omega) (by omega) (by rw [s_75]; rfl) (by decide) ?_
    refine lv_aload_n hx hb dX4_told_105 rfl (lv_at hl 0 rfl) ?_
    have hPc := hP
    have hKc := hK
    have hDc := hD
    have hFc := kx_free hD hS hA
    refine va_callr (va_runV (As := []) (rest := []) ⟨hx, hb, hml, hown, hts⟩ (c_X4_laidTree_x l dC dI m_ q_row q_t t_ h0 k0 w_ z_ slots old q_joined q_from q_to q_size q_lossOf q_lessBy q_value q_number nodes here q_cell cyI len f ff ft fs fo uv un fe j_v j_n js jl je jv jn s.heap.size a0 a1 s0 sl0 sl1 l0) (cwV 0 hts gX4_told_X4_laidTree rfl rfl rfl (by decide +kernel) ⟨Nat.le_of_ble_eq_true rfl, Nat.le_of_ble_eq_true rfl⟩) ⟨fun a U g mk q => by obtain ⟨q0, q1, qP, qK, qD⟩ := q; exact ⟨q0, q1, qP, va_K.moved (u := U) (U := U.calling g mk a) (Vm.Alike.refl U.vm) qK, qD⟩, va_recv hKc hPc (ci := 4) (q0 := 0) rfl rfl, fun U hU hW => ⟨rfl, by rw [hU], by rw [hU]; exact hPc, va_K.moved hW.alike hKc, hDc.weaken (fun _ _ _ _ => trivial)⟩⟩ rfl rfl hl.1 rfl (lv_room (Nat.le_of_ble_eq_true rfl)) dX4_told_106 ⟨Nat.le_of_ble_eq_true rfl, Nat.le_of_ble_eq_true rfl⟩) hS (fun q _ h => hFc q h) hFc (fun u ra t H1 locs ht hvm w_76 hB hz1 hk1 hS => ?_)
    obtain ⟨o_77, o_78, o_79, o_80, o_81, o_82, o_83, o_84, o_85, o_86, o_87, o_88, o_89, o_90, o_91⟩ := u
    dsimp only at w_76 hB
    obtain ⟨er, hP1, hK1, hD1⟩ := hB
    rw [ht] at hP1
    have hK1 := va_K.moved hvm.symm hK1
    have hD := hD1.weaken (fun _ q _ h => hFc q.1 h)
    have hP := hP1
    clear hP1 hD1 hK1 hk1 hz1 hFc hDc hPc hKc
    generalize H1 = H at hP hS ⊢
    have w_76 : o_77.toInt = 0 ∧ o_79 = slots ∧ sixes o_82 ∧ mj_C slots.toNatClampNeg f o_80 o_81 o_82 o_83 o_84 o_85 o_86 o_78.toInt len.toInt ∧ 0 ≤ o_78.toInt ∧ o_78.toInt ≤ 319 ∧ treeOk o_80 o_81 o_78.toInt len.toInt := w_76
    rw [er]
    have hPc := hP.sub (ws' := [kx_2 q_t q_row q_joined q_from q_to q_size q_lossOf q_lessBy q_value q_number o_78 o_79, kx_a q_lossOf cyI 319 o_83]) [1, 7] rfl
    have hKc := hK
    refine vp_callSi (W.runV (As := []) (rest := []) ⟨hx, hb, hml, hown, hts⟩ (c_X2_allLosses l dC dI q_t q_row q_joined q_from q_to q_size q_lossOf q_lessBy q_value q_number o_78 o_79 cyI o_83 w_76.2.2.2.2.1 w_76.2.2.2.2.2.1) (cwV 0 hts gX4_told_X2_allLosses rfl rfl rfl (by decide +kernel) ⟨Nat.le_of_ble_eq_true rfl, Nat.le_of_ble_eq_true rfl⟩) ⟨fun a U g mk q => by obtain ⟨q0, qP, qK⟩ := q; exact ⟨q0, qP, va_K.moved (u := U) (U := U.calling g mk a) (Vm.Alike.refl U.vm) qK⟩, va_recv hKc hPc (ci := 2) (q0 := 0) rfl rfl, fun U hU hW => ⟨rfl, by rw [hU]; exact hPc, va_K.moved hW.alike hKc⟩⟩ rfl rfl hl.1 rfl (lv_room (Nat.le_of_ble_eq_true rfl)) dX4_told_109 ⟨Nat.le_of_ble_eq_true rfl, Nat.le_of_ble_eq_true rfl⟩) (fun r_92 w_92 => ?_)
    have hP9 := hP
    have hD9 := hD
    have hK9 := hK
    exact W.iret (v := r_92) hx hb hr (fun t ht hW => ⟨⟨r_92, (o_77, o_78, o_79, o_80, o_81, o_82, o_83, o_84, o_85, o_86, o_87, o_88, o_89, o_90, o_91), rfl, ⟨(fun _ => ⟨w_76.2.1, w_76.2.2.2.1⟩), w_76.2.2.1⟩, by rw [ht]; exact hP9, va_K.moved hW.alike hK9, hD9⟩, hS.F ht⟩) hS.2.2 dX4_told_112
  refine lv_tableOut (tgt := 113) hx hb dX4_told_1 (by omega) (by decide) ?_
  refine lv_iconst (v := (-1)) hx hb dX4_told_113 (by decide) ?_
  have hP9 := hP
  have hD9 := hD
  have hK9 := hK
  exact W.iret (v := (-1)) hx hb hr (fun t ht hW => ⟨⟨(-1), (old, nodes, here, ff, ft, fs, fo, fe, uv, un, js, jl, je, jv, jn), rfl, ⟨l0, s0⟩, by rw [ht]; exact hP9, va_K.moved hW.alike hK9, hD9⟩, hS.F ht⟩) hS.2.2 dX4_told_114

set_option maxHeartbeats 4000000 in
set_option maxRecDepth 100000 in
theorem c_X4_both_x (l : Launch) (dC : Nat → ClassId) (dI : Nat → Nat → Nat) (m_ : Nat) (q_row : Nat) (q_t : Nat) (t_ : Nat) (h0 : Nat) (k0 : Nat) (w_ : Nat) (z_ : Nat) (slots : Int32) (old : Int32) (q_joined : Nat) (q_from : Nat) (q_to : Nat) (q_size : Nat) (q_lossOf : Nat) (q_lessBy : Nat) (q_value : Nat) (q_number : Nat) (nodes : Int32) (here : Int32) (q_cell : Nat) (cyI : ClassId) (len : Int32) (f : Nat → Int32) (ff : Nat → Int32) (ft : Nat → Int32) (fs : Nat → Int32) (fo : Nat → Int32) (uv : Nat → Int32) (un : Nat → Int32) (fe : Nat → Int32) (j_v : Nat) (j_n : Nat) (js : Int32) (jl : Int32) (je : Int32) (jv : Nat → Int32) (jn : Nat → Int32) (a_v : Nat) (a_n : Nat) (vs : Int32) (lo : Int32) (le : Int32) (fv : Nat → Int32) (fn : Nat → Int32) (kv : Nat) (kn : Nat) (sb : Int32) (lb : Int32) (eb : Int32) (gb : Nat → Int32) (nb : Nat → Int32) (p0 : Int32) (p1 : Int32) (p2 : Int32) (p3 : Int32) (p4 : Int32) (p5 : Int32) (sz : Nat) (a0 : 0 ≤ len.toInt) (a1 : len.toInt ≤ 160) (s0 : sixes fs) (sl0 : 1 ≤ slots.toInt) (sl1 : slots.toInt ≤ 6) (l0 : laidX old slots here f ff ft fs fo fe uv un nodes len) : Met l yX4_both wsX4_both ({ frames := 6, cells := 0, slots := 0, locals := 270 }) (va_Pc [.ref m_, .int p0, .int p1, .int p2, .int p3, .int p4, .int p5] (fun U => U.heap.size = sz ∧ va_P (dC, dI) vwCl [kx_4 m_ q_row q_t t_ h0 k0 w_ z_ slots old, kx_2 q_t q_row q_joined q_from q_to q_size q_lossOf q_lessBy q_value q_number nodes here, kx_0 q_row q_cell len, kx_a q_cell cyI 160 f, kx_a q_from cyI 319 ff, kx_a q_to cyI 319 ft, kx_a q_size cyI 319 fs, kx_a q_lossOf cyI 319 fo, kx_a q_lessBy cyI 319 fe, kx_a q_value cyI 1914 uv, kx_a q_number cyI 1914 un, kx_3 q_joined j_v j_n js jl je, kx_a j_v cyI 12 jv, kx_a j_n cyI 12 jn, kx_3 h0 a_v a_n vs lo le, kx_a a_v cyI 12 fv, kx_a a_n cyI 12 fn, kx_3 k0 kv kn sb lb eb, kx_a kv cyI 12 gb, kx_a kn cyI 12 nb] U.heap ∧ va_K (dC, dI) vwCl [(cyI, .int)] U ∧ va_D (fun _ => True) [kx_4 m_ q_row q_t t_ h0 k0 w_ z_ slots old, kx_2 q_t q_row q_joined q_from q_to q_size q_lossOf q_lessBy q_value q_number nodes here, kx_0 q_row q_cell len, kx_a q_cell cyI 160 f, kx_a q_from cyI 319 ff, kx_a q_to cyI 319 ft, kx_a q_size cyI 319 fs, kx_a q_lossOf cyI 319 fo, kx_a q_lessBy cyI 319 fe, kx_a q_value cyI 1914 uv, kx_a q_number cyI 1914 un, kx_3 q_joined j_v j_n js jl je, kx_a j_v cyI 12 jv, kx_a j_n cyI 12 jn, kx_3 h0 a_v a_n vs lo le, kx_a a_v cyI 12 fv, kx_a a_n cyI 12 fn, kx_3 k0 kv kn sb lb eb, kx_a kv cyI 12 gb, kx_a kn cyI 12 nb] ∧ va_Nw (.methodLinkNest RX3 42 yX4_isHeavy RX4) U)) (va_Qi (fun (r : Int32) (u : Int32 × Int32 × Int32 × (Nat → Int32) × (Nat → Int32) × (Nat → Int32) × (Nat → Int32) × (Nat → Int32) × (Nat → Int32) × (Nat → Int32) × Int32 × Int32 × Int32 × (Nat → Int32) × (Nat → Int32) × Int32 × Int32 × Int32 × (Nat → Int32) × (Nat → Int32) × Int32 × Int32 × Int32 × (Nat → Int32) × (Nat → Int32)) => laidX u.1 slots u.2.2.1 f u.2.2.2.1 u.2.2.2.2.1 u.2.2.2.2.2.1 u.2.2.2.2.2.2.1 u.2.2.2.2.2.2.2.1 u.2.2.2.2.2.2.2.2.1 u.2.2.2.2.2.2.2.2.2.1 u.2.1 len ∧ sixes u.2.2.2.2.2.1) (fun (u : Int32 × Int32 × Int32 × (Nat → Int32) × (Nat → Int32) × (Nat → Int32) × (Nat → Int32) × (Nat → Int32) × (Nat → Int32) × (Nat → Int32) × Int32 × Int32 × Int32 × (Nat → Int32) × (Nat → Int32) × Int32 × Int32 × Int32 × (Nat → Int32) × (Nat → Int32) × Int32 × Int32 × Int32 × (Nat → Int32) × (Nat → Int32)) (t : State) => va_P (dC, dI) vwCl [kx_4 m_ q_row q_t t_ h0 k0 w_ z_ slots u.1, kx_2 q_t q_row q_joined q_from q_to q_size q_lossOf q_lessBy q_value q_number u.2.1 u.2.2.1, kx_0 q_row q_cell len, kx_a q_cell cyI 160 f, kx_a q_from cyI 319 u.2.2.2.1, kx_a q_to cyI 319 u.2.2.2.2.1, kx_a q_size cyI 319 u.2.2.2.2.2.1, kx_a q_lossOf cyI 319 u.2.2.2.2.2.2.1, kx_a q_lessBy cyI 319 u.2.2.2.2.2.2.2.1, kx_a q_value cyI 1914 u.2.2.2.2.2.2.2.2.1, kx_a q_number cyI 1914 u.2.2.2.2.2.2.2.2.2.1, kx_3 q_joined j_v j_n u.2.2.2.2.2.2.2.2.2.2.1 u.2.2.2.2.2.2.2.2.2.2.2.1 u.2.2.2.2.2.2.2.2.2.2.2.2.1, kx_a j_v cyI 12 u.2.2.2.2.2.2.2.2.2.2.2.2.2.1, kx_a j_n cyI 12 u.2.2.2.2.2.2.2.2.2.2.2.2.2.2.1, kx_3 h0 a_v a_n u.2.2.2.2.2.2.2.2.2.2.2.2.2.2.2.1 u.2.2.2.2.2.2.2.2.2.2.2.2.2.2.2.2.1 u.2.2.2.2.2.2.2.2.2.2.2.2.2.2.2.2.2.1, kx_a a_v cyI 12 u.2.2.2.2.2.2.2.2.2.2.2.2.2.2.2.2.2.2.1, kx_a a_n cyI 12 u.2.2.2.2.2.2.2.2.2.2.2.2.2.2.2.2.2.2.2.1, kx_3 k0 kv kn u.2.2.2.2.2.2.2.2.2.2.2.2.2.2.2.2.2.2.2.2.1 u.2.2.2.2.2.2.2.2.2.2.2.2.2.2.2.2.2.2.2.2.2.1 u.2.2.2.2.2.2.2.2.2.2.2.2.2.2.2.2.2.2.2.2.2.2.1, kx_a kv cyI 12 u.2.2.2.2.2.2.2.2.2.2.2.2.2.2.2.2.2.2.2.2.2.2.2.1, kx_a kn cyI 12 u.2.2.2.2.2.2.2.2.2.2.2.2.2.2.2.2.2.2.2.2.2.2.2.2] t.heap ∧ va_K (dC, dI) vwCl [(cyI, .int)] t ∧ va_D (va_A [kx_4 m_ q_row q_t t_ h0 k0 w_ z_ slots old, kx_2 q_t q_row q_joined q_from q_to q_size q_lossOf q_lessBy q_value q_number nodes here, kx_0 q_row q_cell len, kx_a q_cell cyI 160 f, kx_a q_from cyI 319 ff, kx_a q_to cyI 319 ft, kx_a q_size cyI 319 fs, kx_a q_lossOf cyI 319 fo, kx_a q_lessBy cyI 319 fe, kx_a q_value cyI 1914 uv, kx_a q_number cyI 1914 un, kx_3 q_joined j_v j_n js jl je, kx_a j_v cyI 12 jv, kx_a j_n cyI 12 jn, kx_3 h0 a_v a_n vs lo le, kx_a a_v cyI 12 fv, kx_a a_n cyI 12 fn, kx_3 k0 kv kn sb lb eb, kx_a kv cyI 12 gb, kx_a kn cyI 12 nb] sz) [kx_4 m_ q_row q_t t_ h0 k0 w_ z_ slots u.1, kx_2 q_t q_row q_joined q_from q_to q_size q_lossOf q_lessBy q_value q_number u.2.1 u.2.2.1, kx_0 q_row q_cell len, kx_a q_cell cyI 160 f, kx_a q_from cyI 319 u.2.2.2.1, kx_a q_to cyI 319 u.2.2.2.2.1, kx_a q_size cyI 319 u.2.2.2.2.2.1, kx_a q_lossOf cyI 319 u.2.2.2.2.2.2.1, kx_a q_lessBy cyI 319 u.2.2.2.2.2.2.2.1, kx_a q_value cyI 1914 u.2.2.2.2.2.2.2.2.1, kx_a q_number cyI 1914 u.2.2.2.2.2.2.2.2.2.1, kx_3 q_joined j_v j_n u.2.2.2.2.2.2.2.2.2.2.1 u.2.2.2.2.2.2.2.2.2.2.2.1 u.2.2.2.2.2.2.2.2.2.2.2.2.1, kx_a j_v cyI 12 u.2.2.2.2.2.2.2.2.2.2.2.2.2.1, kx_a j_n cyI 12 u.2.2.2.2.2.2.2.2.2.2.2.2.2.2.1, kx_3 h0 a_v a_n u.2.2.2.2.2.2.2.2.2.2.2.2.2.2.2.1 u.2.2.2.2.2.2.2.2.2.2.2.2.2.2.2.2.1 u.2.2.2.2.2.2.2.2.2.2.2.2.2.2.2.2.2.1, kx_a a_v cyI 12 u.2.2.2.2.2.2.2.2.2.2.2.2.2.2.2.2.2.2.1, kx_a a_n cyI 12 u.2.2.2.2.2.2.2.2.2.2.2.2.2.2.2.2.2.2.2.1, kx_3 k0 kv kn u.2.2.2.2.2.2.2.2.2.2.2.2.2.2.2.2.2.2.2.2.1 u.2.2.2.2.2.2.2.2.2.2.2.2.2.2.2.2.2.2.2.2.2.1 u.2.2.2.2.2.2.2.2.2.2.2.2.2.2.2.2.2.2.2.2.2.2.1, kx_a kv cyI 12 u.2.2.2.2.2.2.2.2.2.2.2.2.2.2.2.2.2.2.2.2.2.2.2.1, kx_a kn cyI 12 u.2.2.2.2.2.2.2.2.2.2.2.2.2.2.2.2.2.2.2.2.2.2.2.2]) (va_A [kx_4 m_ q_row q_t t_ h0 k0 w_ z_ slots old, kx_2 q_t q_row q_joined q_from q_to q_size q_lossOf q_lessBy q_value q_number nodes here, kx_0 q_row q_cell len, kx_a q_cell cyI 160 f, kx_a q_from cyI 319 ff, kx_a q_to cyI 319 ft, kx_a q_size cyI 319 fs, kx_a q_lossOf cyI 319 fo, kx_a q_lessBy cyI 319 fe, kx_a q_value cyI 1914 uv, kx_a q_number cyI 1914 un, kx_3 q_joined j_v j_n js jl je, kx_a j_v cyI 12 jv, kx_a j_n cyI 12 jn, kx_3 h0 a_v a_n vs lo le, kx_a a_v cyI 12 fv, kx_a a_n cyI 12 fn, kx_3 k0 kv kn sb lb eb, kx_a kv cyI 12 gb, kx_a kn cyI 12 nb] sz)) 0 0 (va_A [kx_4 m_ q_row q_t t_ h0 k0 w_ z_ slots old, kx_2 q_t q_row q_joined q_from q_to q_size q_lossOf q_lessBy q_value q_number nodes here, kx_0 q_row q_cell len, kx_a q_cell cyI 160 f, kx_a q_from cyI 319 ff, kx_a q_to cyI 319 ft, kx_a q_size cyI 319 fs, kx_a q_lossOf cyI 319 fo, kx_a q_lessBy cyI 319 fe, kx_a q_value cyI 1914 uv, kx_a q_number cyI 1914 un, kx_3 q_joined j_v j_n js jl je, kx_a j_v cyI 12 jv, kx_a j_n cyI 12 jn, kx_3 h0 a_v a_n vs lo le, kx_a a_v cyI 12 fv, kx_a a_n cyI 12 fn, kx_3 k0 kv kn sb lb eb, kx_a kv cyI 12 gb, kx_a kn cyI 12 nb] sz) := by
  refine Met.ofW (cc := cX4_both) (maxL := 8) (ret := (some .int)) (by decide) rfl ?_
  intro p e s m args below meth c s₁ B hml hv
  obtain ⟨rfl, hsz, hP, hK, hD0, hN0⟩ := hv
  have hx := B.exec
  have hb := B.bytes
  have hr := B.returns
  have hts := atoms_spec (ws := wsX4_both) B.pre
  have hown : s.vm.findClass RX4 = some m.cls := findClass_of_methodNamed B.named
  have hlocks := B.notSynchronized
  subst hsz
  have hD := hD0.self (sz := s.heap.size)
  generalize hAe : va_A [kx_4 m_ q_row q_t t_ h0 k0 w_ z_ slots old, kx_2 q_t q_row q_joined q_from q_to q_size q_lossOf q_lessBy q_value q_number nodes here, kx_0 q_row q_cell len, kx_a q_cell cyI 160 f, kx_a q_from cyI 319 ff, kx_a q_to cyI 319 ft, kx_a q_size cyI 319 fs, kx_a q_lossOf cyI 319 fo, kx_a q_lessBy cyI 319 fe, kx_a q_value cyI 1914 uv, kx_a q_number cyI 1914 un, kx_3 q_joined j_v j_n js jl je, kx_a j_v cyI 12 jv, kx_a j_n cyI 12 jn, kx_3 h0 a_v a_n vs lo le, kx_a a_v cyI 12 fv, kx_a a_n cyI 12 fn, kx_3 k0 kv kn sb lb eb, kx_a kv cyI 12 gb, kx_a kn cyI 12 nb] s.heap.size = A at hD ⊢
  have hA : ∀ q : Nat, s.heap.size ≤ q → A q := fun q h => by rw [← hAe]; exact Or.inr h
  have hS : va_S A s.heap s.heap [] := va_S.rf
  have hP : va_P (dC, dI) vwCl [kx_4 m_ q_row q_t t_ h0 k0 w_ z_ slots old, kx_2 q_t q_row q_joined q_from q_to q_size q_lossOf q_lessBy q_value q_number nodes here, kx_0 q_row q_cell len, kx_a q_cell cyI 160 f, kx_a q_from cyI 319 ff, kx_a q_to cyI 319 ft, kx_a q_size cyI 319 fs, kx_a q_lossOf cyI 319 fo, kx_a q_lessBy cyI 319 fe, kx_a q_value cyI 1914 uv, kx_a q_number cyI 1914 un, kx_3 q_joined j_v j_n js jl je, kx_a j_v cyI 12 jv, kx_a j_n cyI 12 jn, kx_3 h0 a_v a_n vs lo le, kx_a a_v cyI 12 fv, kx_a a_n cyI 12 fn, kx_3 k0 kv kn sb lb eb, kx_a kv cyI 12 gb, kx_a kn cyI 12 nb] s.heap := hP
  have hl := lv_entry ([.ref m_, .int p0, .int p1, .int p2, .int p3, .int p4, .int p5]) (n := 8) (Nat.le_of_ble_eq_true rfl)
  rw [lg_entry_eq]
  generalize (lg_sl ([.ref m_, .int p0, .int p1, .int p2, .int p3, .int p4, .int p5]) ++ List.replicate (8 - (lg_sl ([.ref m_, .int p0, .int p1, .int p2, .int p3, .int p4, .int p5])).length) Slot.unset).toArray = ls at hl ⊢
  have hl : lv_has ls 8 [(0, .ref m_), (1, .int p0), (2, .int p1), (3, .int p2), (4, .int p3), (5, .int p4), (6, .int p5)] := hl
  have hf_35 := hts (.fieldLink RX4 35 "MajorityIndex" "votes" "LMajorityIndex$Votes;") (List.mem_of_getElem? (i := 1) rfl)
  have hi_4 : ∀ w ∈ u_ws RX4 TX4 9, w ∈ wsX4_both := fun w h => List.mem_cons_of_mem _ (List.mem_append_left _ (List.mem_append_left _ (List.mem_append_left _ (List.mem_append_right _ h))))
  have hf_174 := hts (.fieldLink RX4 174 "MajorityIndex$Votes" "size" "I") (List.mem_of_getElem? (i := 2) rfl)
  have hi_3 : ∀ w ∈ u_ws RX3 TX3 5, w ∈ wsX4_both := fun w h => List.mem_cons_of_mem _ (List.mem_append_left _ (List.mem_append_left _ (List.mem_append_right _ h)))
  refine lv_aload_n hx hb dX4_both_0 rfl (lv_at hl 0 rfl) ?_
  refine lv_iload_n hx hb dX4_both_1 rfl (lv_at hl 1 rfl) ?_
  refine lv_iload_n hx hb dX4_both_2 rfl (lv_at hl 2 rfl) ?_
  refine lv_iload_n hx hb dX4_both_3 rfl (lv_at hl 3 rfl) ?_
  refine lv_iload hx hb dX4_both_4 (lv_at hl 4 rfl) ?_
  refine lv_iload hx hb dX4_both_6 (lv_at hl 5 rfl) ?_
  refine lv_iload hx hb dX4_both_8 (lv_at hl 6 rfl) ?_
  have hPc := hP.sub (ws' := [kx_4 m_ q_row q_t t_ h0 k0 w_ z_ slots old, kx_0 q_row q_cell len, kx_a q_cell cyI 160 f]) [0, 2, 3] rfl
  have hKc := hK
  refine vp_callSi (W.runV (As := [.int p0, .int p1, .int p2, .int p3, .int p4, .int p5]) (rest := []) ⟨hx, hb, hml, hown, hts⟩ (c_X4_refusalOfBoth l dC dI m_ q_row q_t t_ h0 k0 w_ z_ slots old q_cell cyI len f p0 p1 p2 p3 p4 p5 a0 a1) (cwV 6 hts gX4_both_X4_refusalOfBoth rfl rfl rfl (by decide +kernel) ⟨Nat.le_of_ble_eq_true rfl, Nat.le_of_ble_eq_true rfl⟩) ⟨fun a U g mk q => by obtain ⟨q0, qP, qK⟩ := q; exact ⟨q0, qP, va_K.moved (u := U) (U := U.calling g mk a) (Vm.Alike.refl U.vm) qK⟩, va_recv hKc hPc (ci := 4) (q0 := 0) rfl rfl, fun U hU hW => ⟨rfl, by rw [hU]; exact hPc, va_K.moved hW.alike hKc⟩⟩ rfl rfl hl.1 rfl (lv_room (Nat.le_of_ble_eq_true rfl)) dX4_both_10 ⟨Nat.le_of_ble_eq_true rfl, Nat.le_of_ble_eq_true rfl⟩) (fun r_1 w_1 => ?_)
  rcases w_1 with ⟨rfl, w_1⟩ | ⟨rfl, w_1⟩ | ⟨rfl, w_1⟩ | ⟨rfl, w_1⟩
  · have w_1 : (0 ≤ p0.toInt ∧ p0.toInt < p1.toInt ∧ p1.toInt ≤ len.toInt ∧ 0 ≤ p2.toInt ∧ p2.toInt < p3.toInt ∧ p3.toInt ≤ len.toInt) := w_1
    refine lv_istore (lv' := [(7, .int 0), (0, .ref m_), (1, .int p0), (2, .int p1), (3, .int p2), (4, .int p3), (5, .int p4), (6, .int p5)]) hx hb dX4_both_13 hl (by decide) rfl (fun ls hl => ?_)
    refine lv_iload hx hb dX4_both_15 (lv_at hl 0 rfl) ?_
    refine lv_if_eq (tgt := 23) hx hb dX4_both_17 (by decide) (fun c_2 => ?_) (fun c_2 => ?_)
    · refine lv_aload_n hx hb dX4_both_23 rfl (lv_at hl 1 rfl) ?_
      refine lv_aload_n hx hb dX4_both_24 rfl (lv_at hl 1 rfl) ?_
      obtain ⟨hPc, hDc, hFc, hCc⟩ := kx_pre (wc := [kx_4 m_ q_row q_t t_ h0 k0 w_ z_ slots old, kx_2 q_t q_row q_joined q_from q_to q_size q_lossOf q_lessBy q_value q_number nodes here, kx_0 q_row q_cell len, kx_a q_cell cyI 160 f, kx_a q_from cyI 319 ff, kx_a q_to cyI 319 ft, kx_a q_size cyI 319 fs, kx_a q_lossOf cyI 319 fo, kx_a q_lessBy cyI 319 fe, kx_a q_value cyI 1914 uv, kx_a q_number cyI 1914 un, kx_3 q_joined j_v j_n js jl je, kx_a j_v cyI 12 jv, kx_a j_n cyI 12 jn]) hP hD hS hA [0, 1, 2, 3, 4, 5, 6, 7, 8, 9, 10, 11, 12, 13] (by decide) rfl
      have hKc := hK
      refine va_callr (va_runV (As := []) (rest := [.ref m_]) ⟨hx, hb, hml, hown, hts⟩ (c_X4_laidTree_x l dC dI m_ q_row q_t t_ h0 k0 w_ z_ slots old q_joined q_from q_to q_size q_lossOf q_lessBy q_value q_number nodes here q_cell cyI len f ff ft fs fo uv un fe j_v j_n js jl je jv jn s.heap.size a0 a1 s0 sl0 sl1 l0) (cwV 0 hts gX4_both_X4_laidTree rfl rfl rfl (by decide +kernel) ⟨Nat.le_of_ble_eq_true rfl, Nat.le_of_ble_eq_true rfl⟩) ⟨fun a U g mk q => by obtain ⟨q0, q1, qP, qK, qD⟩ := q; exact ⟨q0, q1, qP, va_K.moved (u := U) (U := U.calling g mk a) (Vm.Alike.refl U.vm) qK, qD⟩, va_recv hKc hPc (ci := 4) (q0 := 0) rfl rfl, fun U hU hW => ⟨rfl, by rw [hU], by rw [hU]; exact hPc, va_K.moved hW.alike hKc, hDc.weaken (fun _ _ _ _ => trivial)⟩⟩ rfl rfl hl.1 rfl (lv_room (Nat.le_of_ble_eq_true rfl)) dX4_both_25 ⟨Nat.le_of_ble_eq_true rfl, Nat.le_of_ble_eq_true rfl⟩) hS (fun q _ h => hFc q h) hFc (fun u ra t H1 locs ht hvm w_3 hB hz1 hk1 hS => ?_)
      obtain ⟨o_4, o_5, o_6, o_7, o_8, o_9, o_10, o_11, o_12, o_13, o_14, o_15, o_16, o_17, o_18⟩ := u
      dsimp only at w_3 hB
      obtain ⟨er, hP1, hK1, hD1⟩ := hB
      rw [ht] at hP1
      have hK1 := va_K.moved hvm.symm hK1
      obtain ⟨hP, hD⟩ := kx_join (w2 := [kx_3 h0 a_v a_n vs lo le, kx_a a_v cyI 12 fv, kx_a a_n cyI 12 fn, kx_3 k0 kv kn sb lb eb, kx_a kv cyI 12 gb, kx_a kn cyI 12 nb, kx_4 m_ q_row q_t t_ h0 k0 w_ z_ slots o_4, kx_2 q_t q_row q_joined q_from q_to q_size q_lossOf q_lessBy q_value q_number o_5 o_6, kx_0 q_row q_cell len, kx_a q_cell cyI 160 f, kx_a q_from cyI 319 o_7, kx_a q_to cyI 319 o_8, kx_a q_size cyI 319 o_9, kx_a q_lossOf cyI 319 o_10, kx_a q_lessBy cyI 319 o_11, kx_a q_value cyI 1914 o_12, kx_a q_number cyI 1914 o_13, kx_3 q_joined j_v j_n o_14 o_15 o_16, kx_a j_v cyI 12 o_17, kx_a j_n cyI 12 o_18]) hP hD hP1 hD1 hk1 hFc [0, 1, 2, 3, 4, 5, 6, 7, 8, 9, 10, 11, 12, 13] [14, 15, 16, 17, 18, 19] hCc rfl (by decide) (by decide)
      clear hP1 hD1 hK1 hk1 hz1 hFc hDc hPc hKc hCc
      generalize H1 = H at hP hS ⊢
      have w_3 : o_4.toInt = 0 ∧ o_6 = slots ∧ sixes o_9 ∧ mj_C slots.toNatClampNeg f o_7 o_8 o_9 o_10 o_11 o_12 o_13 o_5.toInt len.toInt ∧ 0 ≤ o_5.toInt ∧ o_5.toInt ≤ 319 ∧ treeOk o_7 o_8 o_5.toInt len.toInt := w_3
      rw [er]
      refine lv_iload_n hx hb dX4_both_28 rfl (lv_at hl 2 rfl) ?_
      refine lv_iload_n hx hb dX4_both_29 rfl (lv_at hl 3 rfl) ?_
      refine lv_iload_n hx hb dX4_both_30 rfl (lv_at hl 4 rfl) ?_
      refine lv_iload hx hb dX4_both_31 (lv_at hl 5 rfl) ?_
      refine lv_iload hx hb dX4_both_33 (lv_at hl 6 rfl) ?_
      refine lv_iload hx hb dX4_both_35 (lv_at hl 7 rfl) ?_
      obtain ⟨hPc, hDc, hFc, hCc⟩ := kx_pre (wc := [kx_4 m_ q_row q_t t_ h0 k0 w_ z_ slots o_4, kx_0 q_row q_cell len, kx_a q_cell cyI 160 f, kx_2 q_t q_row q_joined q_from q_to q_size q_lossOf q_lessBy q_value q_number o_5 o_6, kx_a q_from cyI 319 o_7, kx_a q_to cyI 319 o_8, kx_a q_size cyI 319 o_9, kx_a q_lossOf cyI 319 o_10, kx_a q_value cyI 1914 o_12, kx_a q_number cyI 1914 o_13, kx_3 h0 a_v a_n vs lo le, kx_a a_v cyI 12 fv, kx_a a_n cyI 12 fn, kx_3 k0 kv kn sb lb eb, kx_a kv cyI 12 gb, kx_a kn cyI 12 nb]) hP hD hS hA [6, 8, 9, 7, 10, 11, 12, 13, 15, 16, 0, 1, 2, 3, 4, 5] (by decide) rfl
      have hKc := hK
      refine va_callv (va_runV (As := [.ref q_t, .int p0, .int p1, .int p2, .int p3, .int p4, .int p5]) (rest := []) ⟨hx, hb, hml, hown, hts⟩ (c_X4_gatherHeavyOfBoth l dC dI m_ q_row q_t t_ h0 k0 w_ z_ slots o_4 q_joined q_from q_to q_size q_lossOf q_lessBy q_value q_number o_5 o_6 q_cell cyI len f o_7 o_8 o_9 o_10 o_12 o_13 a_v a_n cyI vs lo le fv fn kv kn sb lb eb gb nb p0 p1 p2 p3 p4 p5 H.size w_3.2.2.2.2.1 w_3.2.2.2.2.2.1 w_3.2.2.1 (om_8 w_1.1) (om_141 a1 w_1.2.2.1) (om_8 w_1.2.2.2.1) (om_141 a1 w_1.2.2.2.2.2)) (cwV 7 hts gX4_both_X4_gatherHeavyOfBoth rfl rfl rfl (by decide +kernel) ⟨Nat.le_of_ble_eq_true rfl, Nat.le_of_ble_eq_true rfl⟩) ⟨fun a U g mk q => by obtain ⟨q0, q1, qP, qK, qD, qn0⟩ := q; exact ⟨q0, q1, qP, va_K.moved (u := U) (U := U.calling g mk a) (Vm.Alike.refl U.vm) qK, qD, va_Nw.same (u := U) (U := U.calling g mk a) rfl rfl qn0⟩, va_recv hKc hPc (ci := 4) (q0 := 0) rfl rfl, fun U hU hW => ⟨rfl, by rw [hU], by rw [hU]; exact hPc, va_K.moved hW.alike hKc, hDc.weaken (fun _ _ _ _ => trivial), va_Nw.warmM hW hN0⟩⟩ rfl rfl hl.1 rfl (lv_room (Nat.le_of_ble_eq_true rfl)) dX4_both_37 ⟨Nat.le_of_ble_eq_true rfl, Nat.le_of_ble_eq_true rfl⟩) hS (fun q _ h => hFc q h) hFc (fun u t H1 locs ht hvm w_19 hB hz1 hk1 hS => ?_)
      obtain ⟨o_20, o_21, o_22, o_23, o_24, o_25, o_26, o_27, o_28, o_29⟩ := u
      dsimp only at w_19 hB
      obtain ⟨hP1, hK1, hD1⟩ := hB
      rw [ht] at hP1
      have hK1 := va_K.moved hvm.symm hK1
      obtain ⟨hP, hD⟩ := kx_join (w2 := [kx_a q_lessBy cyI 319 o_11, kx_3 q_joined j_v j_n o_14 o_15 o_16, kx_a j_v cyI 12 o_17, kx_a j_n cyI 12 o_18, kx_4 m_ q_row q_t t_ h0 k0 w_ z_ slots o_4, kx_0 q_row q_cell len, kx_a q_cell cyI 160 f, kx_2 q_t q_row q_joined q_from q_to q_size q_lossOf q_lessBy q_value q_number o_5 o_6, kx_a q_from cyI 319 o_7, kx_a q_to cyI 319 o_8, kx_a q_size cyI 319 o_9, kx_a q_lossOf cyI 319 o_10, kx_a q_value cyI 1914 o_12, kx_a q_number cyI 1914 o_13, kx_3 h0 a_v a_n o_20 o_21 o_22, kx_a a_v cyI 12 o_23, kx_a a_n cyI 12 o_24, kx_3 k0 kv kn o_25 o_26 o_27, kx_a kv cyI 12 o_28, kx_a kn cyI 12 o_29]) hP hD hP1 hD1 hk1 hFc [6, 8, 9, 7, 10, 11, 12, 13, 15, 16, 0, 1, 2, 3, 4, 5] [14, 17, 18, 19] hCc rfl (by decide) (by decide)
      clear hP1 hD1 hK1 hk1 hz1 hFc hDc hPc hKc hCc
      generalize H1 = H at hP hS ⊢
      have w_19 : 0 ≤ o_20.toInt ∧ o_20.toInt ≤ 12 := w_19
      refine lv_aload_n hx hb dX4_both_40 rfl (lv_at hl 1 rfl) ?_
      refine va_get (D := (dC, dI)) (ci := 4) (v := .ref h0) (C := RX4) (T := TX4) (N := 9) hx hb hts hi_4 hown hK hP 4 rfl rfl 3 (by decide) hf_35 (fun _ h9 => h9) rfl dX4_both_41 ?_
      refine va_get (D := (dC, dI)) (ci := 3) (v := .int o_20) (C := RX3) (T := TX3) (N := 5) hx hb hts hi_3 hown hK hP 14 rfl rfl 2 (by decide) hf_174 (fun _ h9 => h9) rfl dX4_both_44 ?_
      obtain ⟨hP9, hD9⟩ := kx_sub (w2 := [kx_4 m_ q_row q_t t_ h0 k0 w_ z_ slots o_4, kx_2 q_t q_row q_joined q_from q_to q_size q_lossOf q_lessBy q_value q_number o_5 o_6, kx_0 q_row q_cell len, kx_a q_cell cyI 160 f, kx_a q_from cyI 319 o_7, kx_a q_to cyI 319 o_8, kx_a q_size cyI 319 o_9, kx_a q_lossOf cyI 319 o_10, kx_a q_lessBy cyI 319 o_11, kx_a q_value cyI 1914 o_12, kx_a q_number cyI 1914 o_13, kx_3 q_joined j_v j_n o_14 o_15 o_16, kx_a j_v cyI 12 o_17, kx_a j_n cyI 12 o_18, kx_3 h0 a_v a_n o_20 o_21 o_22, kx_a a_v cyI 12 o_23, kx_a a_n cyI 12 o_24, kx_3 k0 kv kn o_25 o_26 o_27, kx_a kv cyI 12 o_28, kx_a kn cyI 12 o_29]) hP hD [4, 7, 5, 6, 8, 9, 10, 11, 0, 12, 13, 1, 2, 3, 14, 15, 16, 17, 18, 19] (by decide) rfl
      have hK9 := hK
      exact W.iret (v := o_20) hx hb hr (fun t ht hW => ⟨⟨o_20, (o_4, o_5, o_6, o_7, o_8, o_9, o_10, o_11, o_12, o_13, o_14, o_15, o_16, o_17, o_18, o_20, o_21, o_22, o_23, o_24, o_25, o_26, o_27, o_28, o_29), rfl, ⟨(fun _ => ⟨w_3.2.1, w_3.2.2.2.1⟩), w_3.2.2.1⟩, by rw [ht]; exact hP9, va_K.moved hW.alike hK9, hD9⟩, hS.F ht⟩) hS.2.2 dX4_both_47
    · exact absurd c_2 (by decide)
  · have w_1 : (0 : Int) ≤ 1 := w_1
    refine lv_istore (lv' := [(7, .int (-1)), (0, .ref m_), (1, .int p0), (2, .int p1), (3, .int p2), (4, .int p3), (5, .int p4), (6, .int p5)]) hx hb dX4_both_13 hl (by decide) rfl (fun ls hl => ?_)
    refine lv_iload hx hb dX4_both_15 (lv_at hl 0 rfl) ?_
    refine lv_if_eq (tgt := 23) hx hb dX4_both_17 (by decide) (fun c_30 => ?_) (fun c_30 => ?_)
    · exact absurd c_30 (by decide)
    · refine lv_iload hx hb dX4_both_20 (lv_at hl 0 rfl) ?_
      have hP9 := hP
      have hD9 := hD
      have hK9 := hK
      exact W.iret (v := (-1)) hx hb hr (fun t ht hW => ⟨⟨(-1), (old, nodes, here, ff, ft, fs, fo, fe, uv, un, js, jl, je, jv, jn, vs, lo, le, fv, fn, sb, lb, eb, gb, nb), rfl, ⟨l0, s0⟩, by rw [ht]; exact hP9, va_K.moved hW.alike hK9, hD9⟩, hS.F ht⟩) hS.2.2 dX4_both_22
  · have w_1 : (0 : Int) ≤ 1 := w_1
    refine lv_istore (lv' := [(7, .int (-2)), (0, .ref m_), (1, .int p0), (2, .int p1), (3, .int p2), (4, .int p3), (5, .int p4), (6, .int p5)]) hx hb dX4_both_13 hl (by decide) rfl (fun ls hl => ?_)
    refine lv_iload hx hb dX4_both_15 (lv_at hl 0 rfl) ?_
    refine lv_if_eq (tgt := 23) hx hb dX4_both_17 (by decide) (fun c_31 => ?_) (fun c_31 => ?_)
    · exact absurd c_31 (by decide)
    · refine lv_iload hx hb dX4_both_20 (lv_at hl 0 rfl) ?_
      have hP9 := hP
      have hD9 := hD
      have hK9 := hK
      exact W.iret (v := (-2)) hx hb hr (fun t ht hW => ⟨⟨(-2), (old, nodes, here, ff, ft, fs, fo, fe, uv, un, js, jl, je, jv, jn, vs, lo, le, fv, fn, sb, lb, eb, gb, nb), rfl, ⟨l0, s0⟩, by rw [ht]; exact hP9, va_K.moved hW.alike hK9, hD9⟩, hS.F ht⟩) hS.2.2 dX4_both_22
  · have w_1 : (0 : Int) ≤ 1 := w_1
    refine lv_istore (lv' := [(7, .int (-3)), (0, .ref m_), (1, .int p0), (2, .int p1), (3, .int p2), (4, .int p3), (5, .int p4), (6, .int p5)]) hx hb dX4_both_13 hl (by decide) rfl (fun ls hl => ?_)
    refine lv_iload hx hb dX4_both_15 (lv_at hl 0 rfl) ?_
    refine lv_if_eq (tgt := 23) hx hb dX4_both_17 (by decide) (fun c_32 => ?_) (fun c_32 => ?_)
    · exact absurd c_32 (by decide)
    · refine lv_iload hx hb dX4_both_20 (lv_at hl 0 rfl) ?_
      have hP9 := hP
      have hD9 := hD
      have hK9 := hK
      exact W.iret (v := (-3)) hx hb hr (fun t ht hW => ⟨⟨(-3), (old, nodes, here, ff, ft, fs, fo, fe, uv, un, js, jl, je, jv, jn, vs, lo, le, fv, fn, sb, lb, eb, gb, nb), rfl, ⟨l0, s0⟩, by rw [ht]; exact hP9, va_K.moved hW.alike hK9, hD9⟩, hS.F ht⟩) hS.2.2 dX4_both_22

set_option maxHeartbeats 4000000 in
set_option maxRecDepth 100000 in
theorem c_X4_bothAt_x (l : Launch) (dC : Nat → ClassId) (dI : Nat → Nat → Nat) (m_ : Nat) (q_row : Nat) (q_t : Nat) (t_ : Nat) (h0 : Nat) (k0 : Nat) (w_ : Nat) (z_ : Nat) (slots : Int32) (old : Int32) (q_joined : Nat) (q_from : Nat) (q_to : Nat) (q_size : Nat) (q_lossOf : Nat) (q_lessBy : Nat) (q_value : Nat) (q_number : Nat) (nodes : Int32) (here : Int32) (q_cell : Nat) (cyI : ClassId) (len : Int32) (f : Nat → Int32) (ff : Nat → Int32) (ft : Nat → Int32) (fs : Nat → Int32) (fo : Nat → Int32) (uv : Nat → Int32) (un : Nat → Int32) (fe : Nat → Int32) (j_v : Nat) (j_n : Nat) (js : Int32) (jl : Int32) (je : Int32) (jv : Nat → Int32) (jn : Nat → Int32) (a_v : Nat) (a_n : Nat) (vs : Int32) (lo : Int32) (le : Int32) (fv : Nat → Int32) (fn : Nat → Int32) (kv : Nat) (kn : Nat) (sb : Int32) (lb : Int32) (eb : Int32) (gb : Nat → Int32) (nb : Nat → Int32) (p0 : Int32) (p1 : Int32) (p2 : Int32) (p3 : Int32) (p4 : Int32) (p5 : Int32) (p6 : Int32) (sz : Nat) (a0 : 0 ≤ len.toInt) (a1 : len.toInt ≤ 160) (s0 : sixes fs) (sl0 : 1 ≤ slots.toInt) (sl1 : slots.toInt ≤ 6) (l0 : laidX old slots here f ff ft fs fo fe uv un nodes len) : Met l yX4_bothAt wsX4_bothAt ({ frames := 6, cells := 0, slots := 0, locals := 270 }) (va_Pc [.ref m_, .int p0, .int p1, .int p2, .int p3, .int p4, .int p5, .int p6] (fun U => U.heap.size = sz ∧ va_P (dC, dI) vwCl [kx_4 m_ q_row q_t t_ h0 k0 w_ z_ slots old, kx_2 q_t q_row q_joined q_from q_to q_size q_lossOf q_lessBy q_value q_number nodes here, kx_0 q_row q_cell len, kx_a q_cell cyI 160 f, kx_a q_from cyI 319 ff, kx_a q_to cyI 319 ft, kx_a q_size cyI 319 fs, kx_a q_lossOf cyI 319 fo, kx_a q_lessBy cyI 319 fe, kx_a q_value cyI 1914 uv, kx_a q_number cyI 1914 un, kx_3 q_joined j_v j_n js jl je, kx_a j_v cyI 12 jv, kx_a j_n cyI 12 jn, kx_3 h0 a_v a_n vs lo le, kx_a a_v cyI 12 fv, kx_a a_n cyI 12 fn, kx_3 k0 kv kn sb lb eb, kx_a kv cyI 12 gb, kx_a kn cyI 12 nb] U.heap ∧ va_K (dC, dI) vwCl [(cyI, .int)] U ∧ va_D (fun _ => True) [kx_4 m_ q_row q_t t_ h0 k0 w_ z_ slots old, kx_2 q_t q_row q_joined q_from q_to q_size q_lossOf q_lessBy q_value q_number nodes here, kx_0 q_row q_cell len, kx_a q_cell cyI 160 f, kx_a q_from cyI 319 ff, kx_a q_to cyI 319 ft, kx_a q_size cyI 319 fs, kx_a q_lossOf cyI 319 fo, kx_a q_lessBy cyI 319 fe, kx_a q_value cyI 1914 uv, kx_a q_number cyI 1914 un, kx_3 q_joined j_v j_n js jl je, kx_a j_v cyI 12 jv, kx_a j_n cyI 12 jn, kx_3 h0 a_v a_n vs lo le, kx_a a_v cyI 12 fv, kx_a a_n cyI 12 fn, kx_3 k0 kv kn sb lb eb, kx_a kv cyI 12 gb, kx_a kn cyI 12 nb] ∧ va_Nw (.methodLinkNest RX3 42 yX4_isHeavy RX4) U)) (va_Qi (fun (r : Int32) (u : Int32 × Int32 × Int32 × (Nat → Int32) × (Nat → Int32) × (Nat → Int32) × (Nat → Int32) × (Nat → Int32) × (Nat → Int32) × (Nat → Int32) × Int32 × Int32 × Int32 × (Nat → Int32) × (Nat → Int32) × Int32 × Int32 × Int32 × (Nat → Int32) × (Nat → Int32) × Int32 × Int32 × Int32 × (Nat → Int32) × (Nat → Int32)) => laidX u.1 slots u.2.2.1 f u.2.2.2.1 u.2.2.2.2.1 u.2.2.2.2.2.1 u.2.2.2.2.2.2.1 u.2.2.2.2.2.2.2.1 u.2.2.2.2.2.2.2.2.1 u.2.2.2.2.2.2.2.2.2.1 u.2.1 len ∧ sixes u.2.2.2.2.2.1) (fun (u : Int32 × Int32 × Int32 × (Nat → Int32) × (Nat → Int32) × (Nat → Int32) × (Nat → Int32) × (Nat → Int32) × (Nat → Int32) × (Nat → Int32) × Int32 × Int32 × Int32 × (Nat → Int32) × (Nat → Int32) × Int32 × Int32 × Int32 × (Nat → Int32) × (Nat → Int32) × Int32 × Int32 × Int32 × (Nat → Int32) × (Nat → Int32)) (t : State) => va_P (dC, dI) vwCl [kx_4 m_ q_row q_t t_ h0 k0 w_ z_ slots u.1, kx_2 q_t q_row q_joined q_from q_to q_size q_lossOf q_lessBy q_value q_number u.2.1 u.2.2.1, kx_0 q_row q_cell len, kx_a q_cell cyI 160 f, kx_a q_from cyI 319 u.2.2.2.1, kx_a q_to cyI 319 u.2.2.2.2.1, kx_a q_size cyI 319 u.2.2.2.2.2.1, kx_a q_lossOf cyI 319 u.2.2.2.2.2.2.1, kx_a q_lessBy cyI 319 u.2.2.2.2.2.2.2.1, kx_a q_value cyI 1914 u.2.2.2.2.2.2.2.2.1, kx_a q_number cyI 1914 u.2.2.2.2.2.2.2.2.2.1, kx_3 q_joined j_v j_n u.2.2.2.2.2.2.2.2.2.2.1 u.2.2.2.2.2.2.2.2.2.2.2.1 u.2.2.2.2.2.2.2.2.2.2.2.2.1, kx_a j_v cyI 12 u.2.2.2.2.2.2.2.2.2.2.2.2.2.1, kx_a j_n cyI 12 u.2.2.2.2.2.2.2.2.2.2.2.2.2.2.1, kx_3 h0 a_v a_n u.2.2.2.2.2.2.2.2.2.2.2.2.2.2.2.1 u.2.2.2.2.2.2.2.2.2.2.2.2.2.2.2.2.1 u.2.2.2.2.2.2.2.2.2.2.2.2.2.2.2.2.2.1, kx_a a_v cyI 12 u.2.2.2.2.2.2.2.2.2.2.2.2.2.2.2.2.2.2.1, kx_a a_n cyI 12 u.2.2.2.2.2.2.2.2.2.2.2.2.2.2.2.2.2.2.2.1, kx_3 k0 kv kn u.2.2.2.2.2.2.2.2.2.2.2.2.2.2.2.2.2.2.2.2.1 u.2.2.2.2.2.2.2.2.2.2.2.2.2.2.2.2.2.2.2.2.2.1 u.2.2.2.2.2.2.2.2.2.2.2.2.2.2.2.2.2.2.2.2.2.2.1, kx_a kv cyI 12 u.2.2.2.2.2.2.2.2.2.2.2.2.2.2.2.2.2.2.2.2.2.2.2.1, kx_a kn cyI 12 u.2.2.2.2.2.2.2.2.2.2.2.2.2.2.2.2.2.2.2.2.2.2.2.2] t.heap ∧ va_K (dC, dI) vwCl [(cyI, .int)] t ∧ va_D (va_A [kx_4 m_ q_row q_t t_ h0 k0 w_ z_ slots old, kx_2 q_t q_row q_joined q_from q_to q_size q_lossOf q_lessBy q_value q_number nodes here, kx_0 q_row q_cell len, kx_a q_cell cyI 160 f, kx_a q_from cyI 319 ff, kx_a q_to cyI 319 ft, kx_a q_size cyI 319 fs, kx_a q_lossOf cyI 319 fo, kx_a q_lessBy cyI 319 fe, kx_a q_value cyI 1914 uv, kx_a q_number cyI 1914 un, kx_3 q_joined j_v j_n js jl je, kx_a j_v cyI 12 jv, kx_a j_n cyI 12 jn, kx_3 h0 a_v a_n vs lo le, kx_a a_v cyI 12 fv, kx_a a_n cyI 12 fn, kx_3 k0 kv kn sb lb eb, kx_a kv cyI 12 gb, kx_a kn cyI 12 nb] sz) [kx_4 m_ q_row q_t t_ h0 k0 w_ z_ slots u.1, kx_2 q_t q_row q_joined q_from q_to q_size q_lossOf q_lessBy q_value q_number u.2.1 u.2.2.1, kx_0 q_row q_cell len, kx_a q_cell cyI 160 f, kx_a q_from cyI 319 u.2.2.2.1, kx_a q_to cyI 319 u.2.2.2.2.1, kx_a q_size cyI 319 u.2.2.2.2.2.1, kx_a q_lossOf cyI 319 u.2.2.2.2.2.2.1, kx_a q_lessBy cyI 319 u.2.2.2.2.2.2.2.1, kx_a q_value cyI 1914 u.2.2.2.2.2.2.2.2.1, kx_a q_number cyI 1914 u.2.2.2.2.2.2.2.2.2.1, kx_3 q_joined j_v j_n u.2.2.2.2.2.2.2.2.2.2.1 u.2.2.2.2.2.2.2.2.2.2.2.1 u.2.2.2.2.2.2.2.2.2.2.2.2.1, kx_a j_v cyI 12 u.2.2.2.2.2.2.2.2.2.2.2.2.2.1, kx_a j_n cyI 12 u.2.2.2.2.2.2.2.2.2.2.2.2.2.2.1, kx_3 h0 a_v a_n u.2.2.2.2.2.2.2.2.2.2.2.2.2.2.2.1 u.2.2.2.2.2.2.2.2.2.2.2.2.2.2.2.2.1 u.2.2.2.2.2.2.2.2.2.2.2.2.2.2.2.2.2.1, kx_a a_v cyI 12 u.2.2.2.2.2.2.2.2.2.2.2.2.2.2.2.2.2.2.1, kx_a a_n cyI 12 u.2.2.2.2.2.2.2.2.2.2.2.2.2.2.2.2.2.2.2.1, kx_3 k0 kv kn u.2.2.2.2.2.2.2.2.2.2.2.2.2.2.2.2.2.2.2.2.1 u.2.2.2.2.2.2.2.2.2.2.2.2.2.2.2.2.2.2.2.2.2.1 u.2.2.2.2.2.2.2.2.2.2.2.2.2.2.2.2.2.2.2.2.2.2.1, kx_a kv cyI 12 u.2.2.2.2.2.2.2.2.2.2.2.2.2.2.2.2.2.2.2.2.2.2.2.1, kx_a kn cyI 12 u.2.2.2.2.2.2.2.2.2.2.2.2.2.2.2.2.2.2.2.2.2.2.2.2]) (va_A [kx_4 m_ q_row q_t t_ h0 k0 w_ z_ slots old, kx_2 q_t q_row q_joined q_from q_to q_size q_lossOf q_lessBy q_value q_number nodes here, kx_0 q_row q_cell len, kx_a q_cell cyI 160 f, kx_a q_from cyI 319 ff, kx_a q_to cyI 319 ft, kx_a q_size cyI 319 fs, kx_a q_lossOf cyI 319 fo, kx_a q_lessBy cyI 319 fe, kx_a q_value cyI 1914 uv, kx_a q_number cyI 1914 un, kx_3 q_joined j_v j_n js jl je, kx_a j_v cyI 12 jv, kx_a j_n cyI 12 jn, kx_3 h0 a_v a_n vs lo le, kx_a a_v cyI 12 fv, kx_a a_n cyI 12 fn, kx_3 k0 kv kn sb lb eb, kx_a kv cyI 12 gb, kx_a kn cyI 12 nb] sz)) 0 0 (va_A [kx_4 m_ q_row q_t t_ h0 k0 w_ z_ slots old, kx_2 q_t q_row q_joined q_from q_to q_size q_lossOf q_lessBy q_value q_number nodes here, kx_0 q_row q_cell len, kx_a q_cell cyI 160 f, kx_a q_from cyI 319 ff, kx_a q_to cyI 319 ft, kx_a q_size cyI 319 fs, kx_a q_lossOf cyI 319 fo, kx_a q_lessBy cyI 319 fe, kx_a q_value cyI 1914 uv, kx_a q_number cyI 1914 un, kx_3 q_joined j_v j_n js jl je, kx_a j_v cyI 12 jv, kx_a j_n cyI 12 jn, kx_3 h0 a_v a_n vs lo le, kx_a a_v cyI 12 fv, kx_a a_n cyI 12 fn, kx_3 k0 kv kn sb lb eb, kx_a kv cyI 12 gb, kx_a kn cyI 12 nb] sz) := by
  refine Met.ofW (cc := cX4_bothAt) (maxL := 8) (ret := (some .int)) (by decide) rfl ?_
  intro p e s m args below meth c s₁ B hml hv
  obtain ⟨rfl, hsz, hP, hK, hD0, hN0⟩ := hv
  have hx := B.exec
  have hb := B.bytes
  have hr := B.returns
  have hts := atoms_spec (ws := wsX4_bothAt) B.pre
  have hown : s.vm.findClass RX4 = some m.cls := findClass_of_methodNamed B.named
  have hlocks := B.notSynchronized
  subst hsz
  have hD := hD0.self (sz := s.heap.size)
  generalize hAe : va_A [kx_4 m_ q_row q_t t_ h0 k0 w_ z_ slots old, kx_2 q_t q_row q_joined q_from q_to q_size q_lossOf q_lessBy q_value q_number nodes here, kx_0 q_row q_cell len, kx_a q_cell cyI 160 f, kx_a q_from cyI 319 ff, kx_a q_to cyI 319 ft, kx_a q_size cyI 319 fs, kx_a q_lossOf cyI 319 fo, kx_a q_lessBy cyI 319 fe, kx_a q_value cyI 1914 uv, kx_a q_number cyI 1914 un, kx_3 q_joined j_v j_n js jl je, kx_a j_v cyI 12 jv, kx_a j_n cyI 12 jn, kx_3 h0 a_v a_n vs lo le, kx_a a_v cyI 12 fv, kx_a a_n cyI 12 fn, kx_3 k0 kv kn sb lb eb, kx_a kv cyI 12 gb, kx_a kn cyI 12 nb] s.heap.size = A at hD ⊢
  have hA : ∀ q : Nat, s.heap.size ≤ q → A q := fun q h => by rw [← hAe]; exact Or.inr h
  have hS : va_S A s.heap s.heap [] := va_S.rf
  have hP : va_P (dC, dI) vwCl [kx_4 m_ q_row q_t t_ h0 k0 w_ z_ slots old, kx_2 q_t q_row q_joined q_from q_to q_size q_lossOf q_lessBy q_value q_number nodes here, kx_0 q_row q_cell len, kx_a q_cell cyI 160 f, kx_a q_from cyI 319 ff, kx_a q_to cyI 319 ft, kx_a q_size cyI 319 fs, kx_a q_lossOf cyI 319 fo, kx_a q_lessBy cyI 319 fe, kx_a q_value cyI 1914 uv, kx_a q_number cyI 1914 un, kx_3 q_joined j_v j_n js jl je, kx_a j_v cyI 12 jv, kx_a j_n cyI 12 jn, kx_3 h0 a_v a_n vs lo le, kx_a a_v cyI 12 fv, kx_a a_n cyI 12 fn, kx_3 k0 kv kn sb lb eb, kx_a kv cyI 12 gb, kx_a kn cyI 12 nb] s.heap := hP
  have hl := lv_entry ([.ref m_, .int p0, .int p1, .int p2, .int p3, .int p4, .int p5, .int p6]) (n := 8) (Nat.le_of_ble_eq_true rfl)
  rw [lg_entry_eq]
  generalize (lg_sl ([.ref m_, .int p0, .int p1, .int p2, .int p3, .int p4, .int p5, .int p6]) ++ List.replicate (8 - (lg_sl ([.ref m_, .int p0, .int p1, .int p2, .int p3, .int p4, .int p5, .int p6])).length) Slot.unset).toArray = ls at hl ⊢
  have hl : lv_has ls 8 [(0, .ref m_), (1, .int p0), (2, .int p1), (3, .int p2), (4, .int p3), (5, .int p4), (6, .int p5), (7, .int p6)] := hl
  have hk_102 := hts (.constant RX4 102 (-40000)) (List.mem_of_getElem? (i := 1) rfl)
  have hf_35 := hts (.fieldLink RX4 35 "MajorityIndex" "votes" "LMajorityIndex$Votes;") (List.mem_of_getElem? (i := 2) rfl)
  have hi_4 : ∀ w ∈ u_ws RX4 TX4 9, w ∈ wsX4_bothAt := fun w h => List.mem_cons_of_mem _ (List.mem_append_left _ (List.mem_append_left _ (List.mem_append_left _ (List.mem_append_right _ h))))
  have hf_174 := hts (.fieldLink RX4 174 "MajorityIndex$Votes" "size" "I") (List.mem_of_getElem? (i := 3) rfl)
  have hi_3 : ∀ w ∈ u_ws RX3 TX3 5, w ∈ wsX4_bothAt := fun w h => List.mem_cons_of_mem _ (List.mem_append_left _ (List.mem_append_left _ (List.mem_append_right _ h)))
  have hf_133 := hts (.fieldLink RX4 133 "MajorityIndex$Votes" "value" "[I") (List.mem_of_getElem? (i := 4) rfl)
  refine lv_iload hx hb dX4_bothAt_0 (lv_at hl 7 rfl) ?_
  refine lv_if_lt (tgt := 21) hx hb dX4_bothAt_2 (by decide) (fun c_1 => ?_) (fun c_1 => ?_)
  · have i_1 : p6.toInt < 0 := kc_lt c_1
    refine lv_ldc (v := (-40000)) hx hb hown hk_102 dX4_bothAt_21 ?_
    have hP9 := hP
    have hD9 := hD
    have hK9 := hK
    exact W.iret (v := (-40000)) hx hb hr (fun t ht hW => ⟨⟨(-40000), (old, nodes, here, ff, ft, fs, fo, fe, uv, un, js, jl, je, jv, jn, vs, lo, le, fv, fn, sb, lb, eb, gb, nb), rfl, ⟨l0, s0⟩, by rw [ht]; exact hP9, va_K.moved hW.alike hK9, hD9⟩, hS.F ht⟩) hS.2.2 dX4_bothAt_23
  · have i_1 : 0 ≤ p6.toInt := kc_nlt c_1
    refine lv_aload_n hx hb dX4_bothAt_5 rfl (lv_at hl 0 rfl) ?_
    refine lv_iload_n hx hb dX4_bothAt_6 rfl (lv_at hl 1 rfl) ?_
    refine lv_iload_n hx hb dX4_bothAt_7 rfl (lv_at hl 2 rfl) ?_
    refine lv_iload_n hx hb dX4_bothAt_8 rfl (lv_at hl 3 rfl) ?_
    refine lv_iload hx hb dX4_bothAt_9 (lv_at hl 4 rfl) ?_
    refine lv_iload hx hb dX4_bothAt_11 (lv_at hl 5 rfl) ?_
    refine lv_iload hx hb dX4_bothAt_13 (lv_at hl 6 rfl) ?_
    have hPc := hP.sub (ws' := [kx_4 m_ q_row q_t t_ h0 k0 w_ z_ slots old, kx_0 q_row q_cell len, kx_a q_cell cyI 160 f]) [0, 2, 3] rfl
    have hKc := hK
    refine vp_callSi (W.runV (As := [.int p0, .int p1, .int p2, .int p3, .int p4, .int p5]) (rest := []) ⟨hx, hb, hml, hown, hts⟩ (c_X4_refusalOfBoth l dC dI m_ q_row q_t t_ h0 k0 w_ z_ slots old q_cell cyI len f p0 p1 p2 p3 p4 p5 a0 a1) (cwV 6 hts gX4_bothAt_X4_refusalOfBoth rfl rfl rfl (by decide +kernel) ⟨Nat.le_of_ble_eq_true rfl, Nat.le_of_ble_eq_true rfl⟩) ⟨fun a U g mk q => by obtain ⟨q0, qP, qK⟩ := q; exact ⟨q0, qP, va_K.moved (u := U) (U := U.calling g mk a) (Vm.Alike.refl U.vm) qK⟩, va_recv hKc hPc (ci := 4) (q0 := 0) rfl rfl, fun U hU hW => ⟨rfl, by rw [hU]; exact hPc, va_K.moved hW.alike hKc⟩⟩ rfl rfl hl.1 rfl (lv_room (Nat.le_of_ble_eq_true rfl)) dX4_bothAt_15 ⟨Nat.le_of_ble_eq_true rfl, Nat.le_of_ble_eq_true rfl⟩) (fun r_2 w_2 => ?_)
    rcases w_2 with ⟨rfl, w_2⟩ | ⟨rfl, w_2⟩ | ⟨rfl, w_2⟩ | ⟨rfl, w_2⟩
    · have w_2 : (0 ≤ p0.toInt ∧ p0.toInt < p1.toInt ∧ p1.toInt ≤ len.toInt ∧ 0 ≤ p2.toInt ∧ p2.toInt < p3.toInt ∧ p3.toInt ≤ len.toInt) := w_2
      refine lv_if_eq (tgt := 24) hx hb dX4_bothAt_18 (by decide) (fun c_3 => ?_) (fun c_3 => ?_)
      · refine lv_aload_n hx hb dX4_bothAt_24 rfl (lv_at hl 0 rfl) ?_
        refine lv_aload_n hx hb dX4_bothAt_25 rfl (lv_at hl 0 rfl) ?_
        obtain ⟨hPc, hDc, hFc, hCc⟩ := kx_pre (wc := [kx_4 m_ q_row q_t t_ h0 k0 w_ z_ slots old, kx_2 q_t q_row q_joined q_from q_to q_size q_lossOf q_lessBy q_value q_number nodes here, kx_0 q_row q_cell len, kx_a q_cell cyI 160 f, kx_a q_from cyI 319 ff, kx_a q_to cyI 319 ft, kx_a q_size cyI 319 fs, kx_a q_lossOf cyI 319 fo, kx_a q_lessBy cyI 319 fe, kx_a q_value cyI 1914 uv, kx_a q_number cyI 1914 un, kx_3 q_joined j_v j_n js jl je, kx_a j_v cyI 12 jv, kx_a j_n cyI 12 jn]) hP hD hS hA [0, 1, 2, 3, 4, 5, 6, 7, 8, 9, 10, 11, 12, 13] (by decide) rfl
        have hKc := hK
        refine va_callr (va_runV (As := []) (rest := [.ref m_]) ⟨hx, hb, hml, hown, hts⟩ (c_X4_laidTree_x l dC dI m_ q_row q_t t_ h0 k0 w_ z_ slots old q_joined q_from q_to q_size q_lossOf q_lessBy q_value q_number nodes here q_cell cyI len f ff ft fs fo uv un fe j_v j_n js jl je jv jn s.heap.size a0 a1 s0 sl0 sl1 l0) (cwV 0 hts gX4_bothAt_X4_laidTree rfl rfl rfl (by decide +kernel) ⟨Nat.le_of_ble_eq_true rfl, Nat.le_of_ble_eq_true rfl⟩) ⟨fun a U g mk q => by obtain ⟨q0, q1, qP, qK, qD⟩ := q; exact ⟨q0, q1, qP, va_K.moved (u := U) (U := U.calling g mk a) (Vm.Alike.refl U.vm) qK, qD⟩, va_recv hKc hPc (ci := 4) (q0 := 0) rfl rfl, fun U hU hW => ⟨rfl, by rw [hU], by rw [hU]; exact hPc, va_K.moved hW.alike hKc, hDc.weaken (fun _ _ _ _ => trivial)⟩⟩ rfl rfl hl.1 rfl (lv_room (Nat.le_of_ble_eq_true rfl)) dX4_bothAt_26 ⟨Nat.le_of_ble_eq_true rfl, Nat.le_of_ble_eq_true rfl⟩) hS (fun q _ h => hFc q h) hFc (fun u ra t H1 locs ht hvm w_4 hB hz1 hk1 hS => ?_)
        obtain ⟨o_5, o_6, o_7, o_8, o_9, o_10, o_11, o_12, o_13, o_14, o_15, o_16, o_17, o_18, o_19⟩ := u
        dsimp only at w_4 hB
        obtain ⟨er, hP1, hK1, hD1⟩ := hB
        rw [ht] at hP1
        have hK1 := va_K.moved hvm.symm hK1
        obtain ⟨hP, hD⟩ := kx_join (w2 := [kx_3 h0 a_v a_n vs lo le, kx_a a_v cyI 12 fv, kx_a a_n cyI 12 fn, kx_3 k0 kv kn sb lb eb, kx_a kv cyI 12 gb, kx_a kn cyI 12 nb, kx_4 m_ q_row q_t t_ h0 k0 w_ z_ slots o_5, kx_2 q_t q_row q_joined q_from q_to q_size q_lossOf q_lessBy q_value q_number o_6 o_7, kx_0 q_row q_cell len, kx_a q_cell cyI 160 f, kx_a q_from cyI 319 o_8, kx_a q_to cyI 319 o_9, kx_a q_size cyI 319 o_10, kx_a q_lossOf cyI 319 o_11, kx_a q_lessBy cyI 319 o_12, kx_a q_value cyI 1914 o_13, kx_a q_number cyI 1914 o_14, kx_3 q_joined j_v j_n o_15 o_16 o_17, kx_a j_v cyI 12 o_18, kx_a j_n cyI 12 o_19]) hP hD hP1 hD1 hk1 hFc [0, 1, 2, 3, 4, 5, 6, 7, 8, 9, 10, 11, 12, 13] [14, 15, 16, 17, 18, 19] hCc rfl (by decide) (by decide)
        clear hP1 hD1 hK1 hk1 hz1 hFc hDc hPc hKc hCc
        generalize H1 = H at hP hS ⊢
        have w_4 : o_5.toInt = 0 ∧ o_7 = slots ∧ sixes o_10 ∧ mj_C slots.toNatClampNeg f o_8 o_9 o_10 o_11 o_12 o_13 o_14 o_6.toInt len.toInt ∧ 0 ≤ o_6.toInt ∧ o_6.toInt ≤ 319 ∧ treeOk o_8 o_9 o_6.toInt len.toInt := w_4
        rw [er]
        refine lv_iload_n hx hb dX4_bothAt_29 rfl (lv_at hl 1 rfl) ?_
        refine lv_iload_n hx hb dX4_bothAt_30 rfl (lv_at hl 2 rfl) ?_
        refine lv_iload_n hx hb dX4_bothAt_31 rfl (lv_at hl 3 rfl) ?_
        refine lv_iload hx hb dX4_bothAt_32 (lv_at hl 4 rfl) ?_
        refine lv_iload hx hb dX4_bothAt_34 (lv_at hl 5 rfl) ?_
        refine lv_iload hx hb dX4_bothAt_36 (lv_at hl 6 rfl) ?_
        obtain ⟨hPc, hDc, hFc, hCc⟩ := kx_pre (wc := [kx_4 m_ q_row q_t t_ h0 k0 w_ z_ slots o_5, kx_0 q_row q_cell len, kx_a q_cell cyI 160 f, kx_2 q_t q_row q_joined q_from q_to q_size q_lossOf q_lessBy q_value q_number o_6 o_7, kx_a q_from cyI 319 o_8, kx_a q_to cyI 319 o_9, kx_a q_size cyI 319 o_10, kx_a q_lossOf cyI 319 o_11, kx_a q_value cyI 1914 o_13, kx_a q_number cyI 1914 o_14, kx_3 h0 a_v a_n vs lo le, kx_a a_v cyI 12 fv, kx_a a_n cyI 12 fn, kx_3 k0 kv kn sb lb eb, kx_a kv cyI 12 gb, kx_a kn cyI 12 nb]) hP hD hS hA [6, 8, 9, 7, 10, 11, 12, 13, 15, 16, 0, 1, 2, 3, 4, 5] (by decide) rfl
        have hKc := hK
        refine va_callv (va_runV (As := [.ref q_t, .int p0, .int p1, .int p2, .int p3, .int p4, .int p5]) (rest := []) ⟨hx, hb, hml, hown, hts⟩ (c_X4_gatherHeavyOfBoth l dC dI m_ q_row q_t t_ h0 k0 w_ z_ slots o_5 q_joined q_from q_to q_size q_lossOf q_lessBy q_value q_number o_6 o_7 q_cell cyI len f o_8 o_9 o_10 o_11 o_13 o_14 a_v a_n cyI vs lo le fv fn kv kn sb lb eb gb nb p0 p1 p2 p3 p4 p5 H.size w_4.2.2.2.2.1 w_4.2.2.2.2.2.1 w_4.2.2.1 (om_8 w_2.1) (om_141 a1 w_2.2.2.1) (om_8 w_2.2.2.2.1) (om_141 a1 w_2.2.2.2.2.2)) (cwV 7 hts gX4_bothAt_X4_gatherHeavyOfBoth rfl rfl rfl (by decide +kernel) ⟨Nat.le_of_ble_eq_true rfl, Nat.le_of_ble_eq_true rfl⟩) ⟨fun a U g mk q => by obtain ⟨q0, q1, qP, qK, qD, qn0⟩ := q; exact ⟨q0, q1, qP, va_K.moved (u := U) (U := U.calling g mk a) (Vm.Alike.refl U.vm) qK, qD, va_Nw.same (u := U) (U := U.calling g mk a) rfl rfl qn0⟩, va_recv hKc hPc (ci := 4) (q0 := 0) rfl rfl, fun U hU hW => ⟨rfl, by rw [hU], by rw [hU]; exact hPc, va_K.moved hW.alike hKc, hDc.weaken (fun _ _ _ _ => trivial), va_Nw.warmM hW hN0⟩⟩ rfl rfl hl.1 rfl (lv_room (Nat.le_of_ble_eq_true rfl)) dX4_bothAt_38 ⟨Nat.le_of_ble_eq_true rfl, Nat.le_of_ble_eq_true rfl⟩) hS (fun q _ h => hFc q h) hFc (fun u t H1 locs ht hvm w_20 hB hz1 hk1 hS => ?_)
        obtain ⟨o_21, o_22, o_23, o_24, o_25, o_26, o_27, o_28, o_29, o_30⟩ := u
        dsimp only at w_20 hB
        obtain ⟨hP1, hK1, hD1⟩ := hB
        rw [ht] at hP1
        have hK1 := va_K.moved hvm.symm hK1
        obtain ⟨hP, hD⟩ := kx_join (w2 := [kx_a q_lessBy cyI 319 o_12, kx_3 q_joined j_v j_n o_15 o_16 o_17, kx_a j_v cyI 12 o_18, kx_a j_n cyI 12 o_19, kx_4 m_ q_row q_t t_ h0 k0 w_ z_ slots o_5, kx_0 q_row q_cell len, kx_a q_cell cyI 160 f, kx_2 q_t q_row q_joined q_from q_to q_size q_lossOf q_lessBy q_value q_number o_6 o_7, kx_a q_from cyI 319 o_8, kx_a q_to cyI 319 o_9, kx_a q_size cyI 319 o_10, kx_a q_lossOf cyI 319 o_11, kx_a q_value cyI 1914 o_13, kx_a q_number cyI 1914 o_14, kx_3 h0 a_v a_n o_21 o_22 o_23, kx_a a_v cyI 12 o_24, kx_a a_n cyI 12 o_25, kx_3 k0 kv kn o_26 o_27 o_28, kx_a kv cyI 12 o_29, kx_a kn cyI 12 o_30]) hP hD hP1 hD1 hk1 hFc [6, 8, 9, 7, 10, 11, 12, 13, 15, 16, 0, 1, 2, 3, 4, 5] [14, 17, 18, 19] hCc rfl (by decide) (by decide)
        clear hP1 hD1 hK1 hk1 hz1 hFc hDc hPc hKc hCc
        generalize H1 = H at hP hS ⊢
        have w_20 : 0 ≤ o_21.toInt ∧ o_21.toInt ≤ 12 := w_20
        refine lv_iload hx hb dX4_bothAt_41 (lv_at hl 7 rfl) ?_
        refine lv_aload_n hx hb dX4_bothAt_43 rfl (lv_at hl 0 rfl) ?_
        refine va_get (D := (dC, dI)) (ci := 4) (v := .ref h0) (C := RX4) (T := TX4) (N := 9) hx hb hts hi_4 hown hK hP 4 rfl rfl 3 (by decide) hf_35 (fun _ h9 => h9) rfl dX4_bothAt_44 ?_
        refine va_get (D := (dC, dI)) (ci := 3) (v := .int o_21) (C := RX3) (T := TX3) (N := 5) hx hb hts hi_3 hown hK hP 14 rfl rfl 2 (by decide) hf_174 (fun _ h9 => h9) rfl dX4_bothAt_47 ?_
        refine lv_icmp_ge (tgt := 66) hx hb dX4_bothAt_50 (by decide) (fun c_31 => ?_) (fun c_31 => ?_)
        · have i_31 : o_21.toInt ≤ p6.toInt := kc_le c_31
          refine lv_ldc (v := (-40000)) hx hb hown hk_102 dX4_bothAt_66 ?_
          obtain ⟨hP9, hD9⟩ := kx_sub (w2 := [kx_4 m_ q_row q_t t_ h0 k0 w_ z_ slots o_5, kx_2 q_t q_row q_joined q_from q_to q_size q_lossOf q_lessBy q_value q_number o_6 o_7, kx_0 q_row q_cell len, kx_a q_cell cyI 160 f, kx_a q_from cyI 319 o_8, kx_a q_to cyI 319 o_9, kx_a q_size cyI 319 o_10, kx_a q_lossOf cyI 319 o_11, kx_a q_lessBy cyI 319 o_12, kx_a q_value cyI 1914 o_13, kx_a q_number cyI 1914 o_14, kx_3 q_joined j_v j_n o_15 o_16 o_17, kx_a j_v cyI 12 o_18, kx_a j_n cyI 12 o_19, kx_3 h0 a_v a_n o_21 o_22 o_23, kx_a a_v cyI 12 o_24, kx_a a_n cyI 12 o_25, kx_3 k0 kv kn o_26 o_27 o_28, kx_a kv cyI 12 o_29, kx_a kn cyI 12 o_30]) hP hD [4, 7, 5, 6, 8, 9, 10, 11, 0, 12, 13, 1, 2, 3, 14, 15, 16, 17, 18, 19] (by decide) rfl
          have hK9 := hK
          exact W.iret (v := (-40000)) hx hb hr (fun t ht hW => ⟨⟨(-40000), (o_5, o_6, o_7, o_8, o_9, o_10, o_11, o_12, o_13, o_14, o_15, o_16, o_17, o_18, o_19, o_21, o_22, o_23, o_24, o_25, o_26, o_27, o_28, o_29, o_30), rfl, ⟨(fun _ => ⟨w_4.2.1, w_4.2.2.2.1⟩), w_4.2.2.1⟩, by rw [ht]; exact hP9, va_K.moved hW.alike hK9, hD9⟩, hS.F ht⟩) hS.2.2 dX4_bothAt_68
        · have i_31 : p6.toInt < o_21.toInt := kc_nle c_31
          refine lv_aload_n hx hb dX4_bothAt_53 rfl (lv_at hl 0 rfl) ?_
          refine va_get (D := (dC, dI)) (ci := 4) (v := .ref h0) (C := RX4) (T := TX4) (N := 9) hx hb hts hi_4 hown hK hP 4 rfl rfl 3 (by decide) hf_35 (fun _ h9 => h9) rfl dX4_bothAt_54 ?_
          refine va_get (D := (dC, dI)) (ci := 3) (v := .ref a_v) (C := RX3) (T := TX3) (N := 5) hx hb hts hi_3 hown hK hP 14 rfl rfl 0 (by decide) hf_133 (fun _ h9 => h9) rfl dX4_bothAt_57 ?_
          refine lv_iload hx hb dX4_bothAt_60 (lv_at hl 7 rfl) ?_
          refine va_iald hx hb hK hP 15 0 rfl rfl (ki_in (om_8 i_1) (om_29 w_20.2 i_31)) dX4_bothAt_62 ?_
          refine lv_topi (fun y_32 ey_32 => ?_)
          have j_32 : y_32.toInt = (o_24 p6.toNatClampNeg).toInt := congrArg Int32.toInt ey_32
          refine lv_goto (tgt := 68) hx hb dX4_bothAt_63 (by decide) ?_
          obtain ⟨hP9, hD9⟩ := kx_sub (w2 := [kx_4 m_ q_row q_t t_ h0 k0 w_ z_ slots o_5, kx_2 q_t q_row q_joined q_from q_to q_size q_lossOf q_lessBy q_value q_number o_6 o_7, kx_0 q_row q_cell len, kx_a q_cell cyI 160 f, kx_a q_from cyI 319 o_8, kx_a q_to cyI 319 o_9, kx_a q_size cyI 319 o_10, kx_a q_lossOf cyI 319 o_11, kx_a q_lessBy cyI 319 o_12, kx_a q_value cyI 1914 o_13, kx_a q_number cyI 1914 o_14, kx_3 q_joined j_v j_n o_15 o_16 o_17, kx_a j_v cyI 12 o_18, kx_a j_n cyI 12 o_19, kx_3 h0 a_v a_n o_21 o_22 o_23, kx_a a_v cyI 12 o_24, kx_a a_n cyI 12 o_25, kx_3 k0 kv kn o_26 o_27 o_28, kx_a kv cyI 12 o_29, kx_a kn cyI 12 o_30]) hP hD [4, 7, 5, 6, 8, 9, 10, 11, 0, 12, 13, 1, 2, 3, 14, 15, 16, 17, 18, 19] (by decide) rfl
          have hK9 := hK
          exact W.iret (v := y_32) hx hb hr (fun t ht hW => ⟨⟨y_32, (o_5, o_6, o_7, o_8, o_9, o_10, o_11, o_12, o_13, o_14, o_15, o_16, o_17, o_18, o_19, o_21, o_22, o_23, o_24, o_25, o_26, o_27, o_28, o_29, o_30), rfl, ⟨(fun _ => ⟨w_4.2.1, w_4.2.2.2.1⟩), w_4.2.2.1⟩, by rw [ht]; exact hP9, va_K.moved hW.alike hK9, hD9⟩, hS.F ht⟩) hS.2.2 dX4_bothAt_68
      · exact absurd c_3 (by decide)
    · have w_2 : (0 : Int) ≤ 1 := w_2
      refine lv_if_eq (tgt := 24) hx hb dX4_bothAt_18 (by decide) (fun c_33 => ?_) (fun c_33 => ?_)
      · exact absurd c_33 (by decide)
      · refine lv_ldc (v := (-40000)) hx hb hown hk_102 dX4_bothAt_21 ?_
        have hP9 := hP
        have hD9 := hD
        have hK9 := hK
        exact W.iret (v := (-40000)) hx hb hr (fun t ht hW => ⟨⟨(-40000), (old, nodes, here, ff, ft, fs, fo, fe, uv, un, js, jl, je, jv, jn, vs, lo, le, fv, fn, sb, lb, eb, gb, nb), rfl, ⟨l0, s0⟩, by rw [ht]; exact hP9, va_K.moved hW.alike hK9, hD9⟩, hS.F ht⟩) hS.2.2 dX4_bothAt_23
    · have w_2 : (0 : Int) ≤ 1 := w_2
      refine lv_if_eq (tgt := 24) hx hb dX4_bothAt_18 (by decide) (fun c_34 => ?_) (fun c_34 => ?_)
      · exact absurd c_34 (by decide)
      · refine lv_ldc (v := (-40000)) hx hb hown hk_102 dX4_bothAt_21 ?_
        have hP9 := hP
        have hD9 := hD
        have hK9 := hK
        exact W.iret (v := (-40000)) hx hb hr (fun t ht hW => ⟨⟨(-40000), (old, nodes, here, ff, ft, fs, fo, fe, uv, un, js, jl, je, jv, jn, vs, lo, le, fv, fn, sb, lb, eb, gb, nb), rfl, ⟨l0, s0⟩, by rw [ht]; exact hP9, va_K.moved hW.alike hK9, hD9⟩, hS.F ht⟩) hS.2.2 dX4_bothAt_23
    · have w_2 : (0 : Int) ≤ 1 := w_2
      refine lv_if_eq (tgt := 24) hx hb dX4_bothAt_18 (by decide) (fun c_35 => ?_) (fun c_35 => ?_)
      · exact absurd c_35 (by decide)
      · refine lv_ldc (v := (-40000)) hx hb hown hk_102 dX4_bothAt_21 ?_
        have hP9 := hP
        have hD9 := hD
        have hK9 := hK
        exact W.iret (v := (-40000)) hx hb hr (fun t ht hW => ⟨⟨(-40000), (old, nodes, here, ff, ft, fs, fo, fe, uv, un, js, jl, je, jv, jn, vs, lo, le, fv, fn, sb, lb, eb, gb, nb), rfl, ⟨l0, s0⟩, by rw [ht]; exact hP9, va_K.moved hW.alike hK9, hD9⟩, hS.F ht⟩) hS.2.2 dX4_bothAt_23

set_option maxHeartbeats 4000000 in
set_option maxRecDepth 100000 in
theorem c_X4_rootTotalWith_x (l : Launch) (dC : Nat → ClassId) (dI : Nat → Nat → Nat) (m_ : Nat) (q_row : Nat) (q_t : Nat) (t_ : Nat) (h0 : Nat) (k0 : Nat) (w_ : Nat) (z_ : Nat) (slots : Int32) (old : Int32) (q_joined : Nat) (q_from : Nat) (q_to : Nat) (q_size : Nat) (q_lossOf : Nat) (q_lessBy : Nat) (q_value : Nat) (q_number : Nat) (nodes : Int32) (here : Int32) (q_cell : Nat) (cyI : ClassId) (len : Int32) (f : Nat → Int32) (ff : Nat → Int32) (ft : Nat → Int32) (fs : Nat → Int32) (fo : Nat → Int32) (uv : Nat → Int32) (un : Nat → Int32) (fe : Nat → Int32) (j_v : Nat) (j_n : Nat) (js : Int32) (jl : Int32) (je : Int32) (jv : Nat → Int32) (jn : Nat → Int32) (a_v : Nat) (a_n : Nat) (vs : Int32) (lo : Int32) (le : Int32) (fv : Nat → Int32) (fn : Nat → Int32) (p0 : Int32) (p1 : Int32) (sz : Nat) (b0 : 0 ≤ nodes.toInt) (c0 : nodes.toInt ≤ 319) (c1 : len.toInt ≤ 160) (s0 : sixes fs) (t0 : treeOk ff ft nodes.toInt len.toInt) (kh0 : 1 ≤ here.toInt) (kh1 : here.toInt ≤ 6) (hC : mj_C here.toNatClampNeg f ff ft fs fo fe uv un nodes.toInt len.toInt) (d0 : 0 ≤ p0.toInt) (d1 : p0.toInt < 160) : Met l yX4_rootTotalWith wsX4_rootTotalWith ({ frames := 5, cells := 0, slots := 0, locals := 225 }) (va_Pc [.ref m_, .ref q_t, .int p0, .int p1] (fun U => U.heap.size = sz ∧ va_P (dC, dI) vwCl [kx_4 m_ q_row q_t t_ h0 k0 w_ z_ slots old, kx_2 q_t q_row q_joined q_from q_to q_size q_lossOf q_lessBy q_value q_number nodes here, kx_0 q_row q_cell len, kx_a q_cell cyI 160 f, kx_a q_from cyI 319 ff, kx_a q_to cyI 319 ft, kx_a q_size cyI 319 fs, kx_a q_lossOf cyI 319 fo, kx_a q_lessBy cyI 319 fe, kx_a q_value cyI 1914 uv, kx_a q_number cyI 1914 un, kx_3 q_joined j_v j_n js jl je, kx_a j_v cyI 12 jv, kx_a j_n cyI 12 jn, kx_3 h0 a_v a_n vs lo le, kx_a a_v cyI 12 fv, kx_a a_n cyI 12 fn] U.heap ∧ va_K (dC, dI) vwCl [(cyI, .int)] U ∧ va_D (fun _ => True) [kx_4 m_ q_row q_t t_ h0 k0 w_ z_ slots old, kx_2 q_t q_row q_joined q_from q_to q_size q_lossOf q_lessBy q_value q_number nodes here, kx_0 q_row q_cell len, kx_a q_cell cyI 160 f, kx_a q_from cyI 319 ff, kx_a q_to cyI 319 ft, kx_a q_size cyI 319 fs, kx_a q_lossOf cyI 319 fo, kx_a q_lessBy cyI 319 fe, kx_a q_value cyI 1914 uv, kx_a q_number cyI 1914 un, kx_3 q_joined j_v j_n js jl je, kx_a j_v cyI 12 jv, kx_a j_n cyI 12 jn, kx_3 h0 a_v a_n vs lo le, kx_a a_v cyI 12 fv, kx_a a_n cyI 12 fn])) (va_Qi (fun (r : Int32) (u : (Nat → Int32) × (Nat → Int32) × (Nat → Int32) × (Nat → Int32) × (Nat → Int32) × (Nat → Int32) × Int32 × Int32 × Int32 × (Nat → Int32) × (Nat → Int32) × Int32 × Int32 × Int32 × (Nat → Int32) × (Nat → Int32)) => u.1 = f ∧ sixes u.2.1 ∧ mj_C here.toNatClampNeg f ff ft u.2.1 u.2.2.1 u.2.2.2.1 u.2.2.2.2.1 u.2.2.2.2.2.1 nodes.toInt len.toInt) (fun (u : (Nat → Int32) × (Nat → Int32) × (Nat → Int32) × (Nat → Int32) × (Nat → Int32) × (Nat → Int32) × Int32 × Int32 × Int32 × (Nat → Int32) × (Nat → Int32) × Int32 × Int32 × Int32 × (Nat → Int32) × (Nat → Int32)) (t : State) => va_P (dC, dI) vwCl [kx_4 m_ q_row q_t t_ h0 k0 w_ z_ slots old, kx_2 q_t q_row q_joined q_from q_to q_size q_lossOf q_lessBy q_value q_number nodes here, kx_0 q_row q_cell len, kx_a q_cell cyI 160 u.1, kx_a q_from cyI 319 ff, kx_a q_to cyI 319 ft, kx_a q_size cyI 319 u.2.1, kx_a q_lossOf cyI 319 u.2.2.1, kx_a q_lessBy cyI 319 u.2.2.2.1, kx_a q_value cyI 1914 u.2.2.2.2.1, kx_a q_number cyI 1914 u.2.2.2.2.2.1, kx_3 q_joined j_v j_n u.2.2.2.2.2.2.1 u.2.2.2.2.2.2.2.1 u.2.2.2.2.2.2.2.2.1, kx_a j_v cyI 12 u.2.2.2.2.2.2.2.2.2.1, kx_a j_n cyI 12 u.2.2.2.2.2.2.2.2.2.2.1, kx_3 h0 a_v a_n u.2.2.2.2.2.2.2.2.2.2.2.1 u.2.2.2.2.2.2.2.2.2.2.2.2.1 u.2.2.2.2.2.2.2.2.2.2.2.2.2.1, kx_a a_v cyI 12 u.2.2.2.2.2.2.2.2.2.2.2.2.2.2.1, kx_a a_n cyI 12 u.2.2.2.2.2.2.2.2.2.2.2.2.2.2.2] t.heap ∧ va_K (dC, dI) vwCl [(cyI, .int)] t ∧ va_D (va_A [kx_4 m_ q_row q_t t_ h0 k0 w_ z_ slots old, kx_2 q_t q_row q_joined q_from q_to q_size q_lossOf q_lessBy q_value q_number nodes here, kx_0 q_row q_cell len, kx_a q_cell cyI 160 f, kx_a q_from cyI 319 ff, kx_a q_to cyI 319 ft, kx_a q_size cyI 319 fs, kx_a q_lossOf cyI 319 fo, kx_a q_lessBy cyI 319 fe, kx_a q_value cyI 1914 uv, kx_a q_number cyI 1914 un, kx_3 q_joined j_v j_n js jl je, kx_a j_v cyI 12 jv, kx_a j_n cyI 12 jn, kx_3 h0 a_v a_n vs lo le, kx_a a_v cyI 12 fv, kx_a a_n cyI 12 fn] sz) [kx_4 m_ q_row q_t t_ h0 k0 w_ z_ slots old, kx_2 q_t q_row q_joined q_from q_to q_size q_lossOf q_lessBy q_value q_number nodes here, kx_0 q_row q_cell len, kx_a q_cell cyI 160 u.1, kx_a q_from cyI 319 ff, kx_a q_to cyI 319 ft, kx_a q_size cyI 319 u.2.1, kx_a q_lossOf cyI 319 u.2.2.1, kx_a q_lessBy cyI 319 u.2.2.2.1, kx_a q_value cyI 1914 u.2.2.2.2.1, kx_a q_number cyI 1914 u.2.2.2.2.2.1, kx_3 q_joined j_v j_n u.2.2.2.2.2.2.1 u.2.2.2.2.2.2.2.1 u.2.2.2.2.2.2.2.2.1, kx_a j_v cyI 12 u.2.2.2.2.2.2.2.2.2.1, kx_a j_n cyI 12 u.2.2.2.2.2.2.2.2.2.2.1, kx_3 h0 a_v a_n u.2.2.2.2.2.2.2.2.2.2.2.1 u.2.2.2.2.2.2.2.2.2.2.2.2.1 u.2.2.2.2.2.2.2.2.2.2.2.2.2.1, kx_a a_v cyI 12 u.2.2.2.2.2.2.2.2.2.2.2.2.2.2.1, kx_a a_n cyI 12 u.2.2.2.2.2.2.2.2.2.2.2.2.2.2.2]) (va_A [kx_4 m_ q_row q_t t_ h0 k0 w_ z_ slots old, kx_2 q_t q_row q_joined q_from q_to q_size q_lossOf q_lessBy q_value q_number nodes here, kx_0 q_row q_cell len, kx_a q_cell cyI 160 f, kx_a q_from cyI 319 ff, kx_a q_to cyI 319 ft, kx_a q_size cyI 319 fs, kx_a q_lossOf cyI 319 fo, kx_a q_lessBy cyI 319 fe, kx_a q_value cyI 1914 uv, kx_a q_number cyI 1914 un, kx_3 q_joined j_v j_n js jl je, kx_a j_v cyI 12 jv, kx_a j_n cyI 12 jn, kx_3 h0 a_v a_n vs lo le, kx_a a_v cyI 12 fv, kx_a a_n cyI 12 fn] sz)) 0 0 (va_A [kx_4 m_ q_row q_t t_ h0 k0 w_ z_ slots old, kx_2 q_t q_row q_joined q_from q_to q_size q_lossOf q_lessBy q_value q_number nodes here, kx_0 q_row q_cell len, kx_a q_cell cyI 160 f, kx_a q_from cyI 319 ff, kx_a q_to cyI 319 ft, kx_a q_size cyI 319 fs, kx_a q_lossOf cyI 319 fo, kx_a q_lessBy cyI 319 fe, kx_a q_value cyI 1914 uv, kx_a q_number cyI 1914 un, kx_3 q_joined j_v j_n js jl je, kx_a j_v cyI 12 jv, kx_a j_n cyI 12 jn, kx_3 h0 a_v a_n vs lo le, kx_a a_v cyI 12 fv, kx_a a_n cyI 12 fn] sz) := by
  refine Met.ofW (cc := cX4_rootTotalWith) (maxL := 6) (ret := (some .int)) (by decide) rfl ?_
  intro p e s m args below meth c s₁ B hml hv
  obtain ⟨rfl, hsz, hP, hK, hD0⟩ := hv
  have hx := B.exec
  have hb := B.bytes
  have hr := B.returns
  have hts := atoms_spec (ws := wsX4_rootTotalWith) B.pre
  have hown : s.vm.findClass RX4 = some m.cls := findClass_of_methodNamed B.named
  have hlocks := B.notSynchronized
  subst hsz
  have hD := hD0.self (sz := s.heap.size)
  generalize hAe : va_A [kx_4 m_ q_row q_t t_ h0 k0 w_ z_ slots old, kx_2 q_t q_row q_joined q_from q_to q_size q_lossOf q_lessBy q_value q_number nodes here, kx_0 q_row q_cell len, kx_a q_cell cyI 160 f, kx_a q_from cyI 319 ff, kx_a q_to cyI 319 ft, kx_a q_size cyI 319 fs, kx_a q_lossOf cyI 319 fo, kx_a q_lessBy cyI 319 fe, kx_a q_value cyI 1914 uv, kx_a q_number cyI 1914 un, kx_3 q_joined j_v j_n js jl je, kx_a j_v cyI 12 jv, kx_a j_n cyI 12 jn, kx_3 h0 a_v a_n vs lo le, kx_a a_v cyI 12 fv, kx_a a_n cyI 12 fn] s.heap.size = A at hD ⊢
  have hA : ∀ q : Nat, s.heap.size ≤ q → A q := fun q h => by rw [← hAe]; exact Or.inr h
  have hS : va_S A s.heap s.heap [] := va_S.rf
  have hP : va_P (dC, dI) vwCl [kx_4 m_ q_row q_t t_ h0 k0 w_ z_ slots old, kx_2 q_t q_row q_joined q_from q_to q_size q_lossOf q_lessBy q_value q_number nodes here, kx_0 q_row q_cell len, kx_a q_cell cyI 160 f, kx_a q_from cyI 319 ff, kx_a q_to cyI 319 ft, kx_a q_size cyI 319 fs, kx_a q_lossOf cyI 319 fo, kx_a q_lessBy cyI 319 fe, kx_a q_value cyI 1914 uv, kx_a q_number cyI 1914 un, kx_3 q_joined j_v j_n js jl je, kx_a j_v cyI 12 jv, kx_a j_n cyI 12 jn, kx_3 h0 a_v a_n vs lo le, kx_a a_v cyI 12 fv, kx_a a_n cyI 12 fn] s.heap := hP
  have hl := lv_entry ([.ref m_, .ref q_t, .int p0, .int p1]) (n := 6) (Nat.le_of_ble_eq_true rfl)
  rw [lg_entry_eq]
  generalize (lg_sl ([.ref m_, .ref q_t, .int p0, .int p1]) ++ List.replicate (6 - (lg_sl ([.ref m_, .ref q_t, .int p0, .int p1])).length) Slot.unset).toArray = ls at hl ⊢
  have hl : lv_has ls 6 [(0, .ref m_), (1, .ref q_t), (2, .int p0), (3, .int p1)] := hl
  have hf_12 := hts (.fieldLink RX4 12 "MajorityIndex" "row" "LMajorityIndex$Row;") (List.mem_of_getElem? (i := 1) rfl)
  have hi_4 : ∀ w ∈ u_ws RX4 TX4 9, w ∈ wsX4_rootTotalWith := fun w h => List.mem_cons_of_mem _ (List.mem_append_left _ (List.mem_append_left _ (List.mem_append_left _ (List.mem_append_right _ h))))
  have hf_110 := hts (.fieldLink RX4 110 "MajorityIndex$Row" "cell" "[I") (List.mem_of_getElem? (i := 2) rfl)
  have hi_0 : ∀ w ∈ u_ws RX0 TX0 2, w ∈ wsX4_rootTotalWith := fun w h => List.mem_cons_of_mem _ (List.mem_append_left _ (List.mem_append_left _ (List.mem_append_right _ h)))
  have hf_35 := hts (.fieldLink RX4 35 "MajorityIndex" "votes" "LMajorityIndex$Votes;") (List.mem_of_getElem? (i := 3) rfl)
  refine lv_aload_n hx hb dX4_rootTotalWith_0 rfl (lv_at hl 0 rfl) ?_
  refine va_get (D := (dC, dI)) (ci := 4) (v := .ref q_row) (C := RX4) (T := TX4) (N := 9) hx hb hts hi_4 hown hK hP 0 rfl rfl 0 (by decide) hf_12 (fun _ h9 => h9) rfl dX4_rootTotalWith_1 ?_
  refine va_get (D := (dC, dI)) (ci := 0) (v := .ref q_cell) (C := RX0) (T := TX0) (N := 2) hx hb hts hi_0 hown hK hP 2 rfl rfl 0 (by decide) hf_110 (fun _ h9 => h9) rfl dX4_rootTotalWith_4 ?_
  refine lv_iload_n hx hb dX4_rootTotalWith_7 rfl (lv_at hl 2 rfl) ?_
  refine va_iald hx hb hK hP 3 0 rfl rfl (ki_in (om_8 d0) (om_9 d1)) dX4_rootTotalWith_8 ?_
  refine lv_topi (fun y_1 ey_1 => ?_)
  have j_1 : y_1.toInt = (f p0.toNatClampNeg).toInt := congrArg Int32.toInt ey_1
  refine lv_istore (lv' := [(4, .int y_1), (0, .ref m_), (1, .ref q_t), (2, .int p0), (3, .int p1)]) hx hb dX4_rootTotalWith_9 hl (by decide) rfl (fun ls hl => ?_)
  refine lv_aload_n hx hb dX4_rootTotalWith_11 rfl (lv_at hl 1 rfl) ?_
  refine va_get (D := (dC, dI)) (ci := 4) (v := .ref q_row) (C := RX4) (T := TX4) (N := 9) hx hb hts hi_4 hown hK hP 0 rfl rfl 0 (by decide) hf_12 (fun _ h9 => h9) rfl dX4_rootTotalWith_12 ?_
  refine va_get (D := (dC, dI)) (ci := 0) (v := .ref q_cell) (C := RX0) (T := TX0) (N := 2) hx hb hts hi_0 hown hK hP 2 rfl rfl 0 (by decide) hf_110 (fun _ h9 => h9) rfl dX4_rootTotalWith_15 ?_
  refine lv_iload_n hx hb dX4_rootTotalWith_18 rfl (lv_at hl 3 rfl) ?_
  refine lv_iload_n hx hb dX4_rootTotalWith_19 rfl (lv_at hl 4 rfl) ?_
  refine va_iast hx hb hK hP hD hS 3 0 rfl rfl (ki_in (om_8 d0) (om_9 d1)) dX4_rootTotalWith_20 (fun H locs hP hD hS => ?_)
  obtain ⟨hP, hD⟩ := kx_re (w2 := [kx_4 m_ q_row q_t t_ h0 k0 w_ z_ slots old, kx_2 q_t q_row q_joined q_from q_to q_size q_lossOf q_lessBy q_value q_number nodes here, kx_0 q_row q_cell len, kx_a q_cell cyI 160 (upd f p0.toNatClampNeg p1), kx_a q_from cyI 319 ff, kx_a q_to cyI 319 ft, kx_a q_size cyI 319 fs, kx_a q_lossOf cyI 319 fo, kx_a q_lessBy cyI 319 fe, kx_a q_value cyI 1914 uv, kx_a q_number cyI 1914 un, kx_3 q_joined j_v j_n js jl je, kx_a j_v cyI 12 jv, kx_a j_n cyI 12 jn, kx_3 h0 a_v a_n vs lo le, kx_a a_v cyI 12 fv, kx_a a_n cyI 12 fn]) hP hD rfl
  refine lv_aload_n hx hb dX4_rootTotalWith_21 rfl (lv_at hl 2 rfl) ?_
  refine lv_iload_n hx hb dX4_rootTotalWith_22 rfl (lv_at hl 3 rfl) ?_
  refine lv_iload_n hx hb dX4_rootTotalWith_23 rfl (lv_at hl 3 rfl) ?_
  refine lv_iconst (v := 1) hx hb dX4_rootTotalWith_24 (by decide) ?_
  refine lv_iadd hx hb dX4_rootTotalWith_25 ?_
  refine lv_topi (fun y_2 ey_2 => ?_)
  have i_2 : y_2.toInt = p0.toInt + 1 := ki_add ey_2 rfl rfl (om_10 d0) (om_11 d1)
  obtain ⟨hPc, hDc, hFc, hCc⟩ := kx_pre (wc := [kx_2 q_t q_row q_joined q_from q_to q_size q_lossOf q_lessBy q_value q_number nodes here, kx_0 q_row q_cell len, kx_a q_cell cyI 160 (upd f p0.toNatClampNeg p1), kx_a q_from cyI 319 ff, kx_a q_to cyI 319 ft, kx_a q_size cyI 319 fs, kx_a q_lossOf cyI 319 fo, kx_a q_lessBy cyI 319 fe, kx_a q_value cyI 1914 uv, kx_a q_number cyI 1914 un, kx_3 q_joined j_v j_n js jl je, kx_a j_v cyI 12 jv, kx_a j_n cyI 12 jn]) hP hD hS hA [1, 2, 3, 4, 5, 6, 7, 8, 9, 10, 11, 12, 13] (by decide) rfl
  have hKc := hK
  refine va_calli (va_runV (As := [.int p0, .int y_2]) (rest := []) ⟨hx, hb, hml, hown, hts⟩ (c_X2_renew_x l dC dI q_t q_row q_joined q_from q_to q_size q_lossOf q_lessBy q_value q_number nodes here q_cell cyI len (upd f p0.toNatClampNeg p1) ff ft fs fo uv un fe j_v j_n js jl je jv jn p0 y_2 H.size b0 c0 c1 s0 t0 kh0 kh1 hC.2.2.2.2.1 (mj_old hC.2.2.2.2.2.2 t0 (fun p hp => upd_ne (fun e => by have := ki_nat p0 rfl (by omega); omega)))) (cwV 2 hts gX4_rootTotalWith_X2_renew rfl rfl rfl (by decide +kernel) ⟨Nat.le_of_ble_eq_true rfl, Nat.le_of_ble_eq_true rfl⟩) ⟨fun a U g mk q => by obtain ⟨q0, q1, qP, qK, qD⟩ := q; exact ⟨q0, q1, qP, va_K.moved (u := U) (U := U.calling g mk a) (Vm.Alike.refl U.vm) qK, qD⟩, va_recv hKc hPc (ci := 2) (q0 := 0) rfl rfl, fun U hU hW => ⟨rfl, by rw [hU], by rw [hU]; exact hPc, va_K.moved hW.alike hKc, hDc.weaken (fun _ _ _ _ => trivial)⟩⟩ rfl rfl hl.1 rfl (lv_room (Nat.le_of_ble_eq_true rfl)) dX4_rootTotalWith_26 ⟨Nat.le_of_ble_eq_true rfl, Nat.le_of_ble_eq_true rfl⟩) hS (fun q _ h => hFc q h) hFc (fun r_3 u t H1 locs ht hvm w_3 hB hz1 hk1 hS => ?_)
  obtain ⟨o_4, o_5, o_6, o_7, o_8, o_9, o_10, o_11, o_12, o_13⟩ := u
  dsimp only at w_3 hB
  obtain ⟨hP1, hK1, hD1⟩ := hB
  rw [ht] at hP1
  have hK1 := va_K.moved hvm.symm hK1
  obtain ⟨hP, hD⟩ := kx_join (w2 := [kx_4 m_ q_row q_t t_ h0 k0 w_ z_ slots old, kx_3 h0 a_v a_n vs lo le, kx_a a_v cyI 12 fv, kx_a a_n cyI 12 fn, kx_2 q_t q_row q_joined q_from q_to q_size q_lossOf q_lessBy q_value q_number nodes here, kx_0 q_row q_cell len, kx_a q_cell cyI 160 (upd f p0.toNatClampNeg p1), kx_a q_from cyI 319 ff, kx_a q_to cyI 319 ft, kx_a q_size cyI 319 o_4, kx_a q_lossOf cyI 319 o_5, kx_a q_lessBy cyI 319 o_6, kx_a q_value cyI 1914 o_7, kx_a q_number cyI 1914 o_8, kx_3 q_joined j_v j_n o_9 o_10 o_11, kx_a j_v cyI 12 o_12, kx_a j_n cyI 12 o_13]) hP hD hP1 hD1 hk1 hFc [1, 2, 3, 4, 5, 6, 7, 8, 9, 10, 11, 12, 13] [0, 14, 15, 16] hCc rfl (by decide) (by decide)
  clear hP1 hD1 hK1 hk1 hz1 hFc hDc hPc hKc hCc
  generalize H1 = H at hP hS ⊢
  have w_3 : sixes o_4 ∧ ∀ k : Nat, (k : Int) < nodes.toInt → mj_ok here.toNatClampNeg (upd f p0.toNatClampNeg p1) ff ft o_4 o_5 o_6 o_7 o_8 k := w_3
  refine lv_pop hx hb dX4_rootTotalWith_29 rfl ?_
  refine lv_aload_n hx hb dX4_rootTotalWith_30 rfl (lv_at hl 2 rfl) ?_
  refine lv_aload_n hx hb dX4_rootTotalWith_31 rfl (lv_at hl 1 rfl) ?_
  refine va_get (D := (dC, dI)) (ci := 4) (v := .ref h0) (C := RX4) (T := TX4) (N := 9) hx hb hts hi_4 hown hK hP 0 rfl rfl 3 (by decide) hf_35 (fun _ h9 => h9) rfl dX4_rootTotalWith_32 ?_
  refine lv_iconst (v := 0) hx hb dX4_rootTotalWith_35 (by decide) ?_
  have k_0 : (0 : Int32).toInt = 0 := rfl
  obtain ⟨hPc, hDc, hFc, hCc⟩ := kx_pre (wc := [kx_2 q_t q_row q_joined q_from q_to q_size q_lossOf q_lessBy q_value q_number nodes here, kx_a q_size cyI 319 o_4, kx_a q_lossOf cyI 319 o_5, kx_a q_value cyI 1914 o_7, kx_a q_number cyI 1914 o_8, kx_3 h0 a_v a_n vs lo le, kx_a a_v cyI 12 fv, kx_a a_n cyI 12 fn]) hP hD hS hA [4, 9, 10, 12, 13, 1, 2, 3] (by decide) rfl
  have hKc := hK
  have k_14 : (0 : Int32).toInt = 0 := rfl
  refine va_callv (va_runV (As := [.ref h0, .int 0]) (rest := []) ⟨hx, hb, hml, hown, hts⟩ (c_X2_copyTo l dC dI q_t q_row q_joined q_from q_to q_size q_lossOf q_lessBy q_value q_number nodes here h0 a_v a_n cyI vs lo le fv fn o_4 o_5 o_7 o_8 0 H.size om_32 om_183 w_3.1) (cwV 2 hts gX4_rootTotalWith_X2_copyTo rfl rfl rfl (by decide +kernel) ⟨Nat.le_of_ble_eq_true rfl, Nat.le_of_ble_eq_true rfl⟩) ⟨fun a U g mk q => by obtain ⟨q0, q1, qP, qK, qD⟩ := q; exact ⟨q0, q1, qP, va_K.moved (u := U) (U := U.calling g mk a) (Vm.Alike.refl U.vm) qK, qD⟩, va_recv hKc hPc (ci := 2) (q0 := 0) rfl rfl, fun U hU hW => ⟨rfl, by rw [hU], by rw [hU]; exact hPc, va_K.moved hW.alike hKc, hDc.weaken (fun _ _ _ _ => trivial)⟩⟩ rfl rfl hl.1 rfl (lv_room (Nat.le_of_ble_eq_true rfl)) dX4_rootTotalWith_36 ⟨Nat.le_of_ble_eq_true rfl, Nat.le_of_ble_eq_true rfl⟩) hS (fun q _ h => hFc q h) hFc (fun u t H1 locs ht hvm w_15 hB hz1 hk1 hS => ?_)
  obtain ⟨o_16, o_17, o_18, o_19⟩ := u
  dsimp only at w_15 hB
  obtain ⟨hP1, hK1, hD1⟩ := hB
  rw [ht] at hP1
  have hK1 := va_K.moved hvm.symm hK1
  obtain ⟨hP, hD⟩ := kx_join (w2 := [kx_4 m_ q_row q_t t_ h0 k0 w_ z_ slots old, kx_0 q_row q_cell len, kx_a q_cell cyI 160 (upd f p0.toNatClampNeg p1), kx_a q_from cyI 319 ff, kx_a q_to cyI 319 ft, kx_a q_lessBy cyI 319 o_6, kx_3 q_joined j_v j_n o_9 o_10 o_11, kx_a j_v cyI 12 o_12, kx_a j_n cyI 12 o_13, kx_2 q_t q_row q_joined q_from q_to q_size q_lossOf q_lessBy q_value q_number nodes here, kx_a q_size cyI 319 o_4, kx_a q_lossOf cyI 319 o_5, kx_a q_value cyI 1914 o_7, kx_a q_number cyI 1914 o_8, kx_3 h0 a_v a_n o_16 o_17 0, kx_a a_v cyI 12 o_18, kx_a a_n cyI 12 o_19]) hP hD hP1 hD1 hk1 hFc [4, 9, 10, 12, 13, 1, 2, 3] [0, 5, 6, 7, 8, 11, 14, 15, 16] hCc rfl (by decide) (by decide)
  clear hP1 hD1 hK1 hk1 hz1 hFc hDc hPc hKc hCc
  generalize H1 = H at hP hS ⊢
  have w_15 : 0 ≤ o_16.toInt ∧ o_16.toInt ≤ 12 := w_15
  refine lv_aload_n hx hb dX4_rootTotalWith_39 rfl (lv_at hl 1 rfl) ?_
  refine va_get (D := (dC, dI)) (ci := 4) (v := .ref h0) (C := RX4) (T := TX4) (N := 9) hx hb hts hi_4 hown hK hP 0 rfl rfl 3 (by decide) hf_35 (fun _ h9 => h9) rfl dX4_rootTotalWith_40 ?_
  have hPc := hP.sub (ws' := [kx_3 h0 a_v a_n o_16 o_17 0, kx_a a_v cyI 12 o_18, kx_a a_n cyI 12 o_19]) [14, 15, 16] rfl
  have hKc := hK
  refine vp_callSi (W.runV (As := []) (rest := []) ⟨hx, hb, hml, hown, hts⟩ (c_X3_total_x l dC dI h0 a_v a_n cyI o_16 o_17 0 o_18 o_19 w_15.1 w_15.2) (cwV 0 hts gX4_rootTotalWith_X3_total rfl rfl rfl (by decide +kernel) ⟨Nat.le_of_ble_eq_true rfl, Nat.le_of_ble_eq_true rfl⟩) ⟨fun a U g mk q => by obtain ⟨q0, qP, qK⟩ := q; exact ⟨q0, qP, va_K.moved (u := U) (U := U.calling g mk a) (Vm.Alike.refl U.vm) qK⟩, va_recv hKc hPc (ci := 3) (q0 := 0) rfl rfl, fun U hU hW => ⟨rfl, by rw [hU]; exact hPc, va_K.moved hW.alike hKc⟩⟩ rfl rfl hl.1 rfl (lv_room (Nat.le_of_ble_eq_true rfl)) dX4_rootTotalWith_43 ⟨Nat.le_of_ble_eq_true rfl, Nat.le_of_ble_eq_true rfl⟩) (fun r_20 w_20 => ?_)
  subst w_20
  refine lv_istore (lv' := [(5, .int (mj_tot o_19 0 o_16.toNatClampNeg)), (4, .int y_1), (0, .ref m_), (1, .ref q_t), (2, .int p0), (3, .int p1)]) hx hb dX4_rootTotalWith_46 hl (by decide) rfl (fun ls hl => ?_)
  refine lv_aload_n hx hb dX4_rootTotalWith_48 rfl (lv_at hl 2 rfl) ?_
  refine va_get (D := (dC, dI)) (ci := 4) (v := .ref q_row) (C := RX4) (T := TX4) (N := 9) hx hb hts hi_4 hown hK hP 0 rfl rfl 0 (by decide) hf_12 (fun _ h9 => h9) rfl dX4_rootTotalWith_49 ?_
  refine va_get (D := (dC, dI)) (ci := 0) (v := .ref q_cell) (C := RX0) (T := TX0) (N := 2) hx hb hts hi_0 hown hK hP 1 rfl rfl 0 (by decide) hf_110 (fun _ h9 => h9) rfl dX4_rootTotalWith_52 ?_
  refine lv_iload_n hx hb dX4_rootTotalWith_55 rfl (lv_at hl 4 rfl) ?_
  refine lv_iload hx hb dX4_rootTotalWith_56 (lv_at hl 1 rfl) ?_
  refine va_iast hx hb hK hP hD hS 2 0 rfl rfl (ki_in (om_8 d0) (om_9 d1)) dX4_rootTotalWith_58 (fun H locs hP hD hS => ?_)
  obtain ⟨hP, hD⟩ := kx_re (w2 := [kx_4 m_ q_row q_t t_ h0 k0 w_ z_ slots old, kx_0 q_row q_cell len, kx_a q_cell cyI 160 (upd (upd f p0.toNatClampNeg p1) p0.toNatClampNeg y_1), kx_a q_from cyI 319 ff, kx_a q_to cyI 319 ft, kx_a q_lessBy cyI 319 o_6, kx_3 q_joined j_v j_n o_9 o_10 o_11, kx_a j_v cyI 12 o_12, kx_a j_n cyI 12 o_13, kx_2 q_t q_row q_joined q_from q_to q_size q_lossOf q_lessBy q_value q_number nodes here, kx_a q_size cyI 319 o_4, kx_a q_lossOf cyI 319 o_5, kx_a q_value cyI 1914 o_7, kx_a q_number cyI 1914 o_8, kx_3 h0 a_v a_n o_16 o_17 0, kx_a a_v cyI 12 o_18, kx_a a_n cyI 12 o_19]) hP hD rfl
  refine lv_aload_n hx hb dX4_rootTotalWith_59 rfl (lv_at hl 3 rfl) ?_
  refine lv_iload_n hx hb dX4_rootTotalWith_60 rfl (lv_at hl 4 rfl) ?_
  refine lv_iload_n hx hb dX4_rootTotalWith_61 rfl (lv_at hl 4 rfl) ?_
  refine lv_iconst (v := 1) hx hb dX4_rootTotalWith_62 (by decide) ?_
  refine lv_iadd hx hb dX4_rootTotalWith_63 ?_
  refine lv_topi (fun y_21 ey_21 => ?_)
  have i_21 : y_21.toInt = p0.toInt + 1 := ki_add ey_21 rfl rfl (om_10 d0) (om_11 d1)
  have h_c2 := w_3.2
  obtain ⟨hPc, hDc, hFc, hCc⟩ := kx_pre (wc := [kx_2 q_t q_row q_joined q_from q_to q_size q_lossOf q_lessBy q_value q_number nodes here, kx_0 q_row q_cell len, kx_a q_cell cyI 160 (upd (upd f p0.toNatClampNeg p1) p0.toNatClampNeg y_1), kx_a q_from cyI 319 ff, kx_a q_to cyI 319 ft, kx_a q_size cyI 319 o_4, kx_a q_lossOf cyI 319 o_5, kx_a q_lessBy cyI 319 o_6, kx_a q_value cyI 1914 o_7, kx_a q_number cyI 1914 o_8, kx_3 q_joined j_v j_n o_9 o_10 o_11, kx_a j_v cyI 12 o_12, kx_a j_n cyI 12 o_13]) hP hD hS hA [9, 1, 2, 3, 4, 10, 11, 5, 12, 13, 6, 7, 8] (by decide) rfl
  have hKc := hK
  refine va_calli (va_runV (As := [.int p0, .int y_21]) (rest := []) ⟨hx, hb, hml, hown, hts⟩ (c_X2_renew_x l dC dI q_t q_row q_joined q_from q_to q_size q_lossOf q_lessBy q_value q_number nodes here q_cell cyI len (upd (upd f p0.toNatClampNeg p1) p0.toNatClampNeg y_1) ff ft o_4 o_5 o_7 o_8 o_6 j_v j_n o_9 o_10 o_11 o_12 o_13 p0 y_21 H.size b0 c0 c1 w_3.1 t0 kh0 kh1 hC.2.2.2.2.1 (mj_old h_c2 t0 (fun p hp => by rw [ey_1, upd_back, upd_ne (fun e => by have := ki_nat p0 rfl (by omega); omega)]))) (cwV 2 hts gX4_rootTotalWith_X2_renew rfl rfl rfl (by decide +kernel) ⟨Nat.le_of_ble_eq_true rfl, Nat.le_of_ble_eq_true rfl⟩) ⟨fun a U g mk q => by obtain ⟨q0, q1, qP, qK, qD⟩ := q; exact ⟨q0, q1, qP, va_K.moved (u := U) (U := U.calling g mk a) (Vm.Alike.refl U.vm) qK, qD⟩, va_recv hKc hPc (ci := 2) (q0 := 0) rfl rfl, fun U hU hW => ⟨rfl, by rw [hU], by rw [hU]; exact hPc, va_K.moved hW.alike hKc, hDc.weaken (fun _ _ _ _ => trivial)⟩⟩ rfl rfl hl.1 rfl (lv_room (Nat.le_of_ble_eq_true rfl)) dX4_rootTotalWith_64 ⟨Nat.le_of_ble_eq_true rfl, Nat.le_of_ble_eq_true rfl⟩) hS (fun q _ h => hFc q h) hFc (fun r_22 u t H1 locs ht hvm w_22 hB hz1 hk1 hS => ?_)
  obtain ⟨o_23, o_24, o_25, o_26, o_27, o_28, o_29, o_30, o_31, o_32⟩ := u
  dsimp only at w_22 hB
  obtain ⟨hP1, hK1, hD1⟩ := hB
  rw [ht] at hP1
  have hK1 := va_K.moved hvm.symm hK1
  obtain ⟨hP, hD⟩ := kx_join (w2 := [kx_4 m_ q_row q_t t_ h0 k0 w_ z_ slots old, kx_3 h0 a_v a_n o_16 o_17 0, kx_a a_v cyI 12 o_18, kx_a a_n cyI 12 o_19, kx_2 q_t q_row q_joined q_from q_to q_size q_lossOf q_lessBy q_value q_number nodes here, kx_0 q_row q_cell len, kx_a q_cell cyI 160 (upd (upd f p0.toNatClampNeg p1) p0.toNatClampNeg y_1), kx_a q_from cyI 319 ff, kx_a q_to cyI 319 ft, kx_a q_size cyI 319 o_23, kx_a q_lossOf cyI 319 o_24, kx_a q_lessBy cyI 319 o_25, kx_a q_value cyI 1914 o_26, kx_a q_number cyI 1914 o_27, kx_3 q_joined j_v j_n o_28 o_29 o_30, kx_a j_v cyI 12 o_31, kx_a j_n cyI 12 o_32]) hP hD hP1 hD1 hk1 hFc [9, 1, 2, 3, 4, 10, 11, 5, 12, 13, 6, 7, 8] [0, 14, 15, 16] hCc rfl (by decide) (by decide)
  clear hP1 hD1 hK1 hk1 hz1 hFc hDc hPc hKc hCc
  generalize H1 = H at hP hS ⊢
  have w_22 : sixes o_23 ∧ ∀ k : Nat, (k : Int) < nodes.toInt → mj_ok here.toNatClampNeg (upd (upd f p0.toNatClampNeg p1) p0.toNatClampNeg y_1) ff ft o_23 o_24 o_25 o_26 o_27 k := w_22
  refine lv_pop hx hb dX4_rootTotalWith_67 rfl ?_
  refine lv_iload hx hb dX4_rootTotalWith_68 (lv_at hl 0 rfl) ?_
  obtain ⟨hP9, hD9⟩ := kx_sub (w2 := [kx_4 m_ q_row q_t t_ h0 k0 w_ z_ slots old, kx_2 q_t q_row q_joined q_from q_to q_size q_lossOf q_lessBy q_value q_number nodes here, kx_0 q_row q_cell len, kx_a q_cell cyI 160 (upd (upd f p0.toNatClampNeg p1) p0.toNatClampNeg y_1), kx_a q_from cyI 319 ff, kx_a q_to cyI 319 ft, kx_a q_size cyI 319 o_23, kx_a q_lossOf cyI 319 o_24, kx_a q_lessBy cyI 319 o_25, kx_a q_value cyI 1914 o_26, kx_a q_number cyI 1914 o_27, kx_3 q_joined j_v j_n o_28 o_29 o_30, kx_a j_v cyI 12 o_31, kx_a j_n cyI 12 o_32, kx_3 h0 a_v a_n o_16 o_17 0, kx_a a_v cyI 12 o_18, kx_a a_n cyI 12 o_19]) hP hD [0, 4, 5, 6, 7, 8, 9, 10, 11, 12, 13, 14, 15, 16, 1, 2, 3] (by decide) rfl
  have hK9 := hK
  have q_f : (upd (upd f p0.toNatClampNeg p1) p0.toNatClampNeg y_1) = f := by rw [ey_1]; exact upd_back _ _ _
  have h_c3 := w_22.2
  rw [q_f] at h_c3
  exact W.iret (v := (mj_tot o_19 0 o_16.toNatClampNeg)) hx hb hr (fun t ht hW => ⟨⟨(mj_tot o_19 0 o_16.toNatClampNeg), ((upd (upd f p0.toNatClampNeg p1) p0.toNatClampNeg y_1), o_23, o_24, o_25, o_26, o_27, o_28, o_29, o_30, o_31, o_32, o_16, o_17, 0, o_18, o_19), rfl, ⟨q_f, w_22.1, mj_C_new hC h_c3⟩, by rw [ht]; exact hP9, va_K.moved hW.alike hK9, hD9⟩, hS.F ht⟩) hS.2.2 dX4_rootTotalWith_70

set_option maxHeartbeats 4000000 in
set_option maxRecDepth 100000 in
theorem c_X4_swings_x (l : Launch) (dC : Nat → ClassId) (dI : Nat → Nat → Nat) (m_ : Nat) (q_row : Nat) (q_t : Nat) (t_ : Nat) (h0 : Nat) (k0 : Nat) (w_ : Nat) (z_ : Nat) (slots : Int32) (old : Int32) (q_joined : Nat) (q_from : Nat) (q_to : Nat) (q_size : Nat) (q_lossOf : Nat) (q_lessBy : Nat) (q_value : Nat) (q_number : Nat) (nodes : Int32) (here : Int32) (q_cell : Nat) (cyI : ClassId) (len : Int32) (f : Nat → Int32) (ff : Nat → Int32) (ft : Nat → Int32) (fs : Nat → Int32) (fo : Nat → Int32) (uv : Nat → Int32) (un : Nat → Int32) (fe : Nat → Int32) (j_v : Nat) (j_n : Nat) (js : Int32) (jl : Int32) (je : Int32) (jv : Nat → Int32) (jn : Nat → Int32) (a_v : Nat) (a_n : Nat) (vs : Int32) (lo : Int32) (le : Int32) (fv : Nat → Int32) (fn : Nat → Int32) (p0 : Int32) (p1 : Int32) (p2 : Int32) (p3 : Int32) (sz : Nat) (a0 : 0 ≤ len.toInt) (a1 : len.toInt ≤ 160) (s0 : sixes fs) (sl0 : 1 ≤ slots.toInt) (sl1 : slots.toInt ≤ 6) (l0 : laidX old slots here f ff ft fs fo fe uv un nodes len) : Met l yX4_swings wsX4_swings ({ frames := 6, cells := 0, slots := 0, locals := 270 }) (va_Pc [.ref m_, .int p0, .int p1, .int p2, .int p3] (fun U => U.heap.size = sz ∧ va_P (dC, dI) vwCl [kx_4 m_ q_row q_t t_ h0 k0 w_ z_ slots old, kx_2 q_t q_row q_joined q_from q_to q_size q_lossOf q_lessBy q_value q_number nodes here, kx_0 q_row q_cell len, kx_a q_cell cyI 160 f, kx_a q_from cyI 319 ff, kx_a q_to cyI 319 ft, kx_a q_size cyI 319 fs, kx_a q_lossOf cyI 319 fo, kx_a q_lessBy cyI 319 fe, kx_a q_value cyI 1914 uv, kx_a q_number cyI 1914 un, kx_3 q_joined j_v j_n js jl je, kx_a j_v cyI 12 jv, kx_a j_n cyI 12 jn, kx_3 h0 a_v a_n vs lo le, kx_a a_v cyI 12 fv, kx_a a_n cyI 12 fn] U.heap ∧ va_K (dC, dI) vwCl [(cyI, .int)] U ∧ va_D (fun _ => True) [kx_4 m_ q_row q_t t_ h0 k0 w_ z_ slots old, kx_2 q_t q_row q_joined q_from q_to q_size q_lossOf q_lessBy q_value q_number nodes here, kx_0 q_row q_cell len, kx_a q_cell cyI 160 f, kx_a q_from cyI 319 ff, kx_a q_to cyI 319 ft, kx_a q_size cyI 319 fs, kx_a q_lossOf cyI 319 fo, kx_a q_lessBy cyI 319 fe, kx_a q_value cyI 1914 uv, kx_a q_number cyI 1914 un, kx_3 q_joined j_v j_n js jl je, kx_a j_v cyI 12 jv, kx_a j_n cyI 12 jn, kx_3 h0 a_v a_n vs lo le, kx_a a_v cyI 12 fv, kx_a a_n cyI 12 fn])) (va_Qi (fun (r : Int32) (u : Int32 × Int32 × Int32 × (Nat → Int32) × (Nat → Int32) × (Nat → Int32) × (Nat → Int32) × (Nat → Int32) × (Nat → Int32) × (Nat → Int32) × Int32 × Int32 × Int32 × (Nat → Int32) × (Nat → Int32) × Int32 × Int32 × Int32 × (Nat → Int32) × (Nat → Int32) × (Nat → Int32)) => laidX u.1 slots u.2.2.1 u.2.2.2.2.2.2.2.2.2.2.2.2.2.2.2.2.2.2.2.2 u.2.2.2.1 u.2.2.2.2.1 u.2.2.2.2.2.1 u.2.2.2.2.2.2.1 u.2.2.2.2.2.2.2.1 u.2.2.2.2.2.2.2.2.1 u.2.2.2.2.2.2.2.2.2.1 u.2.1 len ∧ sixes u.2.2.2.2.2.1 ∧ u.2.2.2.2.2.2.2.2.2.2.2.2.2.2.2.2.2.2.2.2 = f) (fun (u : Int32 × Int32 × Int32 × (Nat → Int32) × (Nat → Int32) × (Nat → Int32) × (Nat → Int32) × (Nat → Int32) × (Nat → Int32) × (Nat → Int32) × Int32 × Int32 × Int32 × (Nat → Int32) × (Nat → Int32) × Int32 × Int32 × Int32 × (Nat → Int32) × (Nat → Int32) × (Nat → Int32)) (t : State) => va_P (dC, dI) vwCl [kx_4 m_ q_row q_t t_ h0 k0 w_ z_ slots u.1, kx_2 q_t q_row q_joined q_from q_to q_size q_lossOf q_lessBy q_value q_number u.2.1 u.2.2.1, kx_0 q_row q_cell len, kx_a q_cell cyI 160 u.2.2.2.2.2.2.2.2.2.2.2.2.2.2.2.2.2.2.2.2, kx_a q_from cyI 319 u.2.2.2.1, kx_a q_to cyI 319 u.2.2.2.2.1, kx_a q_size cyI 319 u.2.2.2.2.2.1, kx_a q_lossOf cyI 319 u.2.2.2.2.2.2.1, kx_a q_lessBy cyI 319 u.2.2.2.2.2.2.2.1, kx_a q_value cyI 1914 u.2.2.2.2.2.2.2.2.1, kx_a q_number cyI 1914 u.2.2.2.2.2.2.2.2.2.1, kx_3 q_joined j_v j_n u.2.2.2.2.2.2.2.2.2.2.1 u.2.2.2.2.2.2.2.2.2.2.2.1 u.2.2.2.2.2.2.2.2.2.2.2.2.1, kx_a j_v cyI 12 u.2.2.2.2.2.2.2.2.2.2.2.2.2.1, kx_a j_n cyI 12 u.2.2.2.2.2.2.2.2.2.2.2.2.2.2.1, kx_3 h0 a_v a_n u.2.2.2.2.2.2.2.2.2.2.2.2.2.2.2.1 u.2.2.2.2.2.2.2.2.2.2.2.2.2.2.2.2.1 u.2.2.2.2.2.2.2.2.2.2.2.2.2.2.2.2.2.1, kx_a a_v cyI 12 u.2.2.2.2.2.2.2.2.2.2.2.2.2.2.2.2.2.2.1, kx_a a_n cyI 12 u.2.2.2.2.2.2.2.2.2.2.2.2.2.2.2.2.2.2.2.1] t.heap ∧ va_K (dC, dI) vwCl [(cyI, .int)] t ∧ va_D (va_A [kx_4 m_ q_row q_t t_ h0 k0 w_ z_ slots old, kx_2 q_t q_row q_joined q_from q_to q_size q_lossOf q_lessBy q_value q_number nodes here, kx_0 q_row q_cell len, kx_a q_cell cyI 160 f, kx_a q_from cyI 319 ff, kx_a q_to cyI 319 ft, kx_a q_size cyI 319 fs, kx_a q_lossOf cyI 319 fo, kx_a q_lessBy cyI 319 fe, kx_a q_value cyI 1914 uv, kx_a q_number cyI 1914 un, kx_3 q_joined j_v j_n js jl je, kx_a j_v cyI 12 jv, kx_a j_n cyI 12 jn, kx_3 h0 a_v a_n vs lo le, kx_a a_v cyI 12 fv, kx_a a_n cyI 12 fn] sz) [kx_4 m_ q_row q_t t_ h0 k0 w_ z_ slots u.1, kx_2 q_t q_row q_joined q_from q_to q_size q_lossOf q_lessBy q_value q_number u.2.1 u.2.2.1, kx_0 q_row q_cell len, kx_a q_cell cyI 160 u.2.2.2.2.2.2.2.2.2.2.2.2.2.2.2.2.2.2.2.2, kx_a q_from cyI 319 u.2.2.2.1, kx_a q_to cyI 319 u.2.2.2.2.1, kx_a q_size cyI 319 u.2.2.2.2.2.1, kx_a q_lossOf cyI 319 u.2.2.2.2.2.2.1, kx_a q_lessBy cyI 319 u.2.2.2.2.2.2.2.1, kx_a q_value cyI 1914 u.2.2.2.2.2.2.2.2.1, kx_a q_number cyI 1914 u.2.2.2.2.2.2.2.2.2.1, kx_3 q_joined j_v j_n u.2.2.2.2.2.2.2.2.2.2.1 u.2.2.2.2.2.2.2.2.2.2.2.1 u.2.2.2.2.2.2.2.2.2.2.2.2.1, kx_a j_v cyI 12 u.2.2.2.2.2.2.2.2.2.2.2.2.2.1, kx_a j_n cyI 12 u.2.2.2.2.2.2.2.2.2.2.2.2.2.2.1, kx_3 h0 a_v a_n u.2.2.2.2.2.2.2.2.2.2.2.2.2.2.2.1 u.2.2.2.2.2.2.2.2.2.2.2.2.2.2.2.2.1 u.2.2.2.2.2.2.2.2.2.2.2.2.2.2.2.2.2.1, kx_a a_v cyI 12 u.2.2.2.2.2.2.2.2.2.2.2.2.2.2.2.2.2.2.1, kx_a a_n cyI 12 u.2.2.2.2.2.2.2.2.2.2.2.2.2.2.2.2.2.2.2.1]) (va_A [kx_4 m_ q_row q_t t_ h0 k0 w_ z_ slots old, kx_2 q_t q_row q_joined q_from q_to q_size q_lossOf q_lessBy q_value q_number nodes here, kx_0 q_row q_cell len, kx_a q_cell cyI 160 f, kx_a q_from cyI 319 ff, kx_a q_to cyI 319 ft, kx_a q_size cyI 319 fs, kx_a q_lossOf cyI 319 fo, kx_a q_lessBy cyI 319 fe, kx_a q_value cyI 1914 uv, kx_a q_number cyI 1914 un, kx_3 q_joined j_v j_n js jl je, kx_a j_v cyI 12 jv, kx_a j_n cyI 12 jn, kx_3 h0 a_v a_n vs lo le, kx_a a_v cyI 12 fv, kx_a a_n cyI 12 fn] sz)) 0 0 (va_A [kx_4 m_ q_row q_t t_ h0 k0 w_ z_ slots old, kx_2 q_t q_row q_joined q_from q_to q_size q_lossOf q_lessBy q_value q_number nodes here, kx_0 q_row q_cell len, kx_a q_cell cyI 160 f, kx_a q_from cyI 319 ff, kx_a q_to cyI 319 ft, kx_a q_size cyI 319 fs, kx_a q_lossOf cyI 319 fo, kx_a q_lessBy cyI 319 fe, kx_a q_value cyI 1914 uv, kx_a q_number cyI 1914 un, kx_3 q_joined j_v j_n js jl je, kx_a j_v cyI 12 jv, kx_a j_n cyI 12 jn, kx_3 h0 a_v a_n vs lo le, kx_a a_v cyI 12 fv, kx_a a_n cyI 12 fn] sz) := by
  refine Met.ofW (cc := cX4_swings) (maxL := 10) (ret := (some .int)) (by decide) rfl ?_
  intro p e s m args below meth c s₁ B hml hv
  obtain ⟨rfl, hsz, hP, hK, hD0⟩ := hv
  have hx := B.exec
  have hb := B.bytes
  have hr := B.returns
  have hts := atoms_spec (ws := wsX4_swings) B.pre
  have hown : s.vm.findClass RX4 = some m.cls := findClass_of_methodNamed B.named
  have hlocks := B.notSynchronized
  subst hsz
  have hD := hD0.self (sz := s.heap.size)
  generalize hAe : va_A [kx_4 m_ q_row q_t t_ h0 k0 w_ z_ slots old, kx_2 q_t q_row q_joined q_from q_to q_size q_lossOf q_lessBy q_value q_number nodes here, kx_0 q_row q_cell len, kx_a q_cell cyI 160 f, kx_a q_from cyI 319 ff, kx_a q_to cyI 319 ft, kx_a q_size cyI 319 fs, kx_a q_lossOf cyI 319 fo, kx_a q_lessBy cyI 319 fe, kx_a q_value cyI 1914 uv, kx_a q_number cyI 1914 un, kx_3 q_joined j_v j_n js jl je, kx_a j_v cyI 12 jv, kx_a j_n cyI 12 jn, kx_3 h0 a_v a_n vs lo le, kx_a a_v cyI 12 fv, kx_a a_n cyI 12 fn] s.heap.size = A at hD ⊢
  have hA : ∀ q : Nat, s.heap.size ≤ q → A q := fun q h => by rw [← hAe]; exact Or.inr h
  have hS : va_S A s.heap s.heap [] := va_S.rf
  have hP : va_P (dC, dI) vwCl [kx_4 m_ q_row q_t t_ h0 k0 w_ z_ slots old, kx_2 q_t q_row q_joined q_from q_to q_size q_lossOf q_lessBy q_value q_number nodes here, kx_0 q_row q_cell len, kx_a q_cell cyI 160 f, kx_a q_from cyI 319 ff, kx_a q_to cyI 319 ft, kx_a q_size cyI 319 fs, kx_a q_lossOf cyI 319 fo, kx_a q_lessBy cyI 319 fe, kx_a q_value cyI 1914 uv, kx_a q_number cyI 1914 un, kx_3 q_joined j_v j_n js jl je, kx_a j_v cyI 12 jv, kx_a j_n cyI 12 jn, kx_3 h0 a_v a_n vs lo le, kx_a a_v cyI 12 fv, kx_a a_n cyI 12 fn] s.heap := hP
  have hl := lv_entry ([.ref m_, .int p0, .int p1, .int p2, .int p3]) (n := 10) (Nat.le_of_ble_eq_true rfl)
  rw [lg_entry_eq]
  generalize (lg_sl ([.ref m_, .int p0, .int p1, .int p2, .int p3]) ++ List.replicate (10 - (lg_sl ([.ref m_, .int p0, .int p1, .int p2, .int p3])).length) Slot.unset).toArray = ls at hl ⊢
  have hl : lv_has ls 10 [(0, .ref m_), (1, .int p0), (2, .int p1), (3, .int p2), (4, .int p3)] := hl
  have hf_12 := hts (.fieldLink RX4 12 "MajorityIndex" "row" "LMajorityIndex$Row;") (List.mem_of_getElem? (i := 1) rfl)
  have hi_4 : ∀ w ∈ u_ws RX4 TX4 9, w ∈ wsX4_swings := fun w h => List.mem_cons_of_mem _ (List.mem_append_left _ (List.mem_append_left _ (List.mem_append_left _ (List.mem_append_right _ h))))
  refine lv_aload_n hx hb dX4_swings_0 rfl (lv_at hl 0 rfl) ?_
  refine va_get (D := (dC, dI)) (ci := 4) (v := .ref q_row) (C := RX4) (T := TX4) (N := 9) hx hb hts hi_4 hown hK hP 0 rfl rfl 0 (by decide) hf_12 (fun _ h9 => h9) rfl dX4_swings_1 ?_
  refine lv_iload_n hx hb dX4_swings_4 rfl (lv_at hl 1 rfl) ?_
  refine lv_iload_n hx hb dX4_swings_5 rfl (lv_at hl 2 rfl) ?_
  have hPc := hP.sub (ws' := [kx_0 q_row q_cell len]) [2] rfl
  have hKc := hK.sub (tys' := []) [] rfl
  refine vp_callSi (W.runV (As := [.int p0, .int p1]) (rest := []) ⟨hx, hb, hml, hown, hts⟩ (c_X0_hasRange l dC dI q_row q_cell len p0 p1) (cwV 2 hts gX4_swings_X0_hasRange rfl rfl rfl (by decide +kernel) ⟨Nat.le_of_ble_eq_true rfl, Nat.le_of_ble_eq_true rfl⟩) ⟨fun a U g mk q => by obtain ⟨q0, qP, qK⟩ := q; exact ⟨q0, qP, va_K.moved (u := U) (U := U.calling g mk a) (Vm.Alike.refl U.vm) qK⟩, va_recv hKc hPc (ci := 0) (q0 := 0) rfl rfl, fun U hU hW => ⟨rfl, by rw [hU]; exact hPc, va_K.moved hW.alike hKc⟩⟩ rfl rfl hl.1 rfl (lv_room (Nat.le_of_ble_eq_true rfl)) dX4_swings_6 ⟨Nat.le_of_ble_eq_true rfl, Nat.le_of_ble_eq_true rfl⟩) (fun r_1 w_1 => ?_)
  rcases w_1 with ⟨rfl, w_1⟩ | ⟨rfl, w_1⟩
  · have w_1 : (0 ≤ p0.toInt ∧ p0.toInt < p1.toInt ∧ p1.toInt ≤ len.toInt) := w_1
    refine lv_if_eq (tgt := 38) hx hb dX4_swings_9 (by decide) (fun c_2 => ?_) (fun c_2 => ?_)
    · exact absurd c_2 (by decide)
    · refine lv_iload_n hx hb dX4_swings_12 rfl (lv_at hl 2 rfl) ?_
      refine lv_iload_n hx hb dX4_swings_13 rfl (lv_at hl 1 rfl) ?_
      refine lv_isub hx hb dX4_swings_14 ?_
      refine lv_topi (fun y_3 ey_3 => ?_)
      have i_3 : y_3.toInt = p1.toInt - p0.toInt := ki_sub ey_3 rfl rfl (om_142 w_1.2.1) (om_143 a1 w_1.1 w_1.2.2)
      refine lv_bipush (v := 40) hx hb dX4_swings_15 (by decide) ?_
      refine lv_icmp_gt (tgt := 38) hx hb dX4_swings_17 (by decide) (fun c_4 => ?_) (fun c_4 => ?_)
      · have i_4 : 40 < y_3.toInt := kc_lt c_4
        refine lv_iconst (v := (-1)) hx hb dX4_swings_38 (by decide) ?_
        have hP9 := hP
        have hD9 := hD
        have hK9 := hK
        exact W.iret (v := (-1)) hx hb hr (fun t ht hW => ⟨⟨(-1), (old, nodes, here, ff, ft, fs, fo, fe, uv, un, js, jl, je, jv, jn, vs, lo, le, fv, fn, f), rfl, ⟨l0, s0, rfl⟩, by rw [ht]; exact hP9, va_K.moved hW.alike hK9, hD9⟩, hS.F ht⟩) hS.2.2 dX4_swings_39
      · have i_4 : y_3.toInt ≤ 40 := kc_nlt c_4
        refine lv_iload_n hx hb dX4_swings_20 rfl (lv_at hl 3 rfl) ?_
        have hPc := hP.sub (ws' := []) [] rfl
        have hKc := hK.sub (tys' := []) [] rfl
        refine vp_callSi (W.runS (As := [.int p2]) (rest := []) ⟨hx, hb, hml, hown, hts⟩ (c_X4_isValue l dC dI p2) (va_cwS 1 hts gX4_swings_X4_isValue rfl rfl rfl (by decide +kernel) ⟨Nat.le_of_ble_eq_true rfl, Nat.le_of_ble_eq_true rfl⟩) ⟨fun a U g mk q => by obtain ⟨q0, qP, qK⟩ := q; exact ⟨q0, qP, va_K.moved (u := U) (U := U.calling g mk a) (Vm.Alike.refl U.vm) qK⟩, fun U hU hW => ⟨rfl, by rw [hU]; exact hPc, va_K.moved hW.alike hKc⟩⟩ rfl rfl hl.1 rfl (lv_room (Nat.le_of_ble_eq_true rfl)) dX4_swings_21 ⟨Nat.le_of_ble_eq_true rfl, Nat.le_of_ble_eq_true rfl⟩) (fun r_5 w_5 => ?_)
        rcases w_5 with ⟨rfl, w_5⟩ | ⟨rfl, w_5⟩
        · have w_5 : (-32768 ≤ p2.toInt ∧ p2.toInt ≤ 32767) := w_5
          refine lv_if_eq (tgt := 38) hx hb dX4_swings_24 (by decide) (fun c_6 => ?_) (fun c_6 => ?_)
          · exact absurd c_6 (by decide)
          · refine lv_iload hx hb dX4_swings_27 (lv_at hl 4 rfl) ?_
            refine lv_if_lt (tgt := 38) hx hb dX4_swings_29 (by decide) (fun c_7 => ?_) (fun c_7 => ?_)
            · have i_7 : p3.toInt < 0 := kc_lt c_7
              refine lv_iconst (v := (-1)) hx hb dX4_swings_38 (by decide) ?_
              have hP9 := hP
              have hD9 := hD
              have hK9 := hK
              exact W.iret (v := (-1)) hx hb hr (fun t ht hW => ⟨⟨(-1), (old, nodes, here, ff, ft, fs, fo, fe, uv, un, js, jl, je, jv, jn, vs, lo, le, fv, fn, f), rfl, ⟨l0, s0, rfl⟩, by rw [ht]; exact hP9, va_K.moved hW.alike hK9, hD9⟩, hS.F ht⟩) hS.2.2 dX4_swings_39
            · have i_7 : 0 ≤ p3.toInt := kc_nlt c_7
              refine lv_iload hx hb dX4_swings_32 (lv_at hl 4 rfl) ?_
              refine lv_iconst (v := 1) hx hb dX4_swings_34 (by decide) ?_
              refine lv_icmp_le (tgt := 40) hx hb dX4_swings_35 (by decide) (fun c_8 => ?_) (fun c_8 => ?_)
              · have i_8 : p3.toInt ≤ 1 := kc_le c_8
                refine lv_aload_n hx hb dX4_swings_40 rfl (lv_at hl 0 rfl) ?_
                obtain ⟨hPc, hDc, hFc, hCc⟩ := kx_pre (wc := [kx_4 m_ q_row q_t t_ h0 k0 w_ z_ slots old, kx_2 q_t q_row q_joined q_from q_to q_size q_lossOf q_lessBy q_value q_number nodes here, kx_0 q_row q_cell len, kx_a q_cell cyI 160 f, kx_a q_from cyI 319 ff, kx_a q_to cyI 319 ft, kx_a q_size cyI 319 fs, kx_a q_lossOf cyI 319 fo, kx_a q_lessBy cyI 319 fe, kx_a q_value cyI 1914 uv, kx_a q_number cyI 1914 un, kx_3 q_joined j_v j_n js jl je, kx_a j_v cyI 12 jv, kx_a j_n cyI 12 jn]) hP hD hS hA [0, 1, 2, 3, 4, 5, 6, 7, 8, 9, 10, 11, 12, 13] (by decide) rfl
                have hKc := hK
                refine va_callr (va_runV (As := []) (rest := []) ⟨hx, hb, hml, hown, hts⟩ (c_X4_laidTree_x l dC dI m_ q_row q_t t_ h0 k0 w_ z_ slots old q_joined q_from q_to q_size q_lossOf q_lessBy q_value q_number nodes here q_cell cyI len f ff ft fs fo uv un fe j_v j_n js jl je jv jn s.heap.size a0 a1 s0 sl0 sl1 l0) (cwV 0 hts gX4_swings_X4_laidTree rfl rfl rfl (by decide +kernel) ⟨Nat.le_of_ble_eq_true rfl, Nat.le_of_ble_eq_true rfl⟩) ⟨fun a U g mk q => by obtain ⟨q0, q1, qP, qK, qD⟩ := q; exact ⟨q0, q1, qP, va_K.moved (u := U) (U := U.calling g mk a) (Vm.Alike.refl U.vm) qK, qD⟩, va_recv hKc hPc (ci := 4) (q0 := 0) rfl rfl, fun U hU hW => ⟨rfl, by rw [hU], by rw [hU]; exact hPc, va_K.moved hW.alike hKc, hDc.weaken (fun _ _ _ _ => trivial)⟩⟩ rfl rfl hl.1 rfl (lv_room (Nat.le_of_ble_eq_true rfl)) dX4_swings_41 ⟨Nat.le_of_ble_eq_true rfl, Nat.le_of_ble_eq_true rfl⟩) hS (fun q _ h => hFc q h) hFc (fun u ra t H1 locs ht hvm w_9 hB hz1 hk1 hS => ?_)
                obtain ⟨o_10, o_11, o_12, o_13, o_14, o_15, o_16, o_17, o_18, o_19, o_20, o_21, o_22, o_23, o_24⟩ := u
                dsimp only at w_9 hB
                obtain ⟨er, hP1, hK1, hD1⟩ := hB
                rw [ht] at hP1
                have hK1 := va_K.moved hvm.symm hK1
                obtain ⟨hP, hD⟩ := kx_join (w2 := [kx_3 h0 a_v a_n vs lo le, kx_a a_v cyI 12 fv, kx_a a_n cyI 12 fn, kx_4 m_ q_row q_t t_ h0 k0 w_ z_ slots o_10, kx_2 q_t q_row q_joined q_from q_to q_size q_lossOf q_lessBy q_value q_number o_11 o_12, kx_0 q_row q_cell len, kx_a q_cell cyI 160 f, kx_a q_from cyI 319 o_13, kx_a q_to cyI 319 o_14, kx_a q_size cyI 319 o_15, kx_a q_lossOf cyI 319 o_16, kx_a q_lessBy cyI 319 o_17, kx_a q_value cyI 1914 o_18, kx_a q_number cyI 1914 o_19, kx_3 q_joined j_v j_n o_20 o_21 o_22, kx_a j_v cyI 12 o_23, kx_a j_n cyI 12 o_24]) hP hD hP1 hD1 hk1 hFc [0, 1, 2, 3, 4, 5, 6, 7, 8, 9, 10, 11, 12, 13] [14, 15, 16] hCc rfl (by decide) (by decide)
                clear hP1 hD1 hK1 hk1 hz1 hFc hDc hPc hKc hCc
                generalize H1 = H at hP hS ⊢
                have w_9 : o_10.toInt = 0 ∧ o_12 = slots ∧ sixes o_15 ∧ mj_C slots.toNatClampNeg f o_13 o_14 o_15 o_16 o_17 o_18 o_19 o_11.toInt len.toInt ∧ 0 ≤ o_11.toInt ∧ o_11.toInt ≤ 319 ∧ treeOk o_13 o_14 o_11.toInt len.toInt := w_9
                rw [er]
                refine lv_astore (lv' := [(5, .ref q_t), (0, .ref m_), (1, .int p0), (2, .int p1), (3, .int p2), (4, .int p3)]) hx hb dX4_swings_44 hl (by decide) rfl (fun ls hl => ?_)
                refine lv_iconst (v := (-1)) hx hb dX4_swings_46 (by decide) ?_
                refine lv_istore (lv' := [(6, .int (-1)), (5, .ref q_t), (0, .ref m_), (1, .int p0), (2, .int p1), (3, .int p2), (4, .int p3)]) hx hb dX4_swings_47 hl (by decide) rfl (fun ls hl => ?_)
                refine lv_iconst (v := (-1)) hx hb dX4_swings_49 (by decide) ?_
                refine lv_istore (lv' := [(7, .int (-1)), (6, .int (-1)), (5, .ref q_t), (0, .ref m_), (1, .int p0), (2, .int p1), (3, .int p2), (4, .int p3)]) hx hb dX4_swings_50 hl (by decide) rfl (fun ls hl => ?_)
                refine lv_iload_n hx hb dX4_swings_52 rfl (lv_at hl 4 rfl) ?_
                refine lv_istore (lv' := [(8, .int p0), (7, .int (-1)), (6, .int (-1)), (5, .ref q_t), (0, .ref m_), (1, .int p0), (2, .int p1), (3, .int p2), (4, .int p3)]) hx hb dX4_swings_53 hl (by decide) rfl (fun ls hl => ?_)
                have LP1 : ∀ (n : Nat) (i : Int32) (bp : Int32) (bt : Int32) (gc : Nat → Int32) (g_s : Nat → Int32) (g_o : Nat → Int32) (g_e : Nat → Int32) (g_v : Nat → Int32) (g_n : Nat → Int32) (g_js : Int32) (g_jl : Int32) (g_je : Int32) (g_jv : Nat → Int32) (g_jn : Nat → Int32) (g_vs : Int32) (g_vl : Int32) (g_ve : Int32) (g_vv : Nat → Int32) (g_vn : Nat → Int32), (p0.toInt ≤ i.toInt) → (sixes g_s) → (gc = f) → (mj_C o_12.toNatClampNeg f o_13 o_14 g_s g_o g_e g_v g_n o_11.toInt len.toInt) → (p1.toInt - i.toInt).toNat < n → ∀ (H : Heap) (locs : List Loc), va_P (dC, dI) vwCl [kx_3 h0 a_v a_n g_vs g_vl g_ve, kx_a a_v cyI 12 g_vv, kx_a a_n cyI 12 g_vn, kx_4 m_ q_row q_t t_ h0 k0 w_ z_ slots o_10, kx_2 q_t q_row q_joined q_from q_to q_size q_lossOf q_lessBy q_value q_number o_11 o_12, kx_0 q_row q_cell len, kx_a q_cell cyI 160 gc, kx_a q_from cyI 319 o_13, kx_a q_to cyI 319 o_14, kx_a q_size cyI 319 g_s, kx_a q_lossOf cyI 319 g_o, kx_a q_lessBy cyI 319 g_e, kx_a q_value cyI 1914 g_v, kx_a q_number cyI 1914 g_n, kx_3 q_joined j_v j_n g_js g_jl g_je, kx_a j_v cyI 12 g_jv, kx_a j_n cyI 12 g_jn] H → va_D A [kx_3 h0 a_v a_n g_vs g_vl g_ve, kx_a a_v cyI 12 g_vv, kx_a a_n cyI 12 g_vn, kx_4 m_ q_row q_t t_ h0 k0 w_ z_ slots o_10, kx_2 q_t q_row q_joined q_from q_to q_size q_lossOf q_lessBy q_value q_number o_11 o_12, kx_0 q_row q_cell len, kx_a q_cell cyI 160 gc, kx_a q_from cyI 319 o_13, kx_a q_to cyI 319 o_14, kx_a q_size cyI 319 g_s, kx_a q_lossOf cyI 319 g_o, kx_a q_lessBy cyI 319 g_e, kx_a q_value cyI 1914 g_v, kx_a q_number cyI 1914 g_n, kx_3 q_joined j_v j_n g_js g_jl g_je, kx_a j_v cyI 12 g_jv, kx_a j_n cyI 12 g_jn] → va_S A s.heap H locs → ∀ (ls : Array Slot), lv_has ls 10 [(8, .int i), (7, .int bt), (6, .int bp), (5, .ref q_t), (0, .ref m_), (1, .int p0), (2, .int p1), (3, .int p2), (4, .int p3)] → W p l e (headSpec wsX4_swings ({ frames := 6, cells := 0, slots := 0, locals := 270 })).room s m ([.ref m_, .int p0, .int p1, .int p2, .int p3] : List Value).toArray below meth c H locs 0 0 (MQ below (va_Qi (fun (r : Int32) (u : Int32 × Int32 × Int32 × (Nat → Int32) × (Nat → Int32) × (Nat → Int32) × (Nat → Int32) × (Nat → Int32) × (Nat → Int32) × (Nat → Int32) × Int32 × Int32 × Int32 × (Nat → Int32) × (Nat → Int32) × Int32 × Int32 × Int32 × (Nat → Int32) × (Nat → Int32) × (Nat → Int32)) => laidX u.1 slots u.2.2.1 u.2.2.2.2.2.2.2.2.2.2.2.2.2.2.2.2.2.2.2.2 u.2.2.2.1 u.2.2.2.2.1 u.2.2.2.2.2.1 u.2.2.2.2.2.2.1 u.2.2.2.2.2.2.2.1 u.2.2.2.2.2.2.2.2.1 u.2.2.2.2.2.2.2.2.2.1 u.2.1 len ∧ sixes u.2.2.2.2.2.1 ∧ u.2.2.2.2.2.2.2.2.2.2.2.2.2.2.2.2.2.2.2.2 = f) (fun (u : Int32 × Int32 × Int32 × (Nat → Int32) × (Nat → Int32) × (Nat → Int32) × (Nat → Int32) × (Nat → Int32) × (Nat → Int32) × (Nat → Int32) × Int32 × Int32 × Int32 × (Nat → Int32) × (Nat → Int32) × Int32 × Int32 × Int32 × (Nat → Int32) × (Nat → Int32) × (Nat → Int32)) (t : State) => va_P (dC, dI) vwCl [kx_4 m_ q_row q_t t_ h0 k0 w_ z_ slots u.1, kx_2 q_t q_row q_joined q_from q_to q_size q_lossOf q_lessBy q_value q_number u.2.1 u.2.2.1, kx_0 q_row q_cell len, kx_a q_cell cyI 160 u.2.2.2.2.2.2.2.2.2.2.2.2.2.2.2.2.2.2.2.2, kx_a q_from cyI 319 u.2.2.2.1, kx_a q_to cyI 319 u.2.2.2.2.1, kx_a q_size cyI 319 u.2.2.2.2.2.1, kx_a q_lossOf cyI 319 u.2.2.2.2.2.2.1, kx_a q_lessBy cyI 319 u.2.2.2.2.2.2.2.1, kx_a q_value cyI 1914 u.2.2.2.2.2.2.2.2.1, kx_a q_number cyI 1914 u.2.2.2.2.2.2.2.2.2.1, kx_3 q_joined j_v j_n u.2.2.2.2.2.2.2.2.2.2.1 u.2.2.2.2.2.2.2.2.2.2.2.1 u.2.2.2.2.2.2.2.2.2.2.2.2.1, kx_a j_v cyI 12 u.2.2.2.2.2.2.2.2.2.2.2.2.2.1, kx_a j_n cyI 12 u.2.2.2.2.2.2.2.2.2.2.2.2.2.2.1, kx_3 h0 a_v a_n u.2.2.2.2.2.2.2.2.2.2.2.2.2.2.2.1 u.2.2.2.2.2.2.2.2.2.2.2.2.2.2.2.2.1 u.2.2.2.2.2.2.2.2.2.2.2.2.2.2.2.2.2.1, kx_a a_v cyI 12 u.2.2.2.2.2.2.2.2.2.2.2.2.2.2.2.2.2.2.1, kx_a a_n cyI 12 u.2.2.2.2.2.2.2.2.2.2.2.2.2.2.2.2.2.2.2.1] t.heap ∧ va_K (dC, dI) vwCl [(cyI, .int)] t ∧ va_D A [kx_4 m_ q_row q_t t_ h0 k0 w_ z_ slots u.1, kx_2 q_t q_row q_joined q_from q_to q_size q_lossOf q_lessBy q_value q_number u.2.1 u.2.2.1, kx_0 q_row q_cell len, kx_a q_cell cyI 160 u.2.2.2.2.2.2.2.2.2.2.2.2.2.2.2.2.2.2.2.2, kx_a q_from cyI 319 u.2.2.2.1, kx_a q_to cyI 319 u.2.2.2.2.1, kx_a q_size cyI 319 u.2.2.2.2.2.1, kx_a q_lossOf cyI 319 u.2.2.2.2.2.2.1, kx_a q_lessBy cyI 319 u.2.2.2.2.2.2.2.1, kx_a q_value cyI 1914 u.2.2.2.2.2.2.2.2.1, kx_a q_number cyI 1914 u.2.2.2.2.2.2.2.2.2.1, kx_3 q_joined j_v j_n u.2.2.2.2.2.2.2.2.2.2.1 u.2.2.2.2.2.2.2.2.2.2.2.1 u.2.2.2.2.2.2.2.2.2.2.2.2.1, kx_a j_v cyI 12 u.2.2.2.2.2.2.2.2.2.2.2.2.2.1, kx_a j_n cyI 12 u.2.2.2.2.2.2.2.2.2.2.2.2.2.2.1, kx_3 h0 a_v a_n u.2.2.2.2.2.2.2.2.2.2.2.2.2.2.2.1 u.2.2.2.2.2.2.2.2.2.2.2.2.2.2.2.2.1 u.2.2.2.2.2.2.2.2.2.2.2.2.2.2.2.2.2.1, kx_a a_v cyI 12 u.2.2.2.2.2.2.2.2.2.2.2.2.2.2.2.2.2.2.1, kx_a a_n cyI 12 u.2.2.2.2.2.2.2.2.2.2.2.2.2.2.2.2.2.2.2.1]) A) ([.ref m_, .int p0, .int p1, .int p2, .int p3] : List Value).toArray s 0 0 A) (F0 m 55 ls []) := by
                  intro n
                  induction n with
                  | zero => intro i bp bt gc g_s g_o g_e g_v g_n g_js g_jl g_je g_jv g_jn g_vs g_vl g_ve g_vv g_vn LP1_h0 LP1_h1 LP1_h2 LP1_h3 hn; exact absurd hn (Nat.not_lt_zero _)
                  | succ n ih1 =>
                    intro i bp bt gc g_s g_o g_e g_v g_n g_js g_jl g_je g_jv g_jn g_vs g_vl g_ve g_vv g_vn LP1_h0 LP1_h1 LP1_h2 LP1_h3 hn1 H locs hP hD hS ls hl
                    refine lv_iload hx hb dX4_swings_55 (lv_at hl 0 rfl) ?_
                    refine lv_iload_n hx hb dX4_swings_57 rfl (lv_at hl 6 rfl) ?_
                    refine lv_icmp_ge (tgt := 93) hx hb dX4_swings_58 (by decide) (fun c_25 => ?_) (fun c_25 => ?_)
                    · have i_25 : p1.toInt ≤ i.toInt := kc_le c_25
                      refine lv_iload hx hb dX4_swings_93 (lv_at hl 8 rfl) ?_
                      refine lv_if_ne (tgt := 103) hx hb dX4_swings_95 (by decide) (fun c_26 => ?_) (fun c_26 => ?_)
                      · have i_26 : ¬ p3.toInt = 0 := kc_ne c_26
                        refine lv_iload hx hb dX4_swings_103 (lv_at hl 1 rfl) ?_
                        obtain ⟨hP9, hD9⟩ := kx_sub (w2 := [kx_4 m_ q_row q_t t_ h0 k0 w_ z_ slots o_10, kx_2 q_t q_row q_joined q_from q_to q_size q_lossOf q_lessBy q_value q_number o_11 o_12, kx_0 q_row q_cell len, kx_a q_cell cyI 160 gc, kx_a q_from cyI 319 o_13, kx_a q_to cyI 319 o_14, kx_a q_size cyI 319 g_s, kx_a q_lossOf cyI 319 g_o, kx_a q_lessBy cyI 319 g_e, kx_a q_value cyI 1914 g_v, kx_a q_number cyI 1914 g_n, kx_3 q_joined j_v j_n g_js g_jl g_je, kx_a j_v cyI 12 g_jv, kx_a j_n cyI 12 g_jn, kx_3 h0 a_v a_n g_vs g_vl g_ve, kx_a a_v cyI 12 g_vv, kx_a a_n cyI 12 g_vn]) hP hD [3, 4, 5, 6, 7, 8, 9, 10, 11, 12, 13, 14, 15, 16, 0, 1, 2] (by decide) rfl
                        have hK9 := hK
                        exact W.iret (v := bt) hx hb hr (fun t ht hW => ⟨⟨bt, (o_10, o_11, o_12, o_13, o_14, g_s, g_o, g_e, g_v, g_n, g_js, g_jl, g_je, g_jv, g_jn, g_vs, g_vl, g_ve, g_vv, g_vn, gc), rfl, ⟨(fun _ => ⟨w_9.2.1, (by (try dsimp only); have h9 := LP1_h3; rw [w_9.2.1] at h9; (try rw [LP1_h2]); exact h9)⟩), LP1_h1, LP1_h2⟩, by rw [ht]; exact hP9, va_K.moved hW.alike hK9, hD9⟩, hS.F ht⟩) hS.2.2 dX4_swings_105
                      · have i_26 : p3.toInt = 0 := kc_eq c_26
                        refine lv_iload hx hb dX4_swings_98 (lv_at hl 2 rfl) ?_
                        refine lv_goto (tgt := 105) hx hb dX4_swings_100 (by decide) ?_
                        obtain ⟨hP9, hD9⟩ := kx_sub (w2 := [kx_4 m_ q_row q_t t_ h0 k0 w_ z_ slots o_10, kx_2 q_t q_row q_joined q_from q_to q_size q_lossOf q_lessBy q_value q_number o_11 o_12, kx_0 q_row q_cell len, kx_a q_cell cyI 160 gc, kx_a q_from cyI 319 o_13, kx_a q_to cyI 319 o_14, kx_a q_size cyI 319 g_s, kx_a q_lossOf cyI 319 g_o, kx_a q_lessBy cyI 319 g_e, kx_a q_value cyI 1914 g_v, kx_a q_number cyI 1914 g_n, kx_3 q_joined j_v j_n g_js g_jl g_je, kx_a j_v cyI 12 g_jv, kx_a j_n cyI 12 g_jn, kx_3 h0 a_v a_n g_vs g_vl g_ve, kx_a a_v cyI 12 g_vv, kx_a a_n cyI 12 g_vn]) hP hD [3, 4, 5, 6, 7, 8, 9, 10, 11, 12, 13, 14, 15, 16, 0, 1, 2] (by decide) rfl
                        have hK9 := hK
                        exact W.iret (v := bp) hx hb hr (fun t ht hW => ⟨⟨bp, (o_10, o_11, o_12, o_13, o_14, g_s, g_o, g_e, g_v, g_n, g_js, g_jl, g_je, g_jv, g_jn, g_vs, g_vl, g_ve, g_vv, g_vn, gc), rfl, ⟨(fun _ => ⟨w_9.2.1, (by (try dsimp only); have h9 := LP1_h3; rw [w_9.2.1] at h9; (try rw [LP1_h2]); exact h9)⟩), LP1_h1, LP1_h2⟩, by rw [ht]; exact hP9, va_K.moved hW.alike hK9, hD9⟩, hS.F ht⟩) hS.2.2 dX4_swings_105
                    · have i_25 : i.toInt < p1.toInt := kc_nle c_25
                      refine lv_aload_n hx hb dX4_swings_61 rfl (lv_at hl 4 rfl) ?_
                      refine lv_aload hx hb dX4_swings_62 (lv_at hl 3 rfl) ?_
                      refine lv_iload hx hb dX4_swings_64 (lv_at hl 0 rfl) ?_
                      refine lv_iload_n hx hb dX4_swings_66 rfl (lv_at hl 7 rfl) ?_
                      obtain ⟨hPc, hDc, hFc, hCc⟩ := kx_pre (wc := [kx_4 m_ q_row q_t t_ h0 k0 w_ z_ slots o_10, kx_2 q_t q_row q_joined q_from q_to q_size q_lossOf q_lessBy q_value q_number o_11 o_12, kx_0 q_row q_cell len, kx_a q_cell cyI 160 gc, kx_a q_from cyI 319 o_13, kx_a q_to cyI 319 o_14, kx_a q_size cyI 319 g_s, kx_a q_lossOf cyI 319 g_o, kx_a q_lessBy cyI 319 g_e, kx_a q_value cyI 1914 g_v, kx_a q_number cyI 1914 g_n, kx_3 q_joined j_v j_n g_js g_jl g_je, kx_a j_v cyI 12 g_jv, kx_a j_n cyI 12 g_jn, kx_3 h0 a_v a_n g_vs g_vl g_ve, kx_a a_v cyI 12 g_vv, kx_a a_n cyI 12 g_vn]) hP hD hS hA [3, 4, 5, 6, 7, 8, 9, 10, 11, 12, 13, 14, 15, 16, 0, 1, 2] (by decide) rfl
                      have hKc := hK
                      refine va_calli (va_runV (As := [.ref q_t, .int i, .int p2]) (rest := []) ⟨hx, hb, hml, hown, hts⟩ (c_X4_rootTotalWith_x l dC dI m_ q_row q_t t_ h0 k0 w_ z_ slots o_10 q_joined q_from q_to q_size q_lossOf q_lessBy q_value q_number o_11 o_12 q_cell cyI len gc o_13 o_14 g_s g_o g_v g_n g_e j_v j_n g_js g_jl g_je g_jv g_jn a_v a_n g_vs g_vl g_ve g_vv g_vn i p2 H.size w_9.2.2.2.2.1 w_9.2.2.2.2.2.1 a1 LP1_h1 w_9.2.2.2.2.2.2 (by rw [w_9.2.1]; omega) (by rw [w_9.2.1]; omega) (by rw [LP1_h2]; exact LP1_h3) (om_0 w_1.1 LP1_h0) (om_184 a1 w_1.2.2 i_25)) (cwV 3 hts gX4_swings_X4_rootTotalWith rfl rfl rfl (by decide +kernel) ⟨Nat.le_of_ble_eq_true rfl, Nat.le_of_ble_eq_true rfl⟩) ⟨fun a U g mk q => by obtain ⟨q0, q1, qP, qK, qD⟩ := q; exact ⟨q0, q1, qP, va_K.moved (u := U) (U := U.calling g mk a) (Vm.Alike.refl U.vm) qK, qD⟩, va_recv hKc hPc (ci := 4) (q0 := 0) rfl rfl, fun U hU hW => ⟨rfl, by rw [hU], by rw [hU]; exact hPc, va_K.moved hW.alike hKc, hDc.weaken (fun _ _ _ _ => trivial)⟩⟩ rfl rfl hl.1 rfl (lv_room (Nat.le_of_ble_eq_true rfl)) dX4_swings_67 ⟨Nat.le_of_ble_eq_true rfl, Nat.le_of_ble_eq_true rfl⟩) hS (fun q _ h => hFc q h) hFc (fun r_27 u t H1 locs ht hvm w_27 hB hz1 hk1 hS => ?_)
                      obtain ⟨o_28, o_29, o_30, o_31, o_32, o_33, o_34, o_35, o_36, o_37, o_38, o_39, o_40, o_41, o_42, o_43⟩ := u
                      dsimp only at w_27 hB
                      obtain ⟨hP1, hK1, hD1⟩ := hB
                      rw [ht] at hP1
                      have hK1 := va_K.moved hvm.symm hK1
                      obtain ⟨hP, hD⟩ := kx_join (w2 := [kx_4 m_ q_row q_t t_ h0 k0 w_ z_ slots o_10, kx_2 q_t q_row q_joined q_from q_to q_size q_lossOf q_lessBy q_value q_number o_11 o_12, kx_0 q_row q_cell len, kx_a q_cell cyI 160 o_28, kx_a q_from cyI 319 o_13, kx_a q_to cyI 319 o_14, kx_a q_size cyI 319 o_29, kx_a q_lossOf cyI 319 o_30, kx_a q_lessBy cyI 319 o_31, kx_a q_value cyI 1914 o_32, kx_a q_number cyI 1914 o_33, kx_3 q_joined j_v j_n o_34 o_35 o_36, kx_a j_v cyI 12 o_37, kx_a j_n cyI 12 o_38, kx_3 h0 a_v a_n o_39 o_40 o_41, kx_a a_v cyI 12 o_42, kx_a a_n cyI 12 o_43]) hP hD hP1 hD1 hk1 hFc [3, 4, 5, 6, 7, 8, 9, 10, 11, 12, 13, 14, 15, 16, 0, 1, 2] [] hCc rfl (by decide) (by decide)
                      clear hP1 hD1 hK1 hk1 hz1 hFc hDc hPc hKc hCc
                      generalize H1 = H at hP hS ⊢
                      have w_27 : o_28 = gc ∧ sixes o_29 ∧ mj_C o_12.toNatClampNeg gc o_13 o_14 o_29 o_30 o_31 o_32 o_33 o_11.toInt len.toInt := w_27
                      refine lv_istore (lv' := [(9, .int r_27), (8, .int i), (7, .int bt), (6, .int bp), (5, .ref q_t), (0, .ref m_), (1, .int p0), (2, .int p1), (3, .int p2), (4, .int p3)]) hx hb dX4_swings_70 hl (by decide) rfl (fun ls hl => ?_)
                      refine lv_iload hx hb dX4_swings_72 (lv_at hl 0 rfl) ?_
                      refine lv_iload hx hb dX4_swings_74 (lv_at hl 2 rfl) ?_
                      refine lv_icmp_le (tgt := 87) hx hb dX4_swings_76 (by decide) (fun c_44 => ?_) (fun c_44 => ?_)
                      · have i_44 : r_27.toInt ≤ bt.toInt := kc_le c_44
                        obtain ⟨x_45, ex_45⟩ : ∃ y : Int32, y = i + 1 := ⟨_, rfl⟩
                        have i_45 : x_45.toInt = i.toInt + 1 := ki_add ex_45 rfl rfl (om_2 w_1.1 LP1_h0) (om_146 a1 w_1.2.2 i_25)
                        refine lv_iinc (v := x_45) (lv' := [(8, .int x_45), (9, .int r_27), (7, .int bt), (6, .int bp), (5, .ref q_t), (0, .ref m_), (1, .int p0), (2, .int p1), (3, .int p2), (4, .int p3)]) hx hb dX4_swings_87 hl (k := 1) rfl (by rw [ex_45]; rfl) (by decide) rfl (fun ls hl => ?_)
                        refine lv_goto (tgt := 55) hx hb dX4_swings_90 (by decide) ?_
                        have hP : va_P (dC, dI) vwCl [kx_3 h0 a_v a_n o_39 o_40 o_41, kx_a a_v cyI 12 o_42, kx_a a_n cyI 12 o_43, kx_4 m_ q_row q_t t_ h0 k0 w_ z_ slots o_10, kx_2 q_t q_row q_joined q_from q_to q_size q_lossOf q_lessBy q_value q_number o_11 o_12, kx_0 q_row q_cell len, kx_a q_cell cyI 160 o_28, kx_a q_from cyI 319 o_13, kx_a q_to cyI 319 o_14, kx_a q_size cyI 319 o_29, kx_a q_lossOf cyI 319 o_30, kx_a q_lessBy cyI 319 o_31, kx_a q_value cyI 1914 o_32, kx_a q_number cyI 1914 o_33, kx_3 q_joined j_v j_n o_34 o_35 o_36, kx_a j_v cyI 12 o_37, kx_a j_n cyI 12 o_38] _ := hP.sub [14, 15, 16, 0, 1, 2, 3, 4, 5, 6, 7, 8, 9, 10, 11, 12, 13] rfl
                        have hD : va_D A [kx_3 h0 a_v a_n o_39 o_40 o_41, kx_a a_v cyI 12 o_42, kx_a a_n cyI 12 o_43, kx_4 m_ q_row q_t t_ h0 k0 w_ z_ slots o_10, kx_2 q_t q_row q_joined q_from q_to q_size q_lossOf q_lessBy q_value q_number o_11 o_12, kx_0 q_row q_cell len, kx_a q_cell cyI 160 o_28, kx_a q_from cyI 319 o_13, kx_a q_to cyI 319 o_14, kx_a q_size cyI 319 o_29, kx_a q_lossOf cyI 319 o_30, kx_a q_lessBy cyI 319 o_31, kx_a q_value cyI 1914 o_32, kx_a q_number cyI 1914 o_33, kx_3 q_joined j_v j_n o_34 o_35 o_36, kx_a j_v cyI 12 o_37, kx_a j_n cyI 12 o_38] := hD.sub [14, 15, 16, 0, 1, 2, 3, 4, 5, 6, 7, 8, 9, 10, 11, 12, 13] (by decide) rfl
                        exact ih1 x_45 bp bt o_28 o_29 o_30 o_31 o_32 o_33 o_34 o_35 o_36 o_37 o_38 o_39 o_40 o_41 o_42 o_43 (om_4 LP1_h0 i_45) w_27.2.1 (w_27.1.trans LP1_h2) (by have h9 := w_27.2.2; rw [LP1_h2] at h9; exact h9) (om_mu hn1 (om_5 i_45) (om_6 i_25)) _ _ hP hD hS ls (lv_sub hl [0, 2, 3, 4, 5, 6, 7, 8, 9] rfl)
                      · have i_44 : bt.toInt < r_27.toInt := kc_nle c_44
                        refine lv_iload hx hb dX4_swings_79 (lv_at hl 1 rfl) ?_
                        refine lv_istore (lv' := [(6, .int i), (9, .int r_27), (8, .int i), (7, .int bt), (5, .ref q_t), (0, .ref m_), (1, .int p0), (2, .int p1), (3, .int p2), (4, .int p3)]) hx hb dX4_swings_81 hl (by decide) rfl (fun ls hl => ?_)
                        refine lv_iload hx hb dX4_swings_83 (lv_at hl 1 rfl) ?_
                        refine lv_istore (lv' := [(7, .int r_27), (6, .int i), (9, .int r_27), (8, .int i), (5, .ref q_t), (0, .ref m_), (1, .int p0), (2, .int p1), (3, .int p2), (4, .int p3)]) hx hb dX4_swings_85 hl (by decide) rfl (fun ls hl => ?_)
                        obtain ⟨x_46, ex_46⟩ : ∃ y : Int32, y = i + 1 := ⟨_, rfl⟩
                        have i_46 : x_46.toInt = i.toInt + 1 := ki_add ex_46 rfl rfl (om_2 w_1.1 LP1_h0) (om_146 a1 w_1.2.2 i_25)
                        refine lv_iinc (v := x_46) (lv' := [(8, .int x_46), (7, .int r_27), (6, .int i), (9, .int r_27), (5, .ref q_t), (0, .ref m_), (1, .int p0), (2, .int p1), (3, .int p2), (4, .int p3)]) hx hb dX4_swings_87 hl (k := 3) rfl (by rw [ex_46]; rfl) (by decide) rfl (fun ls hl => ?_)
                        refine lv_goto (tgt := 55) hx hb dX4_swings_90 (by decide) ?_
                        have hP : va_P (dC, dI) vwCl [kx_3 h0 a_v a_n o_39 o_40 o_41, kx_a a_v cyI 12 o_42, kx_a a_n cyI 12 o_43, kx_4 m_ q_row q_t t_ h0 k0 w_ z_ slots o_10, kx_2 q_t q_row q_joined q_from q_to q_size q_lossOf q_lessBy q_value q_number o_11 o_12, kx_0 q_row q_cell len, kx_a q_cell cyI 160 o_28, kx_a q_from cyI 319 o_13, kx_a q_to cyI 319 o_14, kx_a q_size cyI 319 o_29, kx_a q_lossOf cyI 319 o_30, kx_a q_lessBy cyI 319 o_31, kx_a q_value cyI 1914 o_32, kx_a q_number cyI 1914 o_33, kx_3 q_joined j_v j_n o_34 o_35 o_36, kx_a j_v cyI 12 o_37, kx_a j_n cyI 12 o_38] _ := hP.sub [14, 15, 16, 0, 1, 2, 3, 4, 5, 6, 7, 8, 9, 10, 11, 12, 13] rfl
                        have hD : va_D A [kx_3 h0 a_v a_n o_39 o_40 o_41, kx_a a_v cyI 12 o_42, kx_a a_n cyI 12 o_43, kx_4 m_ q_row q_t t_ h0 k0 w_ z_ slots o_10, kx_2 q_t q_row q_joined q_from q_to q_size q_lossOf q_lessBy q_value q_number o_11 o_12, kx_0 q_row q_cell len, kx_a q_cell cyI 160 o_28, kx_a q_from cyI 319 o_13, kx_a q_to cyI 319 o_14, kx_a q_size cyI 319 o_29, kx_a q_lossOf cyI 319 o_30, kx_a q_lessBy cyI 319 o_31, kx_a q_value cyI 1914 o_32, kx_a q_number cyI 1914 o_33, kx_3 q_joined j_v j_n o_34 o_35 o_36, kx_a j_v cyI 12 o_37, kx_a j_n cyI 12 o_38] := hD.sub [14, 15, 16, 0, 1, 2, 3, 4, 5, 6, 7, 8, 9, 10, 11, 12, 13] (by decide) rfl
                        exact ih1 x_46 i r_27 o_28 o_29 o_30 o_31 o_32 o_33 o_34 o_35 o_36 o_37 o_38 o_39 o_40 o_41 o_42 o_43 (om_4 LP1_h0 i_46) w_27.2.1 (w_27.1.trans LP1_h2) (by have h9 := w_27.2.2; rw [LP1_h2] at h9; exact h9) (om_mu hn1 (om_5 i_46) (om_6 i_25)) _ _ hP hD hS ls (lv_sub hl [0, 1, 2, 4, 5, 6, 7, 8, 9] rfl)
                have k_47 : ((-1) : Int32).toInt = -1 := rfl
                have k_48 : ((-1) : Int32).toInt = -1 := rfl
                exact LP1 ((p1.toInt - p0.toInt : Int).toNat + 1) p0 (-1) (-1) f o_15 o_16 o_17 o_18 o_19 o_20 o_21 o_22 o_23 o_24 vs lo le fv fn om_7 w_9.2.2.1 rfl (by rw [w_9.2.1]; exact w_9.2.2.2.1) (Nat.lt_succ_self _) _ _ hP hD hS ls (lv_sub hl [0, 1, 2, 3, 4, 5, 6, 7, 8] rfl)
              · have i_8 : 1 < p3.toInt := kc_nle c_8
                refine lv_iconst (v := (-1)) hx hb dX4_swings_38 (by decide) ?_
                have hP9 := hP
                have hD9 := hD
                have hK9 := hK
                exact W.iret (v := (-1)) hx hb hr (fun t ht hW => ⟨⟨(-1), (old, nodes, here, ff, ft, fs, fo, fe, uv, un, js, jl, je, jv, jn, vs, lo, le, fv, fn, f), rfl, ⟨l0, s0, rfl⟩, by rw [ht]; exact hP9, va_K.moved hW.alike hK9, hD9⟩, hS.F ht⟩) hS.2.2 dX4_swings_39
        · have w_5 : (p2.toInt < -32768 ∨ 32767 < p2.toInt) := w_5
          refine lv_if_eq (tgt := 38) hx hb dX4_swings_24 (by decide) (fun c_49 => ?_) (fun c_49 => ?_)
          · refine lv_iconst (v := (-1)) hx hb dX4_swings_38 (by decide) ?_
            have hP9 := hP
            have hD9 := hD
            have hK9 := hK
            exact W.iret (v := (-1)) hx hb hr (fun t ht hW => ⟨⟨(-1), (old, nodes, here, ff, ft, fs, fo, fe, uv, un, js, jl, je, jv, jn, vs, lo, le, fv, fn, f), rfl, ⟨l0, s0, rfl⟩, by rw [ht]; exact hP9, va_K.moved hW.alike hK9, hD9⟩, hS.F ht⟩) hS.2.2 dX4_swings_39
          · exact absurd c_49 (by decide)
  · have w_1 : (p0.toInt < 0 ∨ p1.toInt ≤ p0.toInt ∨ len.toInt < p1.toInt) := w_1
    refine lv_if_eq (tgt := 38) hx hb dX4_swings_9 (by decide) (fun c_50 => ?_) (fun c_50 => ?_)
    · refine lv_iconst (v := (-1)) hx hb dX4_swings_38 (by decide) ?_
      have hP9 := hP
      have hD9 := hD
      have hK9 := hK
      exact W.iret (v := (-1)) hx hb hr (fun t ht hW => ⟨⟨(-1), (old, nodes, here, ff, ft, fs, fo, fe, uv, un, js, jl, je, jv, jn, vs, lo, le, fv, fn, f), rfl, ⟨l0, s0, rfl⟩, by rw [ht]; exact hP9, va_K.moved hW.alike hK9, hD9⟩, hS.F ht⟩) hS.2.2 dX4_swings_39
    · exact absurd c_50 (by decide)



theorem mj_ok_keep {K : Nat} {f ff ft fs fo fe uv un fs2 fo2 fe2 uv2 un2 : Nat → Int32} {l r nd n : Int} (hC : ∀ k : Nat, (k : Int) < nd → mj_ok K f ff ft fs fo fe uv un k) (ht : treeOk ff ft nd n) (he : ∀ k : Nat, (k : Int) < nd → ¬ mj_hit ff ft l r k → mj_e1 fs fo fe uv un fs2 fo2 fe2 uv2 un2 k) : ∀ k : Nat, (k : Int) < nd → ¬ mj_hit ff ft l r k → mj_ok K f ff ft fs2 fo2 fe2 uv2 un2 k := by
  intro k hk hn
  have old := hC k hk
  obtain ⟨a1, a2, a3, a4⟩ := ht k hk
  have n1 := ki_nat (ff k) rfl a1
  have n2 := ki_nat (ft k) rfl (by omega)
  obtain ⟨d, μ, L, c, t⟩ := id old
  refine mj_ok_ag old (fun b2 hb2 => ?_)
  have e : ∀ j : Nat, k ≤ j → j < b2 → mj_e1 fs fo fe uv un fs2 fo2 fe2 uv2 un2 j := fun j x y => by
    obtain ⟨d2, l2, r2, μ2, L2, c2, y1, y2, y3, y4⟩ := mj_T_all d _ _ _ _ _ _ t j x (by omega)
    have nd2 := mj_T_nd y4
    have m1 := nd2.1
    have m2 := nd2.2.1
    refine he j (by omega) (fun hh => hn ⟨?_, ?_⟩)
    · have := hh.1; omega
    · have := hh.2; omega
  refine ⟨fun j x y => ?_, fun q x y => ?_⟩
  · obtain ⟨e1, e2, e3, -⟩ := e j x y
    exact ⟨rfl, rfl, e1, e2, e3⟩
  · exact (e (q / 6) (by omega) (by omega)).2.2.2 q (by omega) (by omega)

set_option maxHeartbeats 4000000 in
set_option maxRecDepth 100000 in
theorem c_X2_keepJoined_s (l : Launch) (dC : Nat → ClassId) (dI : Nat → Nat → Nat) (q_t : Nat) (q_row : Nat) (q_joined : Nat) (q_from : Nat) (q_to : Nat) (q_size : Nat) (q_lossOf : Nat) (q_lessBy : Nat) (q_value : Nat) (q_number : Nat) (nodes : Int32) (here : Int32) (cyI : ClassId) (fs : Nat → Int32) (fo : Nat → Int32) (uv : Nat → Int32) (un : Nat → Int32) (fe : Nat → Int32) (j_v : Nat) (j_n : Nat) (js : Int32) (jl : Int32) (je : Int32) (jv : Nat → Int32) (jn : Nat → Int32) (p0 : Int32) (sz : Nat) (b0 : 0 ≤ p0.toInt) (b1 : p0.toInt < 319) (j0 : 0 ≤ js.toInt) (j1 : js.toInt ≤ 12) (s0 : sixes fs) : Met l yX2_keepJoined wsX2_keepJoined ({ frames := 1, cells := 0, slots := 0, locals := 45 }) (va_Pc [.ref q_t, .int p0] (fun U => U.heap.size = sz ∧ va_P (dC, dI) vwCl [kx_2 q_t q_row q_joined q_from q_to q_size q_lossOf q_lessBy q_value q_number nodes here, kx_a q_size cyI 319 fs, kx_a q_lossOf cyI 319 fo, kx_a q_lessBy cyI 319 fe, kx_a q_value cyI 1914 uv, kx_a q_number cyI 1914 un, kx_3 q_joined j_v j_n js jl je, kx_a j_v cyI 12 jv, kx_a j_n cyI 12 jn] U.heap ∧ va_K (dC, dI) vwCl [(cyI, .int)] U ∧ va_D (fun _ => True) [kx_2 q_t q_row q_joined q_from q_to q_size q_lossOf q_lessBy q_value q_number nodes here, kx_a q_size cyI 319 fs, kx_a q_lossOf cyI 319 fo, kx_a q_lessBy cyI 319 fe, kx_a q_value cyI 1914 uv, kx_a q_number cyI 1914 un, kx_3 q_joined j_v j_n js jl je, kx_a j_v cyI 12 jv, kx_a j_n cyI 12 jn])) (va_Qv (fun u : (Nat → Int32) × (Nat → Int32) × (Nat → Int32) × (Nat → Int32) × (Nat → Int32) => sixes u.1 ∧ (∀ j : Nat, ¬ j = p0.toNatClampNeg → u.1 j = fs j ∧ u.2.1 j = fo j ∧ u.2.2.1 j = fe j) ∧ ∀ q : Nat, (q < 6 * p0.toNatClampNeg ∨ 6 * p0.toNatClampNeg + 6 ≤ q) → u.2.2.2.1 q = uv q ∧ u.2.2.2.2 q = un q) (fun (u : (Nat → Int32) × (Nat → Int32) × (Nat → Int32) × (Nat → Int32) × (Nat → Int32)) (t : State) => va_P (dC, dI) vwCl [kx_2 q_t q_row q_joined q_from q_to q_size q_lossOf q_lessBy q_value q_number nodes here, kx_a q_size cyI 319 u.1, kx_a q_lossOf cyI 319 u.2.1, kx_a q_lessBy cyI 319 u.2.2.1, kx_a q_value cyI 1914 u.2.2.2.1, kx_a q_number cyI 1914 u.2.2.2.2, kx_3 q_joined j_v j_n js jl je, kx_a j_v cyI 12 jv, kx_a j_n cyI 12 jn] t.heap ∧ va_K (dC, dI) vwCl [(cyI, .int)] t ∧ va_D (va_A [kx_2 q_t q_row q_joined q_from q_to q_size q_lossOf q_lessBy q_value q_number nodes here, kx_a q_size cyI 319 fs, kx_a q_lossOf cyI 319 fo, kx_a q_lessBy cyI 319 fe, kx_a q_value cyI 1914 uv, kx_a q_number cyI 1914 un, kx_3 q_joined j_v j_n js jl je, kx_a j_v cyI 12 jv, kx_a j_n cyI 12 jn] sz) [kx_2 q_t q_row q_joined q_from q_to q_size q_lossOf q_lessBy q_value q_number nodes here, kx_a q_size cyI 319 u.1, kx_a q_lossOf cyI 319 u.2.1, kx_a q_lessBy cyI 319 u.2.2.1, kx_a q_value cyI 1914 u.2.2.2.1, kx_a q_number cyI 1914 u.2.2.2.2, kx_3 q_joined j_v j_n js jl je, kx_a j_v cyI 12 jv, kx_a j_n cyI 12 jn]) (va_A [kx_2 q_t q_row q_joined q_from q_to q_size q_lossOf q_lessBy q_value q_number nodes here, kx_a q_size cyI 319 fs, kx_a q_lossOf cyI 319 fo, kx_a q_lessBy cyI 319 fe, kx_a q_value cyI 1914 uv, kx_a q_number cyI 1914 un, kx_3 q_joined j_v j_n js jl je, kx_a j_v cyI 12 jv, kx_a j_n cyI 12 jn] sz)) 0 0 (va_A [kx_2 q_t q_row q_joined q_from q_to q_size q_lossOf q_lessBy q_value q_number nodes here, kx_a q_size cyI 319 fs, kx_a q_lossOf cyI 319 fo, kx_a q_lessBy cyI 319 fe, kx_a q_value cyI 1914 uv, kx_a q_number cyI 1914 un, kx_3 q_joined j_v j_n js jl je, kx_a j_v cyI 12 jv, kx_a j_n cyI 12 jn] sz) := by
  refine Met.ofW (cc := cX2_keepJoined) (maxL := 4) (ret := none) (by decide) rfl ?_
  intro p e s m args below meth c s₁ B hml hv
  obtain ⟨rfl, hsz, hP, hK, hD0⟩ := hv
  have hx := B.exec
  have hb := B.bytes
  have hr := B.returns
  have hts := atoms_spec (ws := wsX2_keepJoined) B.pre
  have hown : s.vm.findClass RX2 = some m.cls := findClass_of_methodNamed B.named
  have hlocks := B.notSynchronized
  subst hsz
  have hD := hD0.self (sz := s.heap.size)
  generalize hAe : va_A [kx_2 q_t q_row q_joined q_from q_to q_size q_lossOf q_lessBy q_value q_number nodes here, kx_a q_size cyI 319 fs, kx_a q_lossOf cyI 319 fo, kx_a q_lessBy cyI 319 fe, kx_a q_value cyI 1914 uv, kx_a q_number cyI 1914 un, kx_3 q_joined j_v j_n js jl je, kx_a j_v cyI 12 jv, kx_a j_n cyI 12 jn] s.heap.size = A at hD ⊢
  have hA : ∀ q : Nat, s.heap.size ≤ q → A q := fun q h => by rw [← hAe]; exact Or.inr h
  have hS : va_S A s.heap s.heap [] := va_S.rf
  have hP : va_P (dC, dI) vwCl [kx_2 q_t q_row q_joined q_from q_to q_size q_lossOf q_lessBy q_value q_number nodes here, kx_a q_size cyI 319 fs, kx_a q_lossOf cyI 319 fo, kx_a q_lessBy cyI 319 fe, kx_a q_value cyI 1914 uv, kx_a q_number cyI 1914 un, kx_3 q_joined j_v j_n js jl je, kx_a j_v cyI 12 jv, kx_a j_n cyI 12 jn] s.heap := hP
  have hl := lv_entry ([.ref q_t, .int p0]) (n := 4) (Nat.le_of_ble_eq_true rfl)
  rw [lg_entry_eq]
  generalize (lg_sl ([.ref q_t, .int p0]) ++ List.replicate (4 - (lg_sl ([.ref q_t, .int p0])).length) Slot.unset).toArray = ls at hl ⊢
  have hl : lv_has ls 4 [(0, .ref q_t), (1, .int p0)] := hl
  have hf_12 := hts (.fieldLink RX2 12 "MajorityIndex$Tree" "joined" "LMajorityIndex$Votes;") (List.mem_of_getElem? (i := 1) rfl)
  have hi_2 : ∀ w ∈ u_ws RX2 TX2 11, w ∈ wsX2_keepJoined := fun w h => List.mem_cons_of_mem _ (List.mem_append_left _ (List.mem_append_right _ h))
  have hf_94 := hts (.fieldLink RX2 94 "MajorityIndex$Votes" "size" "I") (List.mem_of_getElem? (i := 2) rfl)
  have hi_3 : ∀ w ∈ u_ws RX3 TX3 5, w ∈ wsX2_keepJoined := fun w h => List.mem_cons_of_mem _ (List.mem_append_right _ h)
  have hf_25 := hts (.fieldLink RX2 25 "MajorityIndex$Tree" "size" "[I") (List.mem_of_getElem? (i := 7) rfl)
  have hm_98 := hts (.methodLink RX2 98 Lib.Math.min.name) (List.mem_of_getElem? (i := 8) rfl)
  have hms_min := hts (.static Lib.Math.min.name) (List.mem_of_getElem? (i := 9) rfl)
  have hz_math := hts (.initialized "java/lang/Math") (List.mem_of_getElem? (i := 10) rfl)
  have hmc_min := hts (.code Lib.Math.min.name Lib.Math.min.code 2 (some .int)) (List.mem_of_getElem? (i := 11) rfl)
  have hf_28 := hts (.fieldLink RX2 28 "MajorityIndex$Tree" "lossOf" "[I") (List.mem_of_getElem? (i := 12) rfl)
  have hf_91 := hts (.fieldLink RX2 91 "MajorityIndex$Votes" "lost" "I") (List.mem_of_getElem? (i := 13) rfl)
  have hf_31 := hts (.fieldLink RX2 31 "MajorityIndex$Tree" "lessBy" "[I") (List.mem_of_getElem? (i := 14) rfl)
  have hf_104 := hts (.fieldLink RX2 104 "MajorityIndex$Votes" "lessBy" "I") (List.mem_of_getElem? (i := 15) rfl)
  have hf_34 := hts (.fieldLink RX2 34 "MajorityIndex$Tree" "value" "[I") (List.mem_of_getElem? (i := 3) rfl)
  have hf_96 := hts (.fieldLink RX2 96 "MajorityIndex$Votes" "value" "[I") (List.mem_of_getElem? (i := 4) rfl)
  have hf_37 := hts (.fieldLink RX2 37 "MajorityIndex$Tree" "number" "[I") (List.mem_of_getElem? (i := 5) rfl)
  have hf_97 := hts (.fieldLink RX2 97 "MajorityIndex$Votes" "number" "[I") (List.mem_of_getElem? (i := 6) rfl)
  have n_p0 := ki_nat p0 rfl (om_8 b0)
  refine lv_iload_n hx hb dX2_keepJoined_0 rfl (lv_at hl 1 rfl) ?_
  refine lv_bipush (v := 6) hx hb dX2_keepJoined_1 (by decide) ?_
  refine lv_imul hx hb dX2_keepJoined_3 ?_
  refine lv_topi (fun y_1 ey_1 => ?_)
  have i_1 : y_1.toInt = p0.toInt * 6 := ki_mul ey_1 rfl rfl (om_86 b0) (om_87 b1)
  refine lv_istore_n (lv' := [(2, .int y_1), (0, .ref q_t), (1, .int p0)]) hx hb dX2_keepJoined_4 rfl hl (by decide) rfl (fun ls hl => ?_)
  refine lv_iconst (v := 0) hx hb dX2_keepJoined_5 (by decide) ?_
  refine lv_istore_n (lv' := [(3, .int 0), (2, .int y_1), (0, .ref q_t), (1, .int p0)]) hx hb dX2_keepJoined_6 rfl hl (by decide) rfl (fun ls hl => ?_)
  have LP1 : ∀ (n : Nat) (i : Int32) (wv : Nat → Int32) (wn : Nat → Int32), (0 ≤ i.toInt) → (∀ q : Nat, (q < 6 * p0.toNatClampNeg ∨ 6 * p0.toNatClampNeg + 6 ≤ q) → wv q = uv q ∧ wn q = un q) → (6 - i.toInt).toNat < n → ∀ (H : Heap) (locs : List Loc), va_P (dC, dI) vwCl [kx_2 q_t q_row q_joined q_from q_to q_size q_lossOf q_lessBy q_value q_number nodes here, kx_a q_size cyI 319 fs, kx_a q_lossOf cyI 319 fo, kx_a q_lessBy cyI 319 fe, kx_a q_value cyI 1914 wv, kx_a q_number cyI 1914 wn, kx_3 q_joined j_v j_n js jl je, kx_a j_v cyI 12 jv, kx_a j_n cyI 12 jn] H → va_D A [kx_2 q_t q_row q_joined q_from q_to q_size q_lossOf q_lessBy q_value q_number nodes here, kx_a q_size cyI 319 fs, kx_a q_lossOf cyI 319 fo, kx_a q_lessBy cyI 319 fe, kx_a q_value cyI 1914 wv, kx_a q_number cyI 1914 wn, kx_3 q_joined j_v j_n js jl je, kx_a j_v cyI 12 jv, kx_a j_n cyI 12 jn] → va_S A s.heap H locs → ∀ (ls : Array Slot), lv_has ls 4 [(3, .int i), (2, .int y_1), (0, .ref q_t), (1, .int p0)] → W p l e (headSpec wsX2_keepJoined ({ frames := 1, cells := 0, slots := 0, locals := 45 })).room s m ([.ref q_t, .int p0] : List Value).toArray below meth c H locs 0 0 (MQ below (va_Qv (fun u : (Nat → Int32) × (Nat → Int32) × (Nat → Int32) × (Nat → Int32) × (Nat → Int32) => sixes u.1 ∧ (∀ j : Nat, ¬ j = p0.toNatClampNeg → u.1 j = fs j ∧ u.2.1 j = fo j ∧ u.2.2.1 j = fe j) ∧ ∀ q : Nat, (q < 6 * p0.toNatClampNeg ∨ 6 * p0.toNatClampNeg + 6 ≤ q) → u.2.2.2.1 q = uv q ∧ u.2.2.2.2 q = un q) (fun (u : (Nat → Int32) × (Nat → Int32) × (Nat → Int32) × (Nat → Int32) × (Nat → Int32)) (t : State) => va_P (dC, dI) vwCl [kx_2 q_t q_row q_joined q_from q_to q_size q_lossOf q_lessBy q_value q_number nodes here, kx_a q_size cyI 319 u.1, kx_a q_lossOf cyI 319 u.2.1, kx_a q_lessBy cyI 319 u.2.2.1, kx_a q_value cyI 1914 u.2.2.2.1, kx_a q_number cyI 1914 u.2.2.2.2, kx_3 q_joined j_v j_n js jl je, kx_a j_v cyI 12 jv, kx_a j_n cyI 12 jn] t.heap ∧ va_K (dC, dI) vwCl [(cyI, .int)] t ∧ va_D A [kx_2 q_t q_row q_joined q_from q_to q_size q_lossOf q_lessBy q_value q_number nodes here, kx_a q_size cyI 319 u.1, kx_a q_lossOf cyI 319 u.2.1, kx_a q_lessBy cyI 319 u.2.2.1, kx_a q_value cyI 1914 u.2.2.2.1, kx_a q_number cyI 1914 u.2.2.2.2, kx_3 q_joined j_v j_n js jl je, kx_a j_v cyI 12 jv, kx_a j_n cyI 12 jn]) A) ([.ref q_t, .int p0] : List Value).toArray s 0 0 A) (F0 m 7 ls []) := by
    intro n
    induction n with
    | zero => intro i wv wn LP1_h0 LP1_h1 hn; exact absurd hn (Nat.not_lt_zero _)
    | succ n ih1 =>
      intro i wv wn LP1_h0 LP1_h1 hn1 H locs hP hD hS ls hl
      have n_i := ki_nat i rfl (om_8 LP1_h0)
      refine lv_iload_n hx hb dX2_keepJoined_7 rfl (lv_at hl 0 rfl) ?_
      refine lv_aload_n hx hb dX2_keepJoined_8 rfl (lv_at hl 2 rfl) ?_
      refine va_get (D := (dC, dI)) (ci := 2) (v := .ref q_joined) (C := RX2) (T := TX2) (N := 11) hx hb hts hi_2 hown hK hP 0 rfl rfl 1 (by decide) hf_12 (fun _ h9 => h9) rfl dX2_keepJoined_9 ?_
      refine va_get (D := (dC, dI)) (ci := 3) (v := .int js) (C := RX3) (T := TX3) (N := 5) hx hb hts hi_3 hown hK hP 6 rfl rfl 2 (by decide) hf_94 (fun _ h9 => h9) rfl dX2_keepJoined_12 ?_
      refine lv_icmp_ge (tgt := 64) hx hb dX2_keepJoined_15 (by decide) (fun c_2 => ?_) (fun c_2 => ?_)
      · have i_2 : js.toInt ≤ i.toInt := kc_le c_2
        refine lv_aload_n hx hb dX2_keepJoined_64 rfl (lv_at hl 2 rfl) ?_
        refine va_get (D := (dC, dI)) (ci := 2) (v := .ref q_size) (C := RX2) (T := TX2) (N := 11) hx hb hts hi_2 hown hK hP 0 rfl rfl 4 (by decide) hf_25 (fun _ h9 => h9) rfl dX2_keepJoined_65 ?_
        refine lv_iload_n hx hb dX2_keepJoined_68 rfl (lv_at hl 3 rfl) ?_
        refine lv_aload_n hx hb dX2_keepJoined_69 rfl (lv_at hl 2 rfl) ?_
        refine va_get (D := (dC, dI)) (ci := 2) (v := .ref q_joined) (C := RX2) (T := TX2) (N := 11) hx hb hts hi_2 hown hK hP 0 rfl rfl 1 (by decide) hf_12 (fun _ h9 => h9) rfl dX2_keepJoined_70 ?_
        refine va_get (D := (dC, dI)) (ci := 3) (v := .int js) (C := RX3) (T := TX3) (N := 5) hx hb hts hi_3 hown hK hP 6 rfl rfl 2 (by decide) hf_94 (fun _ h9 => h9) rfl dX2_keepJoined_73 ?_
        refine lv_bipush (v := 6) hx hb dX2_keepJoined_76 (by decide) ?_
        refine va_mmin hx hb (hml.trans hl.1.symm) hown hm_98 hms_min hz_math hmc_min (Nat.le_of_ble_eq_true rfl) (Nat.le_of_ble_eq_true rfl) (Nat.le_of_ble_eq_true rfl) (Nat.le_of_ble_eq_true rfl) dX2_keepJoined_78 ?_
        refine lv_topi (fun y_3 ey_3 => ?_)
        have i_4 : (js.toInt ≤ 6 ∧ y_3.toInt = js.toInt) ∨ (6 < js.toInt ∧ y_3.toInt = 6) := ki_min ey_3 rfl rfl
        refine va_iast hx hb hK hP hD hS 1 0 rfl rfl (ki_in (om_8 b0) (om_54 b1)) dX2_keepJoined_81 (fun H locs hP hD hS => ?_)
        obtain ⟨hP, hD⟩ := kx_re (w2 := [kx_2 q_t q_row q_joined q_from q_to q_size q_lossOf q_lessBy q_value q_number nodes here, kx_a q_size cyI 319 (upd fs p0.toNatClampNeg y_3), kx_a q_lossOf cyI 319 fo, kx_a q_lessBy cyI 319 fe, kx_a q_value cyI 1914 wv, kx_a q_number cyI 1914 wn, kx_3 q_joined j_v j_n js jl je, kx_a j_v cyI 12 jv, kx_a j_n cyI 12 jn]) hP hD rfl
        refine lv_aload_n hx hb dX2_keepJoined_82 rfl (lv_at hl 2 rfl) ?_
        refine va_get (D := (dC, dI)) (ci := 2) (v := .ref q_lossOf) (C := RX2) (T := TX2) (N := 11) hx hb hts hi_2 hown hK hP 0 rfl rfl 5 (by decide) hf_28 (fun _ h9 => h9) rfl dX2_keepJoined_83 ?_
        refine lv_iload_n hx hb dX2_keepJoined_86 rfl (lv_at hl 3 rfl) ?_
        refine lv_aload_n hx hb dX2_keepJoined_87 rfl (lv_at hl 2 rfl) ?_
        refine va_get (D := (dC, dI)) (ci := 2) (v := .ref q_joined) (C := RX2) (T := TX2) (N := 11) hx hb hts hi_2 hown hK hP 0 rfl rfl 1 (by decide) hf_12 (fun _ h9 => h9) rfl dX2_keepJoined_88 ?_
        refine va_get (D := (dC, dI)) (ci := 3) (v := .int jl) (C := RX3) (T := TX3) (N := 5) hx hb hts hi_3 hown hK hP 6 rfl rfl 3 (by decide) hf_91 (fun _ h9 => h9) rfl dX2_keepJoined_91 ?_
        refine va_iast hx hb hK hP hD hS 2 0 rfl rfl (ki_in (om_8 b0) (om_54 b1)) dX2_keepJoined_94 (fun H locs hP hD hS => ?_)
        obtain ⟨hP, hD⟩ := kx_re (w2 := [kx_2 q_t q_row q_joined q_from q_to q_size q_lossOf q_lessBy q_value q_number nodes here, kx_a q_size cyI 319 (upd fs p0.toNatClampNeg y_3), kx_a q_lossOf cyI 319 (upd fo p0.toNatClampNeg jl), kx_a q_lessBy cyI 319 fe, kx_a q_value cyI 1914 wv, kx_a q_number cyI 1914 wn, kx_3 q_joined j_v j_n js jl je, kx_a j_v cyI 12 jv, kx_a j_n cyI 12 jn]) hP hD rfl
        refine lv_aload_n hx hb dX2_keepJoined_95 rfl (lv_at hl 2 rfl) ?_
        refine va_get (D := (dC, dI)) (ci := 2) (v := .ref q_lessBy) (C := RX2) (T := TX2) (N := 11) hx hb hts hi_2 hown hK hP 0 rfl rfl 6 (by decide) hf_31 (fun _ h9 => h9) rfl dX2_keepJoined_96 ?_
        refine lv_iload_n hx hb dX2_keepJoined_99 rfl (lv_at hl 3 rfl) ?_
        refine lv_aload_n hx hb dX2_keepJoined_100 rfl (lv_at hl 2 rfl) ?_
        refine va_get (D := (dC, dI)) (ci := 2) (v := .ref q_joined) (C := RX2) (T := TX2) (N := 11) hx hb hts hi_2 hown hK hP 0 rfl rfl 1 (by decide) hf_12 (fun _ h9 => h9) rfl dX2_keepJoined_101 ?_
        refine va_get (D := (dC, dI)) (ci := 3) (v := .int je) (C := RX3) (T := TX3) (N := 5) hx hb hts hi_3 hown hK hP 6 rfl rfl 4 (by decide) hf_104 (fun _ h9 => h9) rfl dX2_keepJoined_104 ?_
        refine va_iast hx hb hK hP hD hS 3 0 rfl rfl (ki_in (om_8 b0) (om_54 b1)) dX2_keepJoined_107 (fun H locs hP hD hS => ?_)
        obtain ⟨hP, hD⟩ := kx_re (w2 := [kx_2 q_t q_row q_joined q_from q_to q_size q_lossOf q_lessBy q_value q_number nodes here, kx_a q_size cyI 319 (upd fs p0.toNatClampNeg y_3), kx_a q_lossOf cyI 319 (upd fo p0.toNatClampNeg jl), kx_a q_lessBy cyI 319 (upd fe p0.toNatClampNeg je), kx_a q_value cyI 1914 wv, kx_a q_number cyI 1914 wn, kx_3 q_joined j_v j_n js jl je, kx_a j_v cyI 12 jv, kx_a j_n cyI 12 jn]) hP hD rfl
        have hP9 := hP
        have hD9 := hD
        have hK9 := hK
        exact W.vret hx hb hr (fun t ht hW => ⟨⟨((upd fs p0.toNatClampNeg y_3), (upd fo p0.toNatClampNeg jl), (upd fe p0.toNatClampNeg je), wv, wn), rfl, ⟨(sixes_upd s0 (by (try dsimp only); omega) (by (try dsimp only); omega)), (fun j hj => ⟨upd_ne hj, upd_ne hj, upd_ne hj⟩), LP1_h1⟩, by rw [ht]; exact hP9, va_K.moved hW.alike hK9, hD9⟩, hS.F ht⟩) hS.2.2 dX2_keepJoined_108
      · have i_2 : i.toInt < js.toInt := kc_nle c_2
        refine lv_iload_n hx hb dX2_keepJoined_18 rfl (lv_at hl 0 rfl) ?_
        refine lv_bipush (v := 6) hx hb dX2_keepJoined_19 (by decide) ?_
        refine lv_icmp_ge (tgt := 64) hx hb dX2_keepJoined_21 (by decide) (fun c_5 => ?_) (fun c_5 => ?_)
        · have i_5 : 6 ≤ i.toInt := kc_le c_5
          refine lv_aload_n hx hb dX2_keepJoined_64 rfl (lv_at hl 2 rfl) ?_
          refine va_get (D := (dC, dI)) (ci := 2) (v := .ref q_size) (C := RX2) (T := TX2) (N := 11) hx hb hts hi_2 hown hK hP 0 rfl rfl 4 (by decide) hf_25 (fun _ h9 => h9) rfl dX2_keepJoined_65 ?_
          refine lv_iload_n hx hb dX2_keepJoined_68 rfl (lv_at hl 3 rfl) ?_
          refine lv_aload_n hx hb dX2_keepJoined_69 rfl (lv_at hl 2 rfl) ?_
          refine va_get (D := (dC, dI)) (ci := 2) (v := .ref q_joined) (C := RX2) (T := TX2) (N := 11) hx hb hts hi_2 hown hK hP 0 rfl rfl 1 (by decide) hf_12 (fun _ h9 => h9) rfl dX2_keepJoined_70 ?_
          refine va_get (D := (dC, dI)) (ci := 3) (v := .int js) (C := RX3) (T := TX3) (N := 5) hx hb hts hi_3 hown hK hP 6 rfl rfl 2 (by decide) hf_94 (fun _ h9 => h9) rfl dX2_keepJoined_73 ?_
          refine lv_bipush (v := 6) hx hb dX2_keepJoined_76 (by decide) ?_
          refine va_mmin hx hb (hml.trans hl.1.symm) hown hm_98 hms_min hz_math hmc_min (Nat.le_of_ble_eq_true rfl) (Nat.le_of_ble_eq_true rfl) (Nat.le_of_ble_eq_true rfl) (Nat.le_of_ble_eq_true rfl) dX2_keepJoined_78 ?_
          refine lv_topi (fun y_6 ey_6 => ?_)
          have i_7 : (js.toInt ≤ 6 ∧ y_6.toInt = js.toInt) ∨ (6 < js.toInt ∧ y_6.toInt = 6) := ki_min ey_6 rfl rfl
          refine va_iast hx hb hK hP hD hS 1 0 rfl rfl (ki_in (om_8 b0) (om_54 b1)) dX2_keepJoined_81 (fun H locs hP hD hS => ?_)
          obtain ⟨hP, hD⟩ := kx_re (w2 := [kx_2 q_t q_row q_joined q_from q_to q_size q_lossOf q_lessBy q_value q_number nodes here, kx_a q_size cyI 319 (upd fs p0.toNatClampNeg y_6), kx_a q_lossOf cyI 319 fo, kx_a q_lessBy cyI 319 fe, kx_a q_value cyI 1914 wv, kx_a q_number cyI 1914 wn, kx_3 q_joined j_v j_n js jl je, kx_a j_v cyI 12 jv, kx_a j_n cyI 12 jn]) hP hD rfl
          refine lv_aload_n hx hb dX2_keepJoined_82 rfl (lv_at hl 2 rfl) ?_
          refine va_get (D := (dC, dI)) (ci := 2) (v := .ref q_lossOf) (C := RX2) (T := TX2) (N := 11) hx hb hts hi_2 hown hK hP 0 rfl rfl 5 (by decide) hf_28 (fun _ h9 => h9) rfl dX2_keepJoined_83 ?_
          refine lv_iload_n hx hb dX2_keepJoined_86 rfl (lv_at hl 3 rfl) ?_
          refine lv_aload_n hx hb dX2_keepJoined_87 rfl (lv_at hl 2 rfl) ?_
          refine va_get (D := (dC, dI)) (ci := 2) (v := .ref q_joined) (C := RX2) (T := TX2) (N := 11) hx hb hts hi_2 hown hK hP 0 rfl rfl 1 (by decide) hf_12 (fun _ h9 => h9) rfl dX2_keepJoined_88 ?_
          refine va_get (D := (dC, dI)) (ci := 3) (v := .int jl) (C := RX3) (T := TX3) (N := 5) hx hb hts hi_3 hown hK hP 6 rfl rfl 3 (by decide) hf_91 (fun _ h9 => h9) rfl dX2_keepJoined_91 ?_
          refine va_iast hx hb hK hP hD hS 2 0 rfl rfl (ki_in (om_8 b0) (om_54 b1)) dX2_keepJoined_94 (fun H locs hP hD hS => ?_)
          obtain ⟨hP, hD⟩ := kx_re (w2 := [kx_2 q_t q_row q_joined q_from q_to q_size q_lossOf q_lessBy q_value q_number nodes here, kx_a q_size cyI 319 (upd fs p0.toNatClampNeg y_6), kx_a q_lossOf cyI 319 (upd fo p0.toNatClampNeg jl), kx_a q_lessBy cyI 319 fe, kx_a q_value cyI 1914 wv, kx_a q_number cyI 1914 wn, kx_3 q_joined j_v j_n js jl je, kx_a j_v cyI 12 jv, kx_a j_n cyI 12 jn]) hP hD rfl
          refine lv_aload_n hx hb dX2_keepJoined_95 rfl (lv_at hl 2 rfl) ?_
          refine va_get (D := (dC, dI)) (ci := 2) (v := .ref q_lessBy) (C := RX2) (T := TX2) (N := 11) hx hb hts hi_2 hown hK hP 0 rfl rfl 6 (by decide) hf_31 (fun _ h9 => h9) rfl dX2_keepJoined_96 ?_
          refine lv_iload_n hx hb dX2_keepJoined_99 rfl (lv_at hl 3 rfl) ?_
          refine lv_aload_n hx hb dX2_keepJoined_100 rfl (lv_at hl 2 rfl) ?_
          refine va_get (D := (dC, dI)) (ci := 2) (v := .ref q_joined) (C := RX2) (T := TX2) (N := 11) hx hb hts hi_2 hown hK hP 0 rfl rfl 1 (by decide) hf_12 (fun _ h9 => h9) rfl dX2_keepJoined_101 ?_
          refine va_get (D := (dC, dI)) (ci := 3) (v := .int je) (C := RX3) (T := TX3) (N := 5) hx hb hts hi_3 hown hK hP 6 rfl rfl 4 (by decide) hf_104 (fun _ h9 => h9) rfl dX2_keepJoined_104 ?_
          refine va_iast hx hb hK hP hD hS 3 0 rfl rfl (ki_in (om_8 b0) (om_54 b1)) dX2_keepJoined_107 (fun H locs hP hD hS => ?_)
          obtain ⟨hP, hD⟩ := kx_re (w2 := [kx_2 q_t q_row q_joined q_from q_to q_size q_lossOf q_lessBy q_value q_number nodes here, kx_a q_size cyI 319 (upd fs p0.toNatClampNeg y_6), kx_a q_lossOf cyI 319 (upd fo p0.toNatClampNeg jl), kx_a q_lessBy cyI 319 (upd fe p0.toNatClampNeg je), kx_a q_value cyI 1914 wv, kx_a q_number cyI 1914 wn, kx_3 q_joined j_v j_n js jl je, kx_a j_v cyI 12 jv, kx_a j_n cyI 12 jn]) hP hD rfl
          have hP9 := hP
          have hD9 := hD
          have hK9 := hK
          exact W.vret hx hb hr (fun t ht hW => ⟨⟨((upd fs p0.toNatClampNeg y_6), (upd fo p0.toNatClampNeg jl), (upd fe p0.toNatClampNeg je), wv, wn), rfl, ⟨(sixes_upd s0 (by (try dsimp only); omega) (by (try dsimp only); omega)), (fun j hj => ⟨upd_ne hj, upd_ne hj, upd_ne hj⟩), LP1_h1⟩, by rw [ht]; exact hP9, va_K.moved hW.alike hK9, hD9⟩, hS.F ht⟩) hS.2.2 dX2_keepJoined_108
        · have i_5 : i.toInt < 6 := kc_nle c_5
          refine lv_aload_n hx hb dX2_keepJoined_24 rfl (lv_at hl 2 rfl) ?_
          refine va_get (D := (dC, dI)) (ci := 2) (v := .ref q_value) (C := RX2) (T := TX2) (N := 11) hx hb hts hi_2 hown hK hP 0 rfl rfl 7 (by decide) hf_34 (fun _ h9 => h9) rfl dX2_keepJoined_25 ?_
          refine lv_iload_n hx hb dX2_keepJoined_28 rfl (lv_at hl 1 rfl) ?_
          refine lv_iload_n hx hb dX2_keepJoined_29 rfl (lv_at hl 0 rfl) ?_
          refine lv_iadd hx hb dX2_keepJoined_30 ?_
          refine lv_topi (fun y_8 ey_8 => ?_)
          have i_8 : y_8.toInt = y_1.toInt + i.toInt := ki_add ey_8 rfl rfl (om_88 b0 i_1 LP1_h0) (om_96 b1 i_1 i_5)
          refine lv_aload_n hx hb dX2_keepJoined_31 rfl (lv_at hl 2 rfl) ?_
          refine va_get (D := (dC, dI)) (ci := 2) (v := .ref q_joined) (C := RX2) (T := TX2) (N := 11) hx hb hts hi_2 hown hK hP 0 rfl rfl 1 (by decide) hf_12 (fun _ h9 => h9) rfl dX2_keepJoined_32 ?_
          refine va_get (D := (dC, dI)) (ci := 3) (v := .ref j_v) (C := RX3) (T := TX3) (N := 5) hx hb hts hi_3 hown hK hP 6 rfl rfl 0 (by decide) hf_96 (fun _ h9 => h9) rfl dX2_keepJoined_35 ?_
          refine lv_iload_n hx hb dX2_keepJoined_38 rfl (lv_at hl 0 rfl) ?_
          refine va_iald hx hb hK hP 7 0 rfl rfl (ki_in (om_8 LP1_h0) (om_98 i_5)) dX2_keepJoined_39 ?_
          refine lv_topi (fun y_9 ey_9 => ?_)
          have j_9 : y_9.toInt = (jv i.toNatClampNeg).toInt := congrArg Int32.toInt ey_9
          refine va_iast hx hb hK hP hD hS 4 0 rfl rfl (ki_in (om_90 b0 i_1 LP1_h0 i_8) (om_97 b1 i_1 i_5 i_8)) dX2_keepJoined_40 (fun H locs hP hD hS => ?_)
          obtain ⟨hP, hD⟩ := kx_re (w2 := [kx_2 q_t q_row q_joined q_from q_to q_size q_lossOf q_lessBy q_value q_number nodes here, kx_a q_size cyI 319 fs, kx_a q_lossOf cyI 319 fo, kx_a q_lessBy cyI 319 fe, kx_a q_value cyI 1914 (upd wv y_8.toNatClampNeg y_9), kx_a q_number cyI 1914 wn, kx_3 q_joined j_v j_n js jl je, kx_a j_v cyI 12 jv, kx_a j_n cyI 12 jn]) hP hD rfl
          refine lv_aload_n hx hb dX2_keepJoined_41 rfl (lv_at hl 2 rfl) ?_
          refine va_get (D := (dC, dI)) (ci := 2) (v := .ref q_number) (C := RX2) (T := TX2) (N := 11) hx hb hts hi_2 hown hK hP 0 rfl rfl 8 (by decide) hf_37 (fun _ h9 => h9) rfl dX2_keepJoined_42 ?_
          refine lv_iload_n hx hb dX2_keepJoined_45 rfl (lv_at hl 1 rfl) ?_
          refine lv_iload_n hx hb dX2_keepJoined_46 rfl (lv_at hl 0 rfl) ?_
          refine lv_iadd hx hb dX2_keepJoined_47 ?_
          refine lv_topi (fun y_10 ey_10 => ?_)
          have i_10 : y_10.toInt = y_1.toInt + i.toInt := ki_add ey_10 rfl rfl (om_88 b0 i_1 LP1_h0) (om_96 b1 i_1 i_5)
          refine lv_aload_n hx hb dX2_keepJoined_48 rfl (lv_at hl 2 rfl) ?_
          refine va_get (D := (dC, dI)) (ci := 2) (v := .ref q_joined) (C := RX2) (T := TX2) (N := 11) hx hb hts hi_2 hown hK hP 0 rfl rfl 1 (by decide) hf_12 (fun _ h9 => h9) rfl dX2_keepJoined_49 ?_
          refine va_get (D := (dC, dI)) (ci := 3) (v := .ref j_n) (C := RX3) (T := TX3) (N := 5) hx hb hts hi_3 hown hK hP 6 rfl rfl 1 (by decide) hf_97 (fun _ h9 => h9) rfl dX2_keepJoined_52 ?_
          refine lv_iload_n hx hb dX2_keepJoined_55 rfl (lv_at hl 0 rfl) ?_
          refine va_iald hx hb hK hP 8 0 rfl rfl (ki_in (om_8 LP1_h0) (om_98 i_5)) dX2_keepJoined_56 ?_
          refine lv_topi (fun y_11 ey_11 => ?_)
          have j_11 : y_11.toInt = (jn i.toNatClampNeg).toInt := congrArg Int32.toInt ey_11
          refine va_iast hx hb hK hP hD hS 5 0 rfl rfl (ki_in (om_90 b0 i_1 LP1_h0 i_10) (om_97 b1 i_1 i_5 i_10)) dX2_keepJoined_57 (fun H locs hP hD hS => ?_)
          obtain ⟨hP, hD⟩ := kx_re (w2 := [kx_2 q_t q_row q_joined q_from q_to q_size q_lossOf q_lessBy q_value q_number nodes here, kx_a q_size cyI 319 fs, kx_a q_lossOf cyI 319 fo, kx_a q_lessBy cyI 319 fe, kx_a q_value cyI 1914 (upd wv y_8.toNatClampNeg y_9), kx_a q_number cyI 1914 (upd wn y_10.toNatClampNeg y_11), kx_3 q_joined j_v j_n js jl je, kx_a j_v cyI 12 jv, kx_a j_n cyI 12 jn]) hP hD rfl
          obtain ⟨x_12, ex_12⟩ : ∃ y : Int32, y = i + 1 := ⟨_, rfl⟩
          have i_12 : x_12.toInt = i.toInt + 1 := ki_add ex_12 rfl rfl (om_10 LP1_h0) (om_99 i_5)
          refine lv_iinc (v := x_12) (lv' := [(3, .int x_12), (2, .int y_1), (0, .ref q_t), (1, .int p0)]) hx hb dX2_keepJoined_58 hl (k := 0) rfl (by rw [ex_12]; rfl) (by decide) rfl (fun ls hl => ?_)
          refine lv_goto (tgt := 7) hx hb dX2_keepJoined_61 (by decide) ?_
          have n_13 := ki_nat y_8 rfl (om_90 b0 i_1 LP1_h0 i_8)
          have n_14 := ki_nat y_10 rfl (om_90 b0 i_1 LP1_h0 i_10)
          have n_15 := ki_nat x_12 rfl (om_31 LP1_h0 i_12)
          exact ih1 x_12 (upd wv y_8.toNatClampNeg y_9) (upd wn y_10.toNatClampNeg y_11) (om_31 LP1_h0 i_12) (fun q hq => by rw [upd_ne (by omega), upd_ne (by omega)]; exact LP1_h1 q hq) (om_mu hn1 (om_93 i_12) (om_100 i_5)) _ _ hP hD hS ls (lv_sub hl [0, 1, 2, 3] rfl)
  have k_16 : (0 : Int32).toInt = 0 := rfl
  exact LP1 ((6 - 0 : Int).toNat + 1) 0 uv un om_32 (fun q _ => ⟨rfl, rfl⟩) (Nat.lt_succ_self _) _ _ hP hD hS ls (lv_sub hl [0, 1, 2, 3] rfl)

set_option maxHeartbeats 4000000 in
set_option maxRecDepth 100000 in
theorem c_X2_renew_s (l : Launch) (dC : Nat → ClassId) (dI : Nat → Nat → Nat) (q_t : Nat) (q_row : Nat) (q_joined : Nat) (q_from : Nat) (q_to : Nat) (q_size : Nat) (q_lossOf : Nat) (q_lessBy : Nat) (q_value : Nat) (q_number : Nat) (nodes : Int32) (here : Int32) (q_cell : Nat) (cyI : ClassId) (len : Int32) (f : Nat → Int32) (ff : Nat → Int32) (ft : Nat → Int32) (fs : Nat → Int32) (fo : Nat → Int32) (uv : Nat → Int32) (un : Nat → Int32) (fe : Nat → Int32) (j_v : Nat) (j_n : Nat) (js : Int32) (jl : Int32) (je : Int32) (jv : Nat → Int32) (jn : Nat → Int32) (p0 : Int32) (p1 : Int32) (sz : Nat) (b0 : 0 ≤ nodes.toInt) (c0 : nodes.toInt ≤ 319) (c1 : len.toInt ≤ 160) (s0 : sixes fs) (t0 : treeOk ff ft nodes.toInt len.toInt) : Met l yX2_renew wsX2_renew ({ frames := 4, cells := 0, slots := 0, locals := 180 }) (va_Pc [.ref q_t, .int p0, .int p1] (fun U => U.heap.size = sz ∧ va_P (dC, dI) vwCl [kx_2 q_t q_row q_joined q_from q_to q_size q_lossOf q_lessBy q_value q_number nodes here, kx_0 q_row q_cell len, kx_a q_cell cyI 160 f, kx_a q_from cyI 319 ff, kx_a q_to cyI 319 ft, kx_a q_size cyI 319 fs, kx_a q_lossOf cyI 319 fo, kx_a q_lessBy cyI 319 fe, kx_a q_value cyI 1914 uv, kx_a q_number cyI 1914 un, kx_3 q_joined j_v j_n js jl je, kx_a j_v cyI 12 jv, kx_a j_n cyI 12 jn] U.heap ∧ va_K (dC, dI) vwCl [(cyI, .int)] U ∧ va_D (fun _ => True) [kx_2 q_t q_row q_joined q_from q_to q_size q_lossOf q_lessBy q_value q_number nodes here, kx_0 q_row q_cell len, kx_a q_cell cyI 160 f, kx_a q_from cyI 319 ff, kx_a q_to cyI 319 ft, kx_a q_size cyI 319 fs, kx_a q_lossOf cyI 319 fo, kx_a q_lessBy cyI 319 fe, kx_a q_value cyI 1914 uv, kx_a q_number cyI 1914 un, kx_3 q_joined j_v j_n js jl je, kx_a j_v cyI 12 jv, kx_a j_n cyI 12 jn])) (va_Qi (fun (r : Int32) (u : (Nat → Int32) × (Nat → Int32) × (Nat → Int32) × (Nat → Int32) × (Nat → Int32) × Int32 × Int32 × Int32 × (Nat → Int32) × (Nat → Int32)) => sixes u.1 ∧ ∀ k : Nat, (k : Int) < nodes.toInt → ¬ mj_hit ff ft p0.toInt p1.toInt k → mj_e1 fs fo fe uv un u.1 u.2.1 u.2.2.1 u.2.2.2.1 u.2.2.2.2.1 k) (fun (u : (Nat → Int32) × (Nat → Int32) × (Nat → Int32) × (Nat → Int32) × (Nat → Int32) × Int32 × Int32 × Int32 × (Nat → Int32) × (Nat → Int32)) (t : State) => va_P (dC, dI) vwCl [kx_2 q_t q_row q_joined q_from q_to q_size q_lossOf q_lessBy q_value q_number nodes here, kx_0 q_row q_cell len, kx_a q_cell cyI 160 f, kx_a q_from cyI 319 ff, kx_a q_to cyI 319 ft, kx_a q_size cyI 319 u.1, kx_a q_lossOf cyI 319 u.2.1, kx_a q_lessBy cyI 319 u.2.2.1, kx_a q_value cyI 1914 u.2.2.2.1, kx_a q_number cyI 1914 u.2.2.2.2.1, kx_3 q_joined j_v j_n u.2.2.2.2.2.1 u.2.2.2.2.2.2.1 u.2.2.2.2.2.2.2.1, kx_a j_v cyI 12 u.2.2.2.2.2.2.2.2.1, kx_a j_n cyI 12 u.2.2.2.2.2.2.2.2.2] t.heap ∧ va_K (dC, dI) vwCl [(cyI, .int)] t ∧ va_D (va_A [kx_2 q_t q_row q_joined q_from q_to q_size q_lossOf q_lessBy q_value q_number nodes here, kx_0 q_row q_cell len, kx_a q_cell cyI 160 f, kx_a q_from cyI 319 ff, kx_a q_to cyI 319 ft, kx_a q_size cyI 319 fs, kx_a q_lossOf cyI 319 fo, kx_a q_lessBy cyI 319 fe, kx_a q_value cyI 1914 uv, kx_a q_number cyI 1914 un, kx_3 q_joined j_v j_n js jl je, kx_a j_v cyI 12 jv, kx_a j_n cyI 12 jn] sz) [kx_2 q_t q_row q_joined q_from q_to q_size q_lossOf q_lessBy q_value q_number nodes here, kx_0 q_row q_cell len, kx_a q_cell cyI 160 f, kx_a q_from cyI 319 ff, kx_a q_to cyI 319 ft, kx_a q_size cyI 319 u.1, kx_a q_lossOf cyI 319 u.2.1, kx_a q_lessBy cyI 319 u.2.2.1, kx_a q_value cyI 1914 u.2.2.2.1, kx_a q_number cyI 1914 u.2.2.2.2.1, kx_3 q_joined j_v j_n u.2.2.2.2.2.1 u.2.2.2.2.2.2.1 u.2.2.2.2.2.2.2.1, kx_a j_v cyI 12 u.2.2.2.2.2.2.2.2.1, kx_a j_n cyI 12 u.2.2.2.2.2.2.2.2.2]) (va_A [kx_2 q_t q_row q_joined q_from q_to q_size q_lossOf q_lessBy q_value q_number nodes here, kx_0 q_row q_cell len, kx_a q_cell cyI 160 f, kx_a q_from cyI 319 ff, kx_a q_to cyI 319 ft, kx_a q_size cyI 319 fs, kx_a q_lossOf cyI 319 fo, kx_a q_lessBy cyI 319 fe, kx_a q_value cyI 1914 uv, kx_a q_number cyI 1914 un, kx_3 q_joined j_v j_n js jl je, kx_a j_v cyI 12 jv, kx_a j_n cyI 12 jn] sz)) 0 0 (va_A [kx_2 q_t q_row q_joined q_from q_to q_size q_lossOf q_lessBy q_value q_number nodes here, kx_0 q_row q_cell len, kx_a q_cell cyI 160 f, kx_a q_from cyI 319 ff, kx_a q_to cyI 319 ft, kx_a q_size cyI 319 fs, kx_a q_lossOf cyI 319 fo, kx_a q_lessBy cyI 319 fe, kx_a q_value cyI 1914 uv, kx_a q_number cyI 1914 un, kx_3 q_joined j_v j_n js jl je, kx_a j_v cyI 12 jv, kx_a j_n cyI 12 jn] sz) := by
  refine Met.ofW (cc := cX2_renew) (maxL := 5) (ret := (some .int)) (by decide) rfl ?_
  intro p e s m args below meth c s₁ B hml hv
  obtain ⟨rfl, hsz, hP, hK, hD0⟩ := hv
  have hx := B.exec
  have hb := B.bytes
  have hr := B.returns
  have hts := atoms_spec (ws := wsX2_renew) B.pre
  have hown : s.vm.findClass RX2 = some m.cls := findClass_of_methodNamed B.named
  have hlocks := B.notSynchronized
  subst hsz
  have hD := hD0.self (sz := s.heap.size)
  generalize hAe : va_A [kx_2 q_t q_row q_joined q_from q_to q_size q_lossOf q_lessBy q_value q_number nodes here, kx_0 q_row q_cell len, kx_a q_cell cyI 160 f, kx_a q_from cyI 319 ff, kx_a q_to cyI 319 ft, kx_a q_size cyI 319 fs, kx_a q_lossOf cyI 319 fo, kx_a q_lessBy cyI 319 fe, kx_a q_value cyI 1914 uv, kx_a q_number cyI 1914 un, kx_3 q_joined j_v j_n js jl je, kx_a j_v cyI 12 jv, kx_a j_n cyI 12 jn] s.heap.size = A at hD ⊢
  have hA : ∀ q : Nat, s.heap.size ≤ q → A q := fun q h => by rw [← hAe]; exact Or.inr h
  have hS : va_S A s.heap s.heap [] := va_S.rf
  have hP : va_P (dC, dI) vwCl [kx_2 q_t q_row q_joined q_from q_to q_size q_lossOf q_lessBy q_value q_number nodes here, kx_0 q_row q_cell len, kx_a q_cell cyI 160 f, kx_a q_from cyI 319 ff, kx_a q_to cyI 319 ft, kx_a q_size cyI 319 fs, kx_a q_lossOf cyI 319 fo, kx_a q_lessBy cyI 319 fe, kx_a q_value cyI 1914 uv, kx_a q_number cyI 1914 un, kx_3 q_joined j_v j_n js jl je, kx_a j_v cyI 12 jv, kx_a j_n cyI 12 jn] s.heap := hP
  have hl := lv_entry ([.ref q_t, .int p0, .int p1]) (n := 5) (Nat.le_of_ble_eq_true rfl)
  rw [lg_entry_eq]
  generalize (lg_sl ([.ref q_t, .int p0, .int p1]) ++ List.replicate (5 - (lg_sl ([.ref q_t, .int p0, .int p1])).length) Slot.unset).toArray = ls at hl ⊢
  have hl : lv_has ls 5 [(0, .ref q_t), (1, .int p0), (2, .int p1)] := hl
  have hf_50 := hts (.fieldLink RX2 50 "MajorityIndex$Tree" "nodes" "I") (List.mem_of_getElem? (i := 1) rfl)
  have hi_2 : ∀ w ∈ u_ws RX2 TX2 11, w ∈ wsX2_renew := fun w h => List.mem_cons_of_mem _ (List.mem_append_left _ (List.mem_append_left _ (List.mem_append_right _ h)))
  have hf_18 := hts (.fieldLink RX2 18 "MajorityIndex$Tree" "from" "[I") (List.mem_of_getElem? (i := 2) rfl)
  have hf_22 := hts (.fieldLink RX2 22 "MajorityIndex$Tree" "to" "[I") (List.mem_of_getElem? (i := 3) rfl)
  refine lv_iconst (v := 0) hx hb dX2_renew_0 (by decide) ?_
  refine lv_istore_n (lv' := [(3, .int 0), (0, .ref q_t), (1, .int p0), (2, .int p1)]) hx hb dX2_renew_1 rfl hl (by decide) rfl (fun ls hl => ?_)
  refine lv_aload_n hx hb dX2_renew_2 rfl (lv_at hl 1 rfl) ?_
  refine va_get (D := (dC, dI)) (ci := 2) (v := .int nodes) (C := RX2) (T := TX2) (N := 11) hx hb hts hi_2 hown hK hP 0 rfl rfl 9 (by decide) hf_50 (fun _ h9 => h9) rfl dX2_renew_3 ?_
  refine lv_iconst (v := 1) hx hb dX2_renew_6 (by decide) ?_
  refine lv_isub hx hb dX2_renew_7 ?_
  refine lv_topi (fun y_1 ey_1 => ?_)
  have i_1 : y_1.toInt = nodes.toInt - 1 := ki_sub ey_1 rfl rfl (om_104 b0) (om_105 c0)
  refine lv_istore (lv' := [(4, .int y_1), (3, .int 0), (0, .ref q_t), (1, .int p0), (2, .int p1)]) hx hb dX2_renew_8 hl (by decide) rfl (fun ls hl => ?_)
  have LP1 : ∀ (n : Nat) (oth : Int32) (i : Int32) (ks : Nat → Int32) (ko : Nat → Int32) (ke : Nat → Int32) (kv : Nat → Int32) (kn : Nat → Int32) (kj : Int32) (kl : Int32) (kb : Int32) (kjv : Nat → Int32) (kjn : Nat → Int32), (i.toInt < nodes.toInt) → (-1 ≤ i.toInt) → (sixes ks) → (∀ k : Nat, (k : Int) < nodes.toInt → ¬ mj_hit ff ft p0.toInt p1.toInt k → mj_e1 fs fo fe uv un ks ko ke kv kn k) → (i.toInt + 1).toNat < n → ∀ (H : Heap) (locs : List Loc), va_P (dC, dI) vwCl [kx_2 q_t q_row q_joined q_from q_to q_size q_lossOf q_lessBy q_value q_number nodes here, kx_0 q_row q_cell len, kx_a q_cell cyI 160 f, kx_a q_from cyI 319 ff, kx_a q_to cyI 319 ft, kx_a q_size cyI 319 ks, kx_a q_lossOf cyI 319 ko, kx_a q_lessBy cyI 319 ke, kx_a q_value cyI 1914 kv, kx_a q_number cyI 1914 kn, kx_3 q_joined j_v j_n kj kl kb, kx_a j_v cyI 12 kjv, kx_a j_n cyI 12 kjn] H → va_D A [kx_2 q_t q_row q_joined q_from q_to q_size q_lossOf q_lessBy q_value q_number nodes here, kx_0 q_row q_cell len, kx_a q_cell cyI 160 f, kx_a q_from cyI 319 ff, kx_a q_to cyI 319 ft, kx_a q_size cyI 319 ks, kx_a q_lossOf cyI 319 ko, kx_a q_lessBy cyI 319 ke, kx_a q_value cyI 1914 kv, kx_a q_number cyI 1914 kn, kx_3 q_joined j_v j_n kj kl kb, kx_a j_v cyI 12 kjv, kx_a j_n cyI 12 kjn] → va_S A s.heap H locs → ∀ (ls : Array Slot), lv_has ls 5 [(4, .int i), (3, .int oth), (0, .ref q_t), (1, .int p0), (2, .int p1)] → W p l e (headSpec wsX2_renew ({ frames := 4, cells := 0, slots := 0, locals := 180 })).room s m ([.ref q_t, .int p0, .int p1] : List Value).toArray below meth c H locs 0 0 (MQ below (va_Qi (fun (r : Int32) (u : (Nat → Int32) × (Nat → Int32) × (Nat → Int32) × (Nat → Int32) × (Nat → Int32) × Int32 × Int32 × Int32 × (Nat → Int32) × (Nat → Int32)) => sixes u.1 ∧ ∀ k : Nat, (k : Int) < nodes.toInt → ¬ mj_hit ff ft p0.toInt p1.toInt k → mj_e1 fs fo fe uv un u.1 u.2.1 u.2.2.1 u.2.2.2.1 u.2.2.2.2.1 k) (fun (u : (Nat → Int32) × (Nat → Int32) × (Nat → Int32) × (Nat → Int32) × (Nat → Int32) × Int32 × Int32 × Int32 × (Nat → Int32) × (Nat → Int32)) (t : State) => va_P (dC, dI) vwCl [kx_2 q_t q_row q_joined q_from q_to q_size q_lossOf q_lessBy q_value q_number nodes here, kx_0 q_row q_cell len, kx_a q_cell cyI 160 f, kx_a q_from cyI 319 ff, kx_a q_to cyI 319 ft, kx_a q_size cyI 319 u.1, kx_a q_lossOf cyI 319 u.2.1, kx_a q_lessBy cyI 319 u.2.2.1, kx_a q_value cyI 1914 u.2.2.2.1, kx_a q_number cyI 1914 u.2.2.2.2.1, kx_3 q_joined j_v j_n u.2.2.2.2.2.1 u.2.2.2.2.2.2.1 u.2.2.2.2.2.2.2.1, kx_a j_v cyI 12 u.2.2.2.2.2.2.2.2.1, kx_a j_n cyI 12 u.2.2.2.2.2.2.2.2.2] t.heap ∧ va_K (dC, dI) vwCl [(cyI, .int)] t ∧ va_D A [kx_2 q_t q_row q_joined q_from q_to q_size q_lossOf q_lessBy q_value q_number nodes here, kx_0 q_row q_cell len, kx_a q_cell cyI 160 f, kx_a q_from cyI 319 ff, kx_a q_to cyI 319 ft, kx_a q_size cyI 319 u.1, kx_a q_lossOf cyI 319 u.2.1, kx_a q_lessBy cyI 319 u.2.2.1, kx_a q_value cyI 1914 u.2.2.2.1, kx_a q_number cyI 1914 u.2.2.2.2.1, kx_3 q_joined j_v j_n u.2.2.2.2.2.1 u.2.2.2.2.2.2.1 u.2.2.2.2.2.2.2.1, kx_a j_v cyI 12 u.2.2.2.2.2.2.2.2.1, kx_a j_n cyI 12 u.2.2.2.2.2.2.2.2.2]) A) ([.ref q_t, .int p0, .int p1] : List Value).toArray s 0 0 A) (F0 m 10 ls []) := by
    intro n
    induction n with
    | zero => intro oth i ks ko ke kv kn kj kl kb kjv kjn LP1_h0 LP1_h1 LP1_h2 LP1_h3 hn; exact absurd hn (Nat.not_lt_zero _)
    | succ n ih1 =>
      intro oth i ks ko ke kv kn kj kl kb kjv kjn LP1_h0 LP1_h1 LP1_h2 LP1_h3 hn1 H locs hP hD hS ls hl
      refine lv_iload hx hb dX2_renew_10 (lv_at hl 0 rfl) ?_
      refine lv_if_lt (tgt := 67) hx hb dX2_renew_12 (by decide) (fun c_2 => ?_) (fun c_2 => ?_)
      · have i_2 : i.toInt < 0 := kc_lt c_2
        refine lv_iload_n hx hb dX2_renew_67 rfl (lv_at hl 1 rfl) ?_
        have hP9 := hP
        have hD9 := hD
        have hK9 := hK
        exact W.iret (v := oth) hx hb hr (fun t ht hW => ⟨⟨oth, (ks, ko, ke, kv, kn, kj, kl, kb, kjv, kjn), rfl, ⟨LP1_h2, LP1_h3⟩, by rw [ht]; exact hP9, va_K.moved hW.alike hK9, hD9⟩, hS.F ht⟩) hS.2.2 dX2_renew_68
      · have i_2 : 0 ≤ i.toInt := kc_nlt c_2
        have n_i := ki_nat i rfl (om_8 i_2)
        refine lv_aload_n hx hb dX2_renew_15 rfl (lv_at hl 2 rfl) ?_
        refine va_get (D := (dC, dI)) (ci := 2) (v := .ref q_from) (C := RX2) (T := TX2) (N := 11) hx hb hts hi_2 hown hK hP 0 rfl rfl 2 (by decide) hf_18 (fun _ h9 => h9) rfl dX2_renew_16 ?_
        refine lv_iload hx hb dX2_renew_19 (lv_at hl 0 rfl) ?_
        refine va_iald hx hb hK hP 3 0 rfl rfl (ki_in (om_8 i_2) (om_106 c0 LP1_h0)) dX2_renew_21 ?_
        refine lv_topi (fun y_3 ey_3 => ?_)
        have j_3 : y_3.toInt = (ff i.toNatClampNeg).toInt := congrArg Int32.toInt ey_3
        refine lv_iload_n hx hb dX2_renew_22 rfl (lv_at hl 4 rfl) ?_
        refine lv_icmp_ge (tgt := 61) hx hb dX2_renew_23 (by decide) (fun c_4 => ?_) (fun c_4 => ?_)
        · have i_4 : p1.toInt ≤ y_3.toInt := kc_le c_4
          obtain ⟨x_5, ex_5⟩ : ∃ y : Int32, y = i + (-1) := ⟨_, rfl⟩
          have i_5 : x_5.toInt = i.toInt + (-1) := ki_add ex_5 rfl rfl (om_107 i_2) (om_108 c0 LP1_h0)
          refine lv_iinc (v := x_5) (lv' := [(4, .int x_5), (3, .int oth), (0, .ref q_t), (1, .int p0), (2, .int p1)]) hx hb dX2_renew_61 hl (k := 0) rfl (by rw [ex_5]; rfl) (by decide) rfl (fun ls hl => ?_)
          refine lv_goto (tgt := 10) hx hb dX2_renew_64 (by decide) ?_
          exact ih1 oth x_5 ks ko ke kv kn kj kl kb kjv kjn (om_109 LP1_h0 i_5) (om_110 i_2 i_5) LP1_h2 LP1_h3 (om_mu hn1 (om_111 i_5) (om_112 i_2)) _ _ hP hD hS ls (lv_sub hl [0, 1, 2, 3, 4] rfl)
        · have i_4 : y_3.toInt < p1.toInt := kc_nle c_4
          refine lv_iload_n hx hb dX2_renew_26 rfl (lv_at hl 3 rfl) ?_
          refine lv_aload_n hx hb dX2_renew_27 rfl (lv_at hl 2 rfl) ?_
          refine va_get (D := (dC, dI)) (ci := 2) (v := .ref q_to) (C := RX2) (T := TX2) (N := 11) hx hb hts hi_2 hown hK hP 0 rfl rfl 3 (by decide) hf_22 (fun _ h9 => h9) rfl dX2_renew_28 ?_
          refine lv_iload hx hb dX2_renew_31 (lv_at hl 0 rfl) ?_
          refine va_iald hx hb hK hP 4 0 rfl rfl (ki_in (om_8 i_2) (om_106 c0 LP1_h0)) dX2_renew_33 ?_
          refine lv_topi (fun y_6 ey_6 => ?_)
          have j_6 : y_6.toInt = (ft i.toNatClampNeg).toInt := congrArg Int32.toInt ey_6
          refine lv_icmp_ge (tgt := 61) hx hb dX2_renew_34 (by decide) (fun c_7 => ?_) (fun c_7 => ?_)
          · have i_7 : y_6.toInt ≤ p0.toInt := kc_le c_7
            obtain ⟨x_8, ex_8⟩ : ∃ y : Int32, y = i + (-1) := ⟨_, rfl⟩
            have i_8 : x_8.toInt = i.toInt + (-1) := ki_add ex_8 rfl rfl (om_107 i_2) (om_108 c0 LP1_h0)
            refine lv_iinc (v := x_8) (lv' := [(4, .int x_8), (3, .int oth), (0, .ref q_t), (1, .int p0), (2, .int p1)]) hx hb dX2_renew_61 hl (k := 0) rfl (by rw [ex_8]; rfl) (by decide) rfl (fun ls hl => ?_)
            refine lv_goto (tgt := 10) hx hb dX2_renew_64 (by decide) ?_
            exact ih1 oth x_8 ks ko ke kv kn kj kl kb kjv kjn (om_109 LP1_h0 i_8) (om_110 i_2 i_8) LP1_h2 LP1_h3 (om_mu hn1 (om_111 i_8) (om_112 i_2)) _ _ hP hD hS ls (lv_sub hl [0, 1, 2, 3, 4] rfl)
          · have i_7 : p0.toInt < y_6.toInt := kc_nle c_7
            refine lv_aload_n hx hb dX2_renew_37 rfl (lv_at hl 2 rfl) ?_
            refine lv_iload hx hb dX2_renew_38 (lv_at hl 0 rfl) ?_
            obtain ⟨hPc, hDc, hFc, hCc⟩ := kx_pre (wc := [kx_2 q_t q_row q_joined q_from q_to q_size q_lossOf q_lessBy q_value q_number nodes here, kx_0 q_row q_cell len, kx_a q_cell cyI 160 f, kx_a q_from cyI 319 ff, kx_a q_to cyI 319 ft, kx_a q_size cyI 319 ks, kx_a q_lossOf cyI 319 ko, kx_a q_value cyI 1914 kv, kx_a q_number cyI 1914 kn, kx_3 q_joined j_v j_n kj kl kb, kx_a j_v cyI 12 kjv, kx_a j_n cyI 12 kjn]) hP hD hS hA [0, 1, 2, 3, 4, 5, 6, 8, 9, 10, 11, 12] (by decide) rfl
            have hKc := hK
            refine va_callv (va_runV (As := [.int i]) (rest := []) ⟨hx, hb, hml, hown, hts⟩ (c_X2_putTogether l dC dI q_t q_row q_joined q_from q_to q_size q_lossOf q_lessBy q_value q_number nodes here q_cell cyI len f ff ft ks ko kv kn j_v j_n kj kl kb kjv kjn i H.size i_2 LP1_h0 c0 c1 LP1_h2 t0) (cwV 1 hts gX2_renew_X2_putTogether rfl rfl rfl (by decide +kernel) ⟨Nat.le_of_ble_eq_true rfl, Nat.le_of_ble_eq_true rfl⟩) ⟨fun a U g mk q => by obtain ⟨q0, q1, qP, qK, qD⟩ := q; exact ⟨q0, q1, qP, va_K.moved (u := U) (U := U.calling g mk a) (Vm.Alike.refl U.vm) qK, qD⟩, va_recv hKc hPc (ci := 2) (q0 := 0) rfl rfl, fun U hU hW => ⟨rfl, by rw [hU], by rw [hU]; exact hPc, va_K.moved hW.alike hKc, hDc.weaken (fun _ _ _ _ => trivial)⟩⟩ rfl rfl hl.1 rfl (lv_room (Nat.le_of_ble_eq_true rfl)) dX2_renew_40 ⟨Nat.le_of_ble_eq_true rfl, Nat.le_of_ble_eq_true rfl⟩) hS (fun q _ h => hFc q h) hFc (fun u t H1 locs ht hvm w_9 hB hz1 hk1 hS => ?_)
            obtain ⟨o_10, o_11, o_12, o_13, o_14⟩ := u
            dsimp only at w_9 hB
            obtain ⟨hP1, hK1, hD1⟩ := hB
            rw [ht] at hP1
            have hK1 := va_K.moved hvm.symm hK1
            obtain ⟨hP, hD⟩ := kx_join (w2 := [kx_a q_lessBy cyI 319 ke, kx_2 q_t q_row q_joined q_from q_to q_size q_lossOf q_lessBy q_value q_number nodes here, kx_0 q_row q_cell len, kx_a q_cell cyI 160 f, kx_a q_from cyI 319 ff, kx_a q_to cyI 319 ft, kx_a q_size cyI 319 ks, kx_a q_lossOf cyI 319 ko, kx_a q_value cyI 1914 kv, kx_a q_number cyI 1914 kn, kx_3 q_joined j_v j_n o_10 o_11 o_12, kx_a j_v cyI 12 o_13, kx_a j_n cyI 12 o_14]) hP hD hP1 hD1 hk1 hFc [0, 1, 2, 3, 4, 5, 6, 8, 9, 10, 11, 12] [7] hCc rfl (by decide) (by decide)
            clear hP1 hD1 hK1 hk1 hz1 hFc hDc hPc hKc hCc
            generalize H1 = H at hP hS ⊢
            have w_9 : 0 ≤ o_10.toInt ∧ o_10.toInt ≤ 12 := w_9
            refine lv_aload_n hx hb dX2_renew_43 rfl (lv_at hl 2 rfl) ?_
            refine lv_iload hx hb dX2_renew_44 (lv_at hl 0 rfl) ?_
            have hPc := hP.sub (ws' := [kx_2 q_t q_row q_joined q_from q_to q_size q_lossOf q_lessBy q_value q_number nodes here, kx_a q_size cyI 319 ks, kx_a q_lossOf cyI 319 ko, kx_a q_value cyI 1914 kv, kx_a q_number cyI 1914 kn, kx_3 q_joined j_v j_n o_10 o_11 o_12, kx_a j_v cyI 12 o_13, kx_a j_n cyI 12 o_14]) [1, 6, 7, 8, 9, 10, 11, 12] rfl
            have hKc := hK
            refine vp_callSi (W.runV (As := [.int i]) (rest := []) ⟨hx, hb, hml, hown, hts⟩ (c_X2_isJoined l dC dI q_t q_row q_joined q_from q_to q_size q_lossOf q_lessBy q_value q_number nodes here cyI ks ko kv kn j_v j_n o_10 o_11 o_12 o_13 o_14 i i_2 (om_113 c0 LP1_h0) w_9.1 w_9.2) (cwV 1 hts gX2_renew_X2_isJoined rfl rfl rfl (by decide +kernel) ⟨Nat.le_of_ble_eq_true rfl, Nat.le_of_ble_eq_true rfl⟩) ⟨fun a U g mk q => by obtain ⟨q0, qP, qK⟩ := q; exact ⟨q0, qP, va_K.moved (u := U) (U := U.calling g mk a) (Vm.Alike.refl U.vm) qK⟩, va_recv hKc hPc (ci := 2) (q0 := 0) rfl rfl, fun U hU hW => ⟨rfl, by rw [hU]; exact hPc, va_K.moved hW.alike hKc⟩⟩ rfl rfl hl.1 rfl (lv_room (Nat.le_of_ble_eq_true rfl)) dX2_renew_46 ⟨Nat.le_of_ble_eq_true rfl, Nat.le_of_ble_eq_true rfl⟩) (fun r_15 w_15 => ?_)
            rcases w_15 with ⟨rfl, w_15⟩ | ⟨rfl, w_15⟩
            · have w_15 : (0 : Int) ≤ 1 := w_15
              refine lv_if_ne (tgt := 55) hx hb dX2_renew_49 (by decide) (fun c_16 => ?_) (fun c_16 => ?_)
              · refine lv_aload_n hx hb dX2_renew_55 rfl (lv_at hl 2 rfl) ?_
                refine lv_iload hx hb dX2_renew_56 (lv_at hl 0 rfl) ?_
                obtain ⟨hPc, hDc, hFc, hCc⟩ := kx_pre (wc := [kx_2 q_t q_row q_joined q_from q_to q_size q_lossOf q_lessBy q_value q_number nodes here, kx_a q_size cyI 319 ks, kx_a q_lossOf cyI 319 ko, kx_a q_lessBy cyI 319 ke, kx_a q_value cyI 1914 kv, kx_a q_number cyI 1914 kn, kx_3 q_joined j_v j_n o_10 o_11 o_12, kx_a j_v cyI 12 o_13, kx_a j_n cyI 12 o_14]) hP hD hS hA [1, 6, 7, 0, 8, 9, 10, 11, 12] (by decide) rfl
                have hKc := hK
                refine va_callv (va_runV (As := [.int i]) (rest := []) ⟨hx, hb, hml, hown, hts⟩ (c_X2_keepJoined_s l dC dI q_t q_row q_joined q_from q_to q_size q_lossOf q_lessBy q_value q_number nodes here cyI ks ko kv kn ke j_v j_n o_10 o_11 o_12 o_13 o_14 i H.size i_2 (om_113 c0 LP1_h0) w_9.1 w_9.2 LP1_h2) (cwV 1 hts gX2_renew_X2_keepJoined rfl rfl rfl (by decide +kernel) ⟨Nat.le_of_ble_eq_true rfl, Nat.le_of_ble_eq_true rfl⟩) ⟨fun a U g mk q => by obtain ⟨q0, q1, qP, qK, qD⟩ := q; exact ⟨q0, q1, qP, va_K.moved (u := U) (U := U.calling g mk a) (Vm.Alike.refl U.vm) qK, qD⟩, va_recv hKc hPc (ci := 2) (q0 := 0) rfl rfl, fun U hU hW => ⟨rfl, by rw [hU], by rw [hU]; exact hPc, va_K.moved hW.alike hKc, hDc.weaken (fun _ _ _ _ => trivial)⟩⟩ rfl rfl hl.1 rfl (lv_room (Nat.le_of_ble_eq_true rfl)) dX2_renew_58 ⟨Nat.le_of_ble_eq_true rfl, Nat.le_of_ble_eq_true rfl⟩) hS (fun q _ h => hFc q h) hFc (fun u t H1 locs ht hvm w_17 hB hz1 hk1 hS => ?_)
                obtain ⟨o_18, o_19, o_20, o_21, o_22⟩ := u
                dsimp only at w_17 hB
                obtain ⟨hP1, hK1, hD1⟩ := hB
                rw [ht] at hP1
                have hK1 := va_K.moved hvm.symm hK1
                obtain ⟨hP, hD⟩ := kx_join (w2 := [kx_0 q_row q_cell len, kx_a q_cell cyI 160 f, kx_a q_from cyI 319 ff, kx_a q_to cyI 319 ft, kx_2 q_t q_row q_joined q_from q_to q_size q_lossOf q_lessBy q_value q_number nodes here, kx_a q_size cyI 319 o_18, kx_a q_lossOf cyI 319 o_19, kx_a q_lessBy cyI 319 o_20, kx_a q_value cyI 1914 o_21, kx_a q_number cyI 1914 o_22, kx_3 q_joined j_v j_n o_10 o_11 o_12, kx_a j_v cyI 12 o_13, kx_a j_n cyI 12 o_14]) hP hD hP1 hD1 hk1 hFc [1, 6, 7, 0, 8, 9, 10, 11, 12] [2, 3, 4, 5] hCc rfl (by decide) (by decide)
                clear hP1 hD1 hK1 hk1 hz1 hFc hDc hPc hKc hCc
                generalize H1 = H at hP hS ⊢
                have w_17 : sixes o_18 ∧ (∀ j : Nat, ¬ j = i.toNatClampNeg → o_18 j = ks j ∧ o_19 j = ko j ∧ o_20 j = ke j) ∧ ∀ q : Nat, (q < 6 * i.toNatClampNeg ∨ 6 * i.toNatClampNeg + 6 ≤ q) → o_21 q = kv q ∧ o_22 q = kn q := w_17
                obtain ⟨x_23, ex_23⟩ : ∃ y : Int32, y = i + (-1) := ⟨_, rfl⟩
                have i_23 : x_23.toInt = i.toInt + (-1) := ki_add ex_23 rfl rfl (om_107 i_2) (om_108 c0 LP1_h0)
                refine lv_iinc (v := x_23) (lv' := [(4, .int x_23), (3, .int oth), (0, .ref q_t), (1, .int p0), (2, .int p1)]) hx hb dX2_renew_61 hl (k := 0) rfl (by rw [ex_23]; rfl) (by decide) rfl (fun ls hl => ?_)
                refine lv_goto (tgt := 10) hx hb dX2_renew_64 (by decide) ?_
                have hP : va_P (dC, dI) vwCl [kx_2 q_t q_row q_joined q_from q_to q_size q_lossOf q_lessBy q_value q_number nodes here, kx_0 q_row q_cell len, kx_a q_cell cyI 160 f, kx_a q_from cyI 319 ff, kx_a q_to cyI 319 ft, kx_a q_size cyI 319 o_18, kx_a q_lossOf cyI 319 o_19, kx_a q_lessBy cyI 319 o_20, kx_a q_value cyI 1914 o_21, kx_a q_number cyI 1914 o_22, kx_3 q_joined j_v j_n o_10 o_11 o_12, kx_a j_v cyI 12 o_13, kx_a j_n cyI 12 o_14] _ := hP.sub [4, 0, 1, 2, 3, 5, 6, 7, 8, 9, 10, 11, 12] rfl
                have hD : va_D A [kx_2 q_t q_row q_joined q_from q_to q_size q_lossOf q_lessBy q_value q_number nodes here, kx_0 q_row q_cell len, kx_a q_cell cyI 160 f, kx_a q_from cyI 319 ff, kx_a q_to cyI 319 ft, kx_a q_size cyI 319 o_18, kx_a q_lossOf cyI 319 o_19, kx_a q_lessBy cyI 319 o_20, kx_a q_value cyI 1914 o_21, kx_a q_number cyI 1914 o_22, kx_3 q_joined j_v j_n o_10 o_11 o_12, kx_a j_v cyI 12 o_13, kx_a j_n cyI 12 o_14] := hD.sub [4, 0, 1, 2, 3, 5, 6, 7, 8, 9, 10, 11, 12] (by decide) rfl
                have hit_i : mj_hit ff ft p0.toInt p1.toInt i.toNatClampNeg := by unfold mj_hit; omega
                exact ih1 oth x_23 o_18 o_19 o_20 o_21 o_22 o_10 o_11 o_12 o_13 o_14 (om_109 LP1_h0 i_23) (om_110 i_2 i_23) w_17.1 (fun k h1 h2 => by have hne : ¬ k = i.toNatClampNeg := fun e => h2 (by rw [e]; exact hit_i); obtain ⟨x1, x2, x3, x4⟩ := LP1_h3 k h1 h2; obtain ⟨y1, y2, y3⟩ := w_17.2.1 k hne; exact ⟨y1.trans x1, y2.trans x2, y3.trans x3, fun q z1 z2 => by have a := w_17.2.2 q (by omega); have b := x4 q z1 z2; exact ⟨a.1.trans b.1, a.2.trans b.2⟩⟩) (om_mu hn1 (om_111 i_23) (om_112 i_2)) _ _ hP hD hS ls (lv_sub hl [0, 1, 2, 3, 4] rfl)
              · exact absurd c_16 (by decide)
            · have w_15 : (0 : Int) ≤ 1 := w_15
              refine lv_if_ne (tgt := 55) hx hb dX2_renew_49 (by decide) (fun c_24 => ?_) (fun c_24 => ?_)
              · exact absurd c_24 (by decide)
              · obtain ⟨x_25, ex_25⟩ : ∃ y : Int32, y = oth + 1 := ⟨_, rfl⟩
                refine lv_iinc (v := x_25) (lv' := [(3, .int x_25), (4, .int i), (0, .ref q_t), (1, .int p0), (2, .int p1)]) hx hb dX2_renew_52 hl (k := 1) rfl (by rw [ex_25]; rfl) (by decide) rfl (fun ls hl => ?_)
                refine lv_aload_n hx hb dX2_renew_55 rfl (lv_at hl 2 rfl) ?_
                refine lv_iload hx hb dX2_renew_56 (lv_at hl 1 rfl) ?_
                obtain ⟨hPc, hDc, hFc, hCc⟩ := kx_pre (wc := [kx_2 q_t q_row q_joined q_from q_to q_size q_lossOf q_lessBy q_value q_number nodes here, kx_a q_size cyI 319 ks, kx_a q_lossOf cyI 319 ko, kx_a q_lessBy cyI 319 ke, kx_a q_value cyI 1914 kv, kx_a q_number cyI 1914 kn, kx_3 q_joined j_v j_n o_10 o_11 o_12, kx_a j_v cyI 12 o_13, kx_a j_n cyI 12 o_14]) hP hD hS hA [1, 6, 7, 0, 8, 9, 10, 11, 12] (by decide) rfl
                have hKc := hK
                refine va_callv (va_runV (As := [.int i]) (rest := []) ⟨hx, hb, hml, hown, hts⟩ (c_X2_keepJoined_s l dC dI q_t q_row q_joined q_from q_to q_size q_lossOf q_lessBy q_value q_number nodes here cyI ks ko kv kn ke j_v j_n o_10 o_11 o_12 o_13 o_14 i H.size i_2 (om_113 c0 LP1_h0) w_9.1 w_9.2 LP1_h2) (cwV 1 hts gX2_renew_X2_keepJoined rfl rfl rfl (by decide +kernel) ⟨Nat.le_of_ble_eq_true rfl, Nat.le_of_ble_eq_true rfl⟩) ⟨fun a U g mk q => by obtain ⟨q0, q1, qP, qK, qD⟩ := q; exact ⟨q0, q1, qP, va_K.moved (u := U) (U := U.calling g mk a) (Vm.Alike.refl U.vm) qK, qD⟩, va_recv hKc hPc (ci := 2) (q0 := 0) rfl rfl, fun U hU hW => ⟨rfl, by rw [hU], by rw [hU]; exact hPc, va_K.moved hW.alike hKc, hDc.weaken (fun _ _ _ _ => trivial)⟩⟩ rfl rfl hl.1 rfl (lv_room (Nat.le_of_ble_eq_true rfl)) dX2_renew_58 ⟨Nat.le_of_ble_eq_true rfl, Nat.le_of_ble_eq_true rfl⟩) hS (fun q _ h => hFc q h) hFc (fun u t H1 locs ht hvm w_26 hB hz1 hk1 hS => ?_)
                obtain ⟨o_27, o_28, o_29, o_30, o_31⟩ := u
                dsimp only at w_26 hB
                obtain ⟨hP1, hK1, hD1⟩ := hB
                rw [ht] at hP1
                have hK1 := va_K.moved hvm.symm hK1
                obtain ⟨hP, hD⟩ := kx_join (w2 := [kx_0 q_row q_cell len, kx_a q_cell cyI 160 f, kx_a q_from cyI 319 ff, kx_a q_to cyI 319 ft, kx_2 q_t q_row q_joined q_from q_to q_size q_lossOf q_lessBy q_value q_number nodes here, kx_a q_size cyI 319 o_27, kx_a q_lossOf cyI 319 o_28, kx_a q_lessBy cyI 319 o_29, kx_a q_value cyI 1914 o_30, kx_a q_number cyI 1914 o_31, kx_3 q_joined j_v j_n o_10 o_11 o_12, kx_a j_v cyI 12 o_13, kx_a j_n cyI 12 o_14]) hP hD hP1 hD1 hk1 hFc [1, 6, 7, 0, 8, 9, 10, 11, 12] [2, 3, 4, 5] hCc rfl (by decide) (by decide)
                clear hP1 hD1 hK1 hk1 hz1 hFc hDc hPc hKc hCc
                generalize H1 = H at hP hS ⊢
                have w_26 : sixes o_27 ∧ (∀ j : Nat, ¬ j = i.toNatClampNeg → o_27 j = ks j ∧ o_28 j = ko j ∧ o_29 j = ke j) ∧ ∀ q : Nat, (q < 6 * i.toNatClampNeg ∨ 6 * i.toNatClampNeg + 6 ≤ q) → o_30 q = kv q ∧ o_31 q = kn q := w_26
                obtain ⟨x_32, ex_32⟩ : ∃ y : Int32, y = i + (-1) := ⟨_, rfl⟩
                have i_32 : x_32.toInt = i.toInt + (-1) := ki_add ex_32 rfl rfl (om_107 i_2) (om_108 c0 LP1_h0)
                refine lv_iinc (v := x_32) (lv' := [(4, .int x_32), (3, .int x_25), (0, .ref q_t), (1, .int p0), (2, .int p1)]) hx hb dX2_renew_61 hl (k := 1) rfl (by rw [ex_32]; rfl) (by decide) rfl (fun ls hl => ?_)
                refine lv_goto (tgt := 10) hx hb dX2_renew_64 (by decide) ?_
                have hP : va_P (dC, dI) vwCl [kx_2 q_t q_row q_joined q_from q_to q_size q_lossOf q_lessBy q_value q_number nodes here, kx_0 q_row q_cell len, kx_a q_cell cyI 160 f, kx_a q_from cyI 319 ff, kx_a q_to cyI 319 ft, kx_a q_size cyI 319 o_27, kx_a q_lossOf cyI 319 o_28, kx_a q_lessBy cyI 319 o_29, kx_a q_value cyI 1914 o_30, kx_a q_number cyI 1914 o_31, kx_3 q_joined j_v j_n o_10 o_11 o_12, kx_a j_v cyI 12 o_13, kx_a j_n cyI 12 o_14] _ := hP.sub [4, 0, 1, 2, 3, 5, 6, 7, 8, 9, 10, 11, 12] rfl
                have hD : va_D A [kx_2 q_t q_row q_joined q_from q_to q_size q_lossOf q_lessBy q_value q_number nodes here, kx_0 q_row q_cell len, kx_a q_cell cyI 160 f, kx_a q_from cyI 319 ff, kx_a q_to cyI 319 ft, kx_a q_size cyI 319 o_27, kx_a q_lossOf cyI 319 o_28, kx_a q_lessBy cyI 319 o_29, kx_a q_value cyI 1914 o_30, kx_a q_number cyI 1914 o_31, kx_3 q_joined j_v j_n o_10 o_11 o_12, kx_a j_v cyI 12 o_13, kx_a j_n cyI 12 o_14] := hD.sub [4, 0, 1, 2, 3, 5, 6, 7, 8, 9, 10, 11, 12] (by decide) rfl
                have hit_i : mj_hit ff ft p0.toInt p1.toInt i.toNatClampNeg := by unfold mj_hit; omega
                exact ih1 x_25 x_32 o_27 o_28 o_29 o_30 o_31 o_10 o_11 o_12 o_13 o_14 (om_109 LP1_h0 i_32) (om_110 i_2 i_32) w_26.1 (fun k h1 h2 => by have hne : ¬ k = i.toNatClampNeg := fun e => h2 (by rw [e]; exact hit_i); obtain ⟨x1, x2, x3, x4⟩ := LP1_h3 k h1 h2; obtain ⟨y1, y2, y3⟩ := w_26.2.1 k hne; exact ⟨y1.trans x1, y2.trans x2, y3.trans x3, fun q z1 z2 => by have a := w_26.2.2 q (by omega); have b := x4 q z1 z2; exact ⟨a.1.trans b.1, a.2.trans b.2⟩⟩) (om_mu hn1 (om_111 i_32) (om_112 i_2)) _ _ hP hD hS ls (lv_sub hl [0, 1, 2, 3, 4] rfl)
  have k_33 : (0 : Int32).toInt = 0 := rfl
  exact LP1 ((y_1.toInt + 1 : Int).toNat + 1) 0 y_1 fs fo fe uv un js jl je jv jn (om_114 i_1) (om_115 b0 i_1) s0 (fun k _ _ => ⟨rfl, rfl, rfl, fun q _ _ => ⟨rfl, rfl⟩⟩) (Nat.lt_succ_self _) _ _ hP hD hS ls (lv_sub hl [0, 1, 2, 3, 4] rfl)

set_option maxHeartbeats 4000000 in
set_option maxRecDepth 100000 in
theorem c_X4_heavyVotesBy_s (l : Launch) (dC : Nat → ClassId) (dI : Nat → Nat → Nat) (m_ : Nat) (q_row : Nat) (q_t : Nat) (t_ : Nat) (h0 : Nat) (k0 : Nat) (w_ : Nat) (z_ : Nat) (slots : Int32) (old : Int32) (q_joined : Nat) (q_from : Nat) (q_to : Nat) (q_size : Nat) (q_lossOf : Nat) (q_lessBy : Nat) (q_value : Nat) (q_number : Nat) (nodes : Int32) (here : Int32) (q_cell : Nat) (cyI : ClassId) (len : Int32) (f : Nat → Int32) (ff : Nat → Int32) (ft : Nat → Int32) (fs : Nat → Int32) (fo : Nat → Int32) (uv : Nat → Int32) (un : Nat → Int32) (fe : Nat → Int32) (j_v : Nat) (j_n : Nat) (js : Int32) (jl : Int32) (je : Int32) (jv : Nat → Int32) (jn : Nat → Int32) (a_v : Nat) (a_n : Nat) (vs : Int32) (lo : Int32) (le : Int32) (fv : Nat → Int32) (fn : Nat → Int32) (p0 : Int32) (p1 : Int32) (p2 : Int32) (p3 : Int32) (p4 : Int32) (sz : Nat) (b0 : 0 ≤ nodes.toInt) (c0 : nodes.toInt ≤ 319) (c1 : len.toInt ≤ 160) (s0 : sixes fs) (t0 : treeOk ff ft nodes.toInt len.toInt) (d0 : 0 ≤ p1.toInt) (d1 : p2.toInt ≤ 160) : Met l yX4_heavyVotesBy wsX4_heavyVotesBy ({ frames := 5, cells := 0, slots := 0, locals := 225 }) (va_Pc [.ref m_, .ref q_t, .int p0, .int p1, .int p2, .int p3, .int p4] (fun U => U.heap.size = sz ∧ va_P (dC, dI) vwCl [kx_4 m_ q_row q_t t_ h0 k0 w_ z_ slots old, kx_2 q_t q_row q_joined q_from q_to q_size q_lossOf q_lessBy q_value q_number nodes here, kx_0 q_row q_cell len, kx_a q_cell cyI 160 f, kx_a q_from cyI 319 ff, kx_a q_to cyI 319 ft, kx_a q_size cyI 319 fs, kx_a q_lossOf cyI 319 fo, kx_a q_lessBy cyI 319 fe, kx_a q_value cyI 1914 uv, kx_a q_number cyI 1914 un, kx_3 q_joined j_v j_n js jl je, kx_a j_v cyI 12 jv, kx_a j_n cyI 12 jn, kx_3 h0 a_v a_n vs lo le, kx_a a_v cyI 12 fv, kx_a a_n cyI 12 fn] U.heap ∧ va_K (dC, dI) vwCl [(cyI, .int)] U ∧ va_D (fun _ => True) [kx_4 m_ q_row q_t t_ h0 k0 w_ z_ slots old, kx_2 q_t q_row q_joined q_from q_to q_size q_lossOf q_lessBy q_value q_number nodes here, kx_0 q_row q_cell len, kx_a q_cell cyI 160 f, kx_a q_from cyI 319 ff, kx_a q_to cyI 319 ft, kx_a q_size cyI 319 fs, kx_a q_lossOf cyI 319 fo, kx_a q_lessBy cyI 319 fe, kx_a q_value cyI 1914 uv, kx_a q_number cyI 1914 un, kx_3 q_joined j_v j_n js jl je, kx_a j_v cyI 12 jv, kx_a j_n cyI 12 jn, kx_3 h0 a_v a_n vs lo le, kx_a a_v cyI 12 fv, kx_a a_n cyI 12 fn])) (va_Qi (fun (r : Int32) (u : (Nat → Int32) × (Nat → Int32) × (Nat → Int32) × (Nat → Int32) × (Nat → Int32) × Int32 × Int32 × Int32 × (Nat → Int32) × (Nat → Int32) × Int32 × Int32 × Int32 × (Nat → Int32) × (Nat → Int32)) => sixes u.1 ∧ ∀ k : Nat, (k : Int) < nodes.toInt → ¬ mj_hit ff ft p1.toInt p2.toInt k → mj_e1 fs fo fe uv un u.1 u.2.1 u.2.2.1 u.2.2.2.1 u.2.2.2.2.1 k) (fun (u : (Nat → Int32) × (Nat → Int32) × (Nat → Int32) × (Nat → Int32) × (Nat → Int32) × Int32 × Int32 × Int32 × (Nat → Int32) × (Nat → Int32) × Int32 × Int32 × Int32 × (Nat → Int32) × (Nat → Int32)) (t : State) => va_P (dC, dI) vwCl [kx_4 m_ q_row q_t t_ h0 k0 w_ z_ slots old, kx_2 q_t q_row q_joined q_from q_to q_size q_lossOf q_lessBy q_value q_number nodes p0, kx_0 q_row q_cell len, kx_a q_cell cyI 160 f, kx_a q_from cyI 319 ff, kx_a q_to cyI 319 ft, kx_a q_size cyI 319 u.1, kx_a q_lossOf cyI 319 u.2.1, kx_a q_lessBy cyI 319 u.2.2.1, kx_a q_value cyI 1914 u.2.2.2.1, kx_a q_number cyI 1914 u.2.2.2.2.1, kx_3 q_joined j_v j_n u.2.2.2.2.2.1 u.2.2.2.2.2.2.1 u.2.2.2.2.2.2.2.1, kx_a j_v cyI 12 u.2.2.2.2.2.2.2.2.1, kx_a j_n cyI 12 u.2.2.2.2.2.2.2.2.2.1, kx_3 h0 a_v a_n u.2.2.2.2.2.2.2.2.2.2.1 u.2.2.2.2.2.2.2.2.2.2.2.1 u.2.2.2.2.2.2.2.2.2.2.2.2.1, kx_a a_v cyI 12 u.2.2.2.2.2.2.2.2.2.2.2.2.2.1, kx_a a_n cyI 12 u.2.2.2.2.2.2.2.2.2.2.2.2.2.2] t.heap ∧ va_K (dC, dI) vwCl [(cyI, .int)] t ∧ va_D (va_A [kx_4 m_ q_row q_t t_ h0 k0 w_ z_ slots old, kx_2 q_t q_row q_joined q_from q_to q_size q_lossOf q_lessBy q_value q_number nodes here, kx_0 q_row q_cell len, kx_a q_cell cyI 160 f, kx_a q_from cyI 319 ff, kx_a q_to cyI 319 ft, kx_a q_size cyI 319 fs, kx_a q_lossOf cyI 319 fo, kx_a q_lessBy cyI 319 fe, kx_a q_value cyI 1914 uv, kx_a q_number cyI 1914 un, kx_3 q_joined j_v j_n js jl je, kx_a j_v cyI 12 jv, kx_a j_n cyI 12 jn, kx_3 h0 a_v a_n vs lo le, kx_a a_v cyI 12 fv, kx_a a_n cyI 12 fn] sz) [kx_4 m_ q_row q_t t_ h0 k0 w_ z_ slots old, kx_2 q_t q_row q_joined q_from q_to q_size q_lossOf q_lessBy q_value q_number nodes p0, kx_0 q_row q_cell len, kx_a q_cell cyI 160 f, kx_a q_from cyI 319 ff, kx_a q_to cyI 319 ft, kx_a q_size cyI 319 u.1, kx_a q_lossOf cyI 319 u.2.1, kx_a q_lessBy cyI 319 u.2.2.1, kx_a q_value cyI 1914 u.2.2.2.1, kx_a q_number cyI 1914 u.2.2.2.2.1, kx_3 q_joined j_v j_n u.2.2.2.2.2.1 u.2.2.2.2.2.2.1 u.2.2.2.2.2.2.2.1, kx_a j_v cyI 12 u.2.2.2.2.2.2.2.2.1, kx_a j_n cyI 12 u.2.2.2.2.2.2.2.2.2.1, kx_3 h0 a_v a_n u.2.2.2.2.2.2.2.2.2.2.1 u.2.2.2.2.2.2.2.2.2.2.2.1 u.2.2.2.2.2.2.2.2.2.2.2.2.1, kx_a a_v cyI 12 u.2.2.2.2.2.2.2.2.2.2.2.2.2.1, kx_a a_n cyI 12 u.2.2.2.2.2.2.2.2.2.2.2.2.2.2]) (va_A [kx_4 m_ q_row q_t t_ h0 k0 w_ z_ slots old, kx_2 q_t q_row q_joined q_from q_to q_size q_lossOf q_lessBy q_value q_number nodes here, kx_0 q_row q_cell len, kx_a q_cell cyI 160 f, kx_a q_from cyI 319 ff, kx_a q_to cyI 319 ft, kx_a q_size cyI 319 fs, kx_a q_lossOf cyI 319 fo, kx_a q_lessBy cyI 319 fe, kx_a q_value cyI 1914 uv, kx_a q_number cyI 1914 un, kx_3 q_joined j_v j_n js jl je, kx_a j_v cyI 12 jv, kx_a j_n cyI 12 jn, kx_3 h0 a_v a_n vs lo le, kx_a a_v cyI 12 fv, kx_a a_n cyI 12 fn] sz)) 0 0 (va_A [kx_4 m_ q_row q_t t_ h0 k0 w_ z_ slots old, kx_2 q_t q_row q_joined q_from q_to q_size q_lossOf q_lessBy q_value q_number nodes here, kx_0 q_row q_cell len, kx_a q_cell cyI 160 f, kx_a q_from cyI 319 ff, kx_a q_to cyI 319 ft, kx_a q_size cyI 319 fs, kx_a q_lossOf cyI 319 fo, kx_a q_lessBy cyI 319 fe, kx_a q_value cyI 1914 uv, kx_a q_number cyI 1914 un, kx_3 q_joined j_v j_n js jl je, kx_a j_v cyI 12 jv, kx_a j_n cyI 12 jn, kx_3 h0 a_v a_n vs lo le, kx_a a_v cyI 12 fv, kx_a a_n cyI 12 fn] sz) := by
  refine Met.ofW (cc := cX4_heavyVotesBy) (maxL := 9) (ret := (some .int)) (by decide) rfl ?_
  intro p e s m args below meth c s₁ B hml hv
  obtain ⟨rfl, hsz, hP, hK, hD0⟩ := hv
  have hx := B.exec
  have hb := B.bytes
  have hr := B.returns
  have hts := atoms_spec (ws := wsX4_heavyVotesBy) B.pre
  have hown : s.vm.findClass RX4 = some m.cls := findClass_of_methodNamed B.named
  have hlocks := B.notSynchronized
  subst hsz
  have hD := hD0.self (sz := s.heap.size)
  generalize hAe : va_A [kx_4 m_ q_row q_t t_ h0 k0 w_ z_ slots old, kx_2 q_t q_row q_joined q_from q_to q_size q_lossOf q_lessBy q_value q_number nodes here, kx_0 q_row q_cell len, kx_a q_cell cyI 160 f, kx_a q_from cyI 319 ff, kx_a q_to cyI 319 ft, kx_a q_size cyI 319 fs, kx_a q_lossOf cyI 319 fo, kx_a q_lessBy cyI 319 fe, kx_a q_value cyI 1914 uv, kx_a q_number cyI 1914 un, kx_3 q_joined j_v j_n js jl je, kx_a j_v cyI 12 jv, kx_a j_n cyI 12 jn, kx_3 h0 a_v a_n vs lo le, kx_a a_v cyI 12 fv, kx_a a_n cyI 12 fn] s.heap.size = A at hD ⊢
  have hA : ∀ q : Nat, s.heap.size ≤ q → A q := fun q h => by rw [← hAe]; exact Or.inr h
  have hS : va_S A s.heap s.heap [] := va_S.rf
  have hP : va_P (dC, dI) vwCl [kx_4 m_ q_row q_t t_ h0 k0 w_ z_ slots old, kx_2 q_t q_row q_joined q_from q_to q_size q_lossOf q_lessBy q_value q_number nodes here, kx_0 q_row q_cell len, kx_a q_cell cyI 160 f, kx_a q_from cyI 319 ff, kx_a q_to cyI 319 ft, kx_a q_size cyI 319 fs, kx_a q_lossOf cyI 319 fo, kx_a q_lessBy cyI 319 fe, kx_a q_value cyI 1914 uv, kx_a q_number cyI 1914 un, kx_3 q_joined j_v j_n js jl je, kx_a j_v cyI 12 jv, kx_a j_n cyI 12 jn, kx_3 h0 a_v a_n vs lo le, kx_a a_v cyI 12 fv, kx_a a_n cyI 12 fn] s.heap := hP
  have hl := lv_entry ([.ref m_, .ref q_t, .int p0, .int p1, .int p2, .int p3, .int p4]) (n := 9) (Nat.le_of_ble_eq_true rfl)
  rw [lg_entry_eq]
  generalize (lg_sl ([.ref m_, .ref q_t, .int p0, .int p1, .int p2, .int p3, .int p4]) ++ List.replicate (9 - (lg_sl ([.ref m_, .ref q_t, .int p0, .int p1, .int p2, .int p3, .int p4])).length) Slot.unset).toArray = ls at hl ⊢
  have hl : lv_has ls 9 [(0, .ref m_), (1, .ref q_t), (2, .int p0), (3, .int p1), (4, .int p2), (5, .int p3), (6, .int p4)] := hl
  have hf_204 := hts (.fieldLink RX4 204 "MajorityIndex$Tree" "slotsHere" "I") (List.mem_of_getElem? (i := 1) rfl)
  have hi_2 : ∀ w ∈ u_ws RX2 TX2 11, w ∈ wsX4_heavyVotesBy := fun w h => List.mem_cons_of_mem _ (List.mem_append_left _ (List.mem_append_left _ (List.mem_append_left _ (List.mem_append_right _ h))))
  have hf_35 := hts (.fieldLink RX4 35 "MajorityIndex" "votes" "LMajorityIndex$Votes;") (List.mem_of_getElem? (i := 2) rfl)
  have hi_4 : ∀ w ∈ u_ws RX4 TX4 9, w ∈ wsX4_heavyVotesBy := fun w h => List.mem_cons_of_mem _ (List.mem_append_left _ (List.mem_append_left _ (List.mem_append_right _ h)))
  have hf_174 := hts (.fieldLink RX4 174 "MajorityIndex$Votes" "size" "I") (List.mem_of_getElem? (i := 3) rfl)
  have hi_3 : ∀ w ∈ u_ws RX3 TX3 5, w ∈ wsX4_heavyVotesBy := fun w h => List.mem_cons_of_mem _ (List.mem_append_left _ (List.mem_append_right _ h))
  have hf_12 := hts (.fieldLink RX4 12 "MajorityIndex" "row" "LMajorityIndex$Row;") (List.mem_of_getElem? (i := 4) rfl)
  have hf_133 := hts (.fieldLink RX4 133 "MajorityIndex$Votes" "value" "[I") (List.mem_of_getElem? (i := 5) rfl)
  refine lv_aload_n hx hb dX4_heavyVotesBy_0 rfl (lv_at hl 1 rfl) ?_
  refine lv_iload_n hx hb dX4_heavyVotesBy_1 rfl (lv_at hl 2 rfl) ?_
  refine va_put (D := (dC, dI)) (ci := 2) (v := .int p0) (ty := .int) (C := RX2) (T := TX2) (N := 11) hx hb hts hi_2 tyX2 tyX2_ok nmX2 hown hK hP hD hS 1 rfl rfl 10 (by decide) hf_204 (fun _ h9 => h9) rfl (by decide +kernel) rfl rfl (Nat.le_of_ble_eq_true rfl) dX4_heavyVotesBy_2 (fun H locs hP hD hS => ?_)
  obtain ⟨hP, hD⟩ := kx_re (w2 := [kx_4 m_ q_row q_t t_ h0 k0 w_ z_ slots old, kx_2 q_t q_row q_joined q_from q_to q_size q_lossOf q_lessBy q_value q_number nodes p0, kx_0 q_row q_cell len, kx_a q_cell cyI 160 f, kx_a q_from cyI 319 ff, kx_a q_to cyI 319 ft, kx_a q_size cyI 319 fs, kx_a q_lossOf cyI 319 fo, kx_a q_lessBy cyI 319 fe, kx_a q_value cyI 1914 uv, kx_a q_number cyI 1914 un, kx_3 q_joined j_v j_n js jl je, kx_a j_v cyI 12 jv, kx_a j_n cyI 12 jn, kx_3 h0 a_v a_n vs lo le, kx_a a_v cyI 12 fv, kx_a a_n cyI 12 fn]) hP hD rfl
  refine lv_aload_n hx hb dX4_heavyVotesBy_5 rfl (lv_at hl 1 rfl) ?_
  refine lv_iload_n hx hb dX4_heavyVotesBy_6 rfl (lv_at hl 3 rfl) ?_
  refine lv_iload hx hb dX4_heavyVotesBy_7 (lv_at hl 4 rfl) ?_
  obtain ⟨hPc, hDc, hFc, hCc⟩ := kx_pre (wc := [kx_2 q_t q_row q_joined q_from q_to q_size q_lossOf q_lessBy q_value q_number nodes p0, kx_0 q_row q_cell len, kx_a q_cell cyI 160 f, kx_a q_from cyI 319 ff, kx_a q_to cyI 319 ft, kx_a q_size cyI 319 fs, kx_a q_lossOf cyI 319 fo, kx_a q_lessBy cyI 319 fe, kx_a q_value cyI 1914 uv, kx_a q_number cyI 1914 un, kx_3 q_joined j_v j_n js jl je, kx_a j_v cyI 12 jv, kx_a j_n cyI 12 jn]) hP hD hS hA [1, 2, 3, 4, 5, 6, 7, 8, 9, 10, 11, 12, 13] (by decide) rfl
  have hKc := hK
  refine va_calli (va_runV (As := [.int p1, .int p2]) (rest := []) ⟨hx, hb, hml, hown, hts⟩ (c_X2_renew_s l dC dI q_t q_row q_joined q_from q_to q_size q_lossOf q_lessBy q_value q_number nodes p0 q_cell cyI len f ff ft fs fo uv un fe j_v j_n js jl je jv jn p1 p2 H.size b0 c0 c1 s0 t0) (cwV 2 hts gX4_heavyVotesBy_X2_renew rfl rfl rfl (by decide +kernel) ⟨Nat.le_of_ble_eq_true rfl, Nat.le_of_ble_eq_true rfl⟩) ⟨fun a U g mk q => by obtain ⟨q0, q1, qP, qK, qD⟩ := q; exact ⟨q0, q1, qP, va_K.moved (u := U) (U := U.calling g mk a) (Vm.Alike.refl U.vm) qK, qD⟩, va_recv hKc hPc (ci := 2) (q0 := 0) rfl rfl, fun U hU hW => ⟨rfl, by rw [hU], by rw [hU]; exact hPc, va_K.moved hW.alike hKc, hDc.weaken (fun _ _ _ _ => trivial)⟩⟩ rfl rfl hl.1 rfl (lv_room (Nat.le_of_ble_eq_true rfl)) dX4_heavyVotesBy_9 ⟨Nat.le_of_ble_eq_true rfl, Nat.le_of_ble_eq_true rfl⟩) hS (fun q _ h => hFc q h) hFc (fun r_1 u t H1 locs ht hvm w_1 hB hz1 hk1 hS => ?_)
  obtain ⟨o_2, o_3, o_4, o_5, o_6, o_7, o_8, o_9, o_10, o_11⟩ := u
  dsimp only at w_1 hB
  obtain ⟨hP1, hK1, hD1⟩ := hB
  rw [ht] at hP1
  have hK1 := va_K.moved hvm.symm hK1
  obtain ⟨hP, hD⟩ := kx_join (w2 := [kx_4 m_ q_row q_t t_ h0 k0 w_ z_ slots old, kx_3 h0 a_v a_n vs lo le, kx_a a_v cyI 12 fv, kx_a a_n cyI 12 fn, kx_2 q_t q_row q_joined q_from q_to q_size q_lossOf q_lessBy q_value q_number nodes p0, kx_0 q_row q_cell len, kx_a q_cell cyI 160 f, kx_a q_from cyI 319 ff, kx_a q_to cyI 319 ft, kx_a q_size cyI 319 o_2, kx_a q_lossOf cyI 319 o_3, kx_a q_lessBy cyI 319 o_4, kx_a q_value cyI 1914 o_5, kx_a q_number cyI 1914 o_6, kx_3 q_joined j_v j_n o_7 o_8 o_9, kx_a j_v cyI 12 o_10, kx_a j_n cyI 12 o_11]) hP hD hP1 hD1 hk1 hFc [1, 2, 3, 4, 5, 6, 7, 8, 9, 10, 11, 12, 13] [0, 14, 15, 16] hCc rfl (by decide) (by decide)
  clear hP1 hD1 hK1 hk1 hz1 hFc hDc hPc hKc hCc
  generalize H1 = H at hP hS ⊢
  have w_1 : sixes o_2 ∧ ∀ k : Nat, (k : Int) < nodes.toInt → ¬ mj_hit ff ft p1.toInt p2.toInt k → mj_e1 fs fo fe uv un o_2 o_3 o_4 o_5 o_6 k := w_1
  refine lv_pop hx hb dX4_heavyVotesBy_12 rfl ?_
  refine lv_aload_n hx hb dX4_heavyVotesBy_13 rfl (lv_at hl 1 rfl) ?_
  refine lv_aload_n hx hb dX4_heavyVotesBy_14 rfl (lv_at hl 0 rfl) ?_
  refine va_get (D := (dC, dI)) (ci := 4) (v := .ref h0) (C := RX4) (T := TX4) (N := 9) hx hb hts hi_4 hown hK hP 0 rfl rfl 3 (by decide) hf_35 (fun _ h9 => h9) rfl dX4_heavyVotesBy_15 ?_
  refine lv_iload_n hx hb dX4_heavyVotesBy_18 rfl (lv_at hl 3 rfl) ?_
  refine lv_iload hx hb dX4_heavyVotesBy_19 (lv_at hl 4 rfl) ?_
  obtain ⟨hPc, hDc, hFc, hCc⟩ := kx_pre (wc := [kx_2 q_t q_row q_joined q_from q_to q_size q_lossOf q_lessBy q_value q_number nodes p0, kx_a q_from cyI 319 ff, kx_a q_to cyI 319 ft, kx_a q_size cyI 319 o_2, kx_a q_lossOf cyI 319 o_3, kx_a q_value cyI 1914 o_5, kx_a q_number cyI 1914 o_6, kx_3 h0 a_v a_n vs lo le, kx_a a_v cyI 12 fv, kx_a a_n cyI 12 fn]) hP hD hS hA [4, 7, 8, 9, 10, 12, 13, 1, 2, 3] (by decide) rfl
  have hKc := hK
  refine va_callv (va_runV (As := [.ref h0, .int p1, .int p2]) (rest := []) ⟨hx, hb, hml, hown, hts⟩ (c_X2_gather l dC dI q_t q_row q_joined q_from q_to q_size q_lossOf q_lessBy q_value q_number nodes p0 h0 a_v a_n cyI vs lo le fv fn ff ft o_2 o_3 o_5 o_6 p1 p2 H.size b0 c0 w_1.1) (cwV 3 hts gX4_heavyVotesBy_X2_gather rfl rfl rfl (by decide +kernel) ⟨Nat.le_of_ble_eq_true rfl, Nat.le_of_ble_eq_true rfl⟩) ⟨fun a U g mk q => by obtain ⟨q0, q1, qP, qK, qD⟩ := q; exact ⟨q0, q1, qP, va_K.moved (u := U) (U := U.calling g mk a) (Vm.Alike.refl U.vm) qK, qD⟩, va_recv hKc hPc (ci := 2) (q0 := 0) rfl rfl, fun U hU hW => ⟨rfl, by rw [hU], by rw [hU]; exact hPc, va_K.moved hW.alike hKc, hDc.weaken (fun _ _ _ _ => trivial)⟩⟩ rfl rfl hl.1 rfl (lv_room (Nat.le_of_ble_eq_true rfl)) dX4_heavyVotesBy_21 ⟨Nat.le_of_ble_eq_true rfl, Nat.le_of_ble_eq_true rfl⟩) hS (fun q _ h => hFc q h) hFc (fun u t H1 locs ht hvm w_12 hB hz1 hk1 hS => ?_)
  obtain ⟨o_13, o_14, o_15, o_16, o_17⟩ := u
  dsimp only at w_12 hB
  obtain ⟨hP1, hK1, hD1⟩ := hB
  rw [ht] at hP1
  have hK1 := va_K.moved hvm.symm hK1
  obtain ⟨hP, hD⟩ := kx_join (w2 := [kx_4 m_ q_row q_t t_ h0 k0 w_ z_ slots old, kx_0 q_row q_cell len, kx_a q_cell cyI 160 f, kx_a q_lessBy cyI 319 o_4, kx_3 q_joined j_v j_n o_7 o_8 o_9, kx_a j_v cyI 12 o_10, kx_a j_n cyI 12 o_11, kx_2 q_t q_row q_joined q_from q_to q_size q_lossOf q_lessBy q_value q_number nodes p0, kx_a q_from cyI 319 ff, kx_a q_to cyI 319 ft, kx_a q_size cyI 319 o_2, kx_a q_lossOf cyI 319 o_3, kx_a q_value cyI 1914 o_5, kx_a q_number cyI 1914 o_6, kx_3 h0 a_v a_n o_13 o_14 o_15, kx_a a_v cyI 12 o_16, kx_a a_n cyI 12 o_17]) hP hD hP1 hD1 hk1 hFc [4, 7, 8, 9, 10, 12, 13, 1, 2, 3] [0, 5, 6, 11, 14, 15, 16] hCc rfl (by decide) (by decide)
  clear hP1 hD1 hK1 hk1 hz1 hFc hDc hPc hKc hCc
  generalize H1 = H at hP hS ⊢
  have w_12 : 0 ≤ o_13.toInt ∧ o_13.toInt ≤ 12 := w_12
  refine lv_iconst (v := 0) hx hb dX4_heavyVotesBy_24 (by decide) ?_
  refine lv_istore (lv' := [(7, .int 0), (0, .ref m_), (1, .ref q_t), (2, .int p0), (3, .int p1), (4, .int p2), (5, .int p3), (6, .int p4)]) hx hb dX4_heavyVotesBy_25 hl (by decide) rfl (fun ls hl => ?_)
  refine lv_iconst (v := 0) hx hb dX4_heavyVotesBy_27 (by decide) ?_
  refine lv_istore (lv' := [(8, .int 0), (7, .int 0), (0, .ref m_), (1, .ref q_t), (2, .int p0), (3, .int p1), (4, .int p2), (5, .int p3), (6, .int p4)]) hx hb dX4_heavyVotesBy_28 hl (by decide) rfl (fun ls hl => ?_)
  have LP1 : ∀ (n : Nat) (i : Int32) (many : Int32), (0 ≤ i.toInt) → (o_13.toInt - i.toInt).toNat < n → ∀ (H : Heap) (locs : List Loc), va_P (dC, dI) vwCl [kx_4 m_ q_row q_t t_ h0 k0 w_ z_ slots old, kx_0 q_row q_cell len, kx_a q_cell cyI 160 f, kx_a q_lessBy cyI 319 o_4, kx_3 q_joined j_v j_n o_7 o_8 o_9, kx_a j_v cyI 12 o_10, kx_a j_n cyI 12 o_11, kx_2 q_t q_row q_joined q_from q_to q_size q_lossOf q_lessBy q_value q_number nodes p0, kx_a q_from cyI 319 ff, kx_a q_to cyI 319 ft, kx_a q_size cyI 319 o_2, kx_a q_lossOf cyI 319 o_3, kx_a q_value cyI 1914 o_5, kx_a q_number cyI 1914 o_6, kx_3 h0 a_v a_n o_13 o_14 o_15, kx_a a_v cyI 12 o_16, kx_a a_n cyI 12 o_17] H → va_D A [kx_4 m_ q_row q_t t_ h0 k0 w_ z_ slots old, kx_0 q_row q_cell len, kx_a q_cell cyI 160 f, kx_a q_lessBy cyI 319 o_4, kx_3 q_joined j_v j_n o_7 o_8 o_9, kx_a j_v cyI 12 o_10, kx_a j_n cyI 12 o_11, kx_2 q_t q_row q_joined q_from q_to q_size q_lossOf q_lessBy q_value q_number nodes p0, kx_a q_from cyI 319 ff, kx_a q_to cyI 319 ft, kx_a q_size cyI 319 o_2, kx_a q_lossOf cyI 319 o_3, kx_a q_value cyI 1914 o_5, kx_a q_number cyI 1914 o_6, kx_3 h0 a_v a_n o_13 o_14 o_15, kx_a a_v cyI 12 o_16, kx_a a_n cyI 12 o_17] → va_S A s.heap H locs → ∀ (ls : Array Slot), lv_has ls 9 [(8, .int i), (7, .int many), (0, .ref m_), (1, .ref q_t), (2, .int p0), (3, .int p1), (4, .int p2), (5, .int p3), (6, .int p4)] → W p l e (headSpec wsX4_heavyVotesBy ({ frames := 5, cells := 0, slots := 0, locals := 225 })).room s m ([.ref m_, .ref q_t, .int p0, .int p1, .int p2, .int p3, .int p4] : List Value).toArray below meth c H locs 0 0 (MQ below (va_Qi (fun (r : Int32) (u : (Nat → Int32) × (Nat → Int32) × (Nat → Int32) × (Nat → Int32) × (Nat → Int32) × Int32 × Int32 × Int32 × (Nat → Int32) × (Nat → Int32) × Int32 × Int32 × Int32 × (Nat → Int32) × (Nat → Int32)) => sixes u.1 ∧ ∀ k : Nat, (k : Int) < nodes.toInt → ¬ mj_hit ff ft p1.toInt p2.toInt k → mj_e1 fs fo fe uv un u.1 u.2.1 u.2.2.1 u.2.2.2.1 u.2.2.2.2.1 k) (fun (u : (Nat → Int32) × (Nat → Int32) × (Nat → Int32) × (Nat → Int32) × (Nat → Int32) × Int32 × Int32 × Int32 × (Nat → Int32) × (Nat → Int32) × Int32 × Int32 × Int32 × (Nat → Int32) × (Nat → Int32)) (t : State) => va_P (dC, dI) vwCl [kx_4 m_ q_row q_t t_ h0 k0 w_ z_ slots old, kx_2 q_t q_row q_joined q_from q_to q_size q_lossOf q_lessBy q_value q_number nodes p0, kx_0 q_row q_cell len, kx_a q_cell cyI 160 f, kx_a q_from cyI 319 ff, kx_a q_to cyI 319 ft, kx_a q_size cyI 319 u.1, kx_a q_lossOf cyI 319 u.2.1, kx_a q_lessBy cyI 319 u.2.2.1, kx_a q_value cyI 1914 u.2.2.2.1, kx_a q_number cyI 1914 u.2.2.2.2.1, kx_3 q_joined j_v j_n u.2.2.2.2.2.1 u.2.2.2.2.2.2.1 u.2.2.2.2.2.2.2.1, kx_a j_v cyI 12 u.2.2.2.2.2.2.2.2.1, kx_a j_n cyI 12 u.2.2.2.2.2.2.2.2.2.1, kx_3 h0 a_v a_n u.2.2.2.2.2.2.2.2.2.2.1 u.2.2.2.2.2.2.2.2.2.2.2.1 u.2.2.2.2.2.2.2.2.2.2.2.2.1, kx_a a_v cyI 12 u.2.2.2.2.2.2.2.2.2.2.2.2.2.1, kx_a a_n cyI 12 u.2.2.2.2.2.2.2.2.2.2.2.2.2.2] t.heap ∧ va_K (dC, dI) vwCl [(cyI, .int)] t ∧ va_D A [kx_4 m_ q_row q_t t_ h0 k0 w_ z_ slots old, kx_2 q_t q_row q_joined q_from q_to q_size q_lossOf q_lessBy q_value q_number nodes p0, kx_0 q_row q_cell len, kx_a q_cell cyI 160 f, kx_a q_from cyI 319 ff, kx_a q_to cyI 319 ft, kx_a q_size cyI 319 u.1, kx_a q_lossOf cyI 319 u.2.1, kx_a q_lessBy cyI 319 u.2.2.1, kx_a q_value cyI 1914 u.2.2.2.1, kx_a q_number cyI 1914 u.2.2.2.2.1, kx_3 q_joined j_v j_n u.2.2.2.2.2.1 u.2.2.2.2.2.2.1 u.2.2.2.2.2.2.2.1, kx_a j_v cyI 12 u.2.2.2.2.2.2.2.2.1, kx_a j_n cyI 12 u.2.2.2.2.2.2.2.2.2.1, kx_3 h0 a_v a_n u.2.2.2.2.2.2.2.2.2.2.1 u.2.2.2.2.2.2.2.2.2.2.2.1 u.2.2.2.2.2.2.2.2.2.2.2.2.1, kx_a a_v cyI 12 u.2.2.2.2.2.2.2.2.2.2.2.2.2.1, kx_a a_n cyI 12 u.2.2.2.2.2.2.2.2.2.2.2.2.2.2]) A) ([.ref m_, .ref q_t, .int p0, .int p1, .int p2, .int p3, .int p4] : List Value).toArray s 0 0 A) (F0 m 30 ls []) := by
    intro n
    induction n with
    | zero => intro i many LP1_h0 hn; exact absurd hn (Nat.not_lt_zero _)
    | succ n ih1 =>
      intro i many LP1_h0 hn1 H locs hP hD hS ls hl
      refine lv_iload hx hb dX4_heavyVotesBy_30 (lv_at hl 0 rfl) ?_
      refine lv_aload_n hx hb dX4_heavyVotesBy_32 rfl (lv_at hl 2 rfl) ?_
      refine va_get (D := (dC, dI)) (ci := 4) (v := .ref h0) (C := RX4) (T := TX4) (N := 9) hx hb hts hi_4 hown hK hP 0 rfl rfl 3 (by decide) hf_35 (fun _ h9 => h9) rfl dX4_heavyVotesBy_33 ?_
      refine va_get (D := (dC, dI)) (ci := 3) (v := .int o_13) (C := RX3) (T := TX3) (N := 5) hx hb hts hi_3 hown hK hP 14 rfl rfl 2 (by decide) hf_174 (fun _ h9 => h9) rfl dX4_heavyVotesBy_36 ?_
      refine lv_icmp_ge (tgt := 85) hx hb dX4_heavyVotesBy_39 (by decide) (fun c_18 => ?_) (fun c_18 => ?_)
      · have i_18 : o_13.toInt ≤ i.toInt := kc_le c_18
        refine lv_iload hx hb dX4_heavyVotesBy_85 (lv_at hl 1 rfl) ?_
        obtain ⟨hP9, hD9⟩ := kx_sub (w2 := [kx_4 m_ q_row q_t t_ h0 k0 w_ z_ slots old, kx_2 q_t q_row q_joined q_from q_to q_size q_lossOf q_lessBy q_value q_number nodes p0, kx_0 q_row q_cell len, kx_a q_cell cyI 160 f, kx_a q_from cyI 319 ff, kx_a q_to cyI 319 ft, kx_a q_size cyI 319 o_2, kx_a q_lossOf cyI 319 o_3, kx_a q_lessBy cyI 319 o_4, kx_a q_value cyI 1914 o_5, kx_a q_number cyI 1914 o_6, kx_3 q_joined j_v j_n o_7 o_8 o_9, kx_a j_v cyI 12 o_10, kx_a j_n cyI 12 o_11, kx_3 h0 a_v a_n o_13 o_14 o_15, kx_a a_v cyI 12 o_16, kx_a a_n cyI 12 o_17]) hP hD [0, 7, 1, 2, 8, 9, 10, 11, 3, 12, 13, 4, 5, 6, 14, 15, 16] (by decide) rfl
        have hK9 := hK
        exact W.iret (v := many) hx hb hr (fun t ht hW => ⟨⟨many, (o_2, o_3, o_4, o_5, o_6, o_7, o_8, o_9, o_10, o_11, o_13, o_14, o_15, o_16, o_17), rfl, ⟨w_1.1, w_1.2⟩, by rw [ht]; exact hP9, va_K.moved hW.alike hK9, hD9⟩, hS.F ht⟩) hS.2.2 dX4_heavyVotesBy_87
      · have i_18 : i.toInt < o_13.toInt := kc_nle c_18
        refine lv_aload_n hx hb dX4_heavyVotesBy_42 rfl (lv_at hl 2 rfl) ?_
        refine va_get (D := (dC, dI)) (ci := 4) (v := .ref q_row) (C := RX4) (T := TX4) (N := 9) hx hb hts hi_4 hown hK hP 0 rfl rfl 0 (by decide) hf_12 (fun _ h9 => h9) rfl dX4_heavyVotesBy_43 ?_
        refine lv_aload_n hx hb dX4_heavyVotesBy_46 rfl (lv_at hl 2 rfl) ?_
        refine va_get (D := (dC, dI)) (ci := 4) (v := .ref h0) (C := RX4) (T := TX4) (N := 9) hx hb hts hi_4 hown hK hP 0 rfl rfl 3 (by decide) hf_35 (fun _ h9 => h9) rfl dX4_heavyVotesBy_47 ?_
        refine va_get (D := (dC, dI)) (ci := 3) (v := .ref a_v) (C := RX3) (T := TX3) (N := 5) hx hb hts hi_3 hown hK hP 14 rfl rfl 0 (by decide) hf_133 (fun _ h9 => h9) rfl dX4_heavyVotesBy_50 ?_
        refine lv_iload hx hb dX4_heavyVotesBy_53 (lv_at hl 0 rfl) ?_
        refine va_iald hx hb hK hP 15 0 rfl rfl (ki_in (om_8 LP1_h0) (om_29 w_12.2 i_18)) dX4_heavyVotesBy_55 ?_
        refine lv_topi (fun y_19 ey_19 => ?_)
        have j_19 : y_19.toInt = (o_16 i.toNatClampNeg).toInt := congrArg Int32.toInt ey_19
        refine lv_iload_n hx hb dX4_heavyVotesBy_56 rfl (lv_at hl 5 rfl) ?_
        refine lv_iload hx hb dX4_heavyVotesBy_57 (lv_at hl 6 rfl) ?_
        have hPc := hP.sub (ws' := [kx_0 q_row q_cell len, kx_a q_cell cyI 160 f]) [1, 2] rfl
        have hKc := hK
        refine vp_callSi (W.runV (As := [.int y_19, .int p1, .int p2]) (rest := []) ⟨hx, hb, hml, hown, hts⟩ (c_X0_oftenIn l dC dI q_row q_cell cyI len f y_19 p1 p2 d0 d1) (cwV 3 hts gX4_heavyVotesBy_X0_oftenIn rfl rfl rfl (by decide +kernel) ⟨Nat.le_of_ble_eq_true rfl, Nat.le_of_ble_eq_true rfl⟩) ⟨fun a U g mk q => by obtain ⟨q0, qP, qK⟩ := q; exact ⟨q0, qP, va_K.moved (u := U) (U := U.calling g mk a) (Vm.Alike.refl U.vm) qK⟩, va_recv hKc hPc (ci := 0) (q0 := 0) rfl rfl, fun U hU hW => ⟨rfl, by rw [hU]; exact hPc, va_K.moved hW.alike hKc⟩⟩ rfl rfl hl.1 rfl (lv_room (Nat.le_of_ble_eq_true rfl)) dX4_heavyVotesBy_59 ⟨Nat.le_of_ble_eq_true rfl, Nat.le_of_ble_eq_true rfl⟩) (fun r_20 w_20 => ?_)
        have w_20 : r_20.toInt = (cnt f y_19 p1.toNatClampNeg (p2.toInt - p1.toInt).toNat : Int) := w_20
        refine lv_iload hx hb dX4_heavyVotesBy_62 (lv_at hl 6 rfl) ?_
        refine lv_iload_n hx hb dX4_heavyVotesBy_64 rfl (lv_at hl 5 rfl) ?_
        refine lv_isub hx hb dX4_heavyVotesBy_65 ?_
        refine lv_topi (fun y_21 ey_21 => ?_)
        refine lv_iload hx hb dX4_heavyVotesBy_66 (lv_at hl 7 rfl) ?_
        refine lv_iload hx hb dX4_heavyVotesBy_68 (lv_at hl 8 rfl) ?_
        have hPc := hP.sub (ws' := []) [] rfl
        have hKc := hK.sub (tys' := []) [] rfl
        refine vp_callSi (W.runS (As := [.int r_20, .int y_21, .int p3, .int p4]) (rest := []) ⟨hx, hb, hml, hown, hts⟩ (c_X4_isHeavy l dC dI r_20 y_21 p3 p4) (va_cwS 4 hts gX4_heavyVotesBy_X4_isHeavy rfl rfl rfl (by decide +kernel) ⟨Nat.le_of_ble_eq_true rfl, Nat.le_of_ble_eq_true rfl⟩) ⟨fun a U g mk q => by obtain ⟨q0, qP, qK⟩ := q; exact ⟨q0, qP, va_K.moved (u := U) (U := U.calling g mk a) (Vm.Alike.refl U.vm) qK⟩, fun U hU hW => ⟨rfl, by rw [hU]; exact hPc, va_K.moved hW.alike hKc⟩⟩ rfl rfl hl.1 rfl (lv_room (Nat.le_of_ble_eq_true rfl)) dX4_heavyVotesBy_70 ⟨Nat.le_of_ble_eq_true rfl, Nat.le_of_ble_eq_true rfl⟩) (fun r_22 w_22 => ?_)
        rcases w_22 with ⟨rfl, w_22⟩ | ⟨rfl, w_22⟩
        · have w_22 : (0 : Int) ≤ 1 := w_22
          refine lv_if_eq (tgt := 79) hx hb dX4_heavyVotesBy_73 (by decide) (fun c_23 => ?_) (fun c_23 => ?_)
          · exact absurd c_23 (by decide)
          · obtain ⟨x_24, ex_24⟩ : ∃ y : Int32, y = many + 1 := ⟨_, rfl⟩
            refine lv_iinc (v := x_24) (lv' := [(7, .int x_24), (8, .int i), (0, .ref m_), (1, .ref q_t), (2, .int p0), (3, .int p1), (4, .int p2), (5, .int p3), (6, .int p4)]) hx hb dX4_heavyVotesBy_76 hl (k := 1) rfl (by rw [ex_24]; rfl) (by decide) rfl (fun ls hl => ?_)
            obtain ⟨x_25, ex_25⟩ : ∃ y : Int32, y = i + 1 := ⟨_, rfl⟩
            have i_25 : x_25.toInt = i.toInt + 1 := ki_add ex_25 rfl rfl (om_10 LP1_h0) (om_30 w_12.2 i_18)
            refine lv_iinc (v := x_25) (lv' := [(8, .int x_25), (7, .int x_24), (0, .ref m_), (1, .ref q_t), (2, .int p0), (3, .int p1), (4, .int p2), (5, .int p3), (6, .int p4)]) hx hb dX4_heavyVotesBy_79 hl (k := 1) rfl (by rw [ex_25]; rfl) (by decide) rfl (fun ls hl => ?_)
            refine lv_goto (tgt := 30) hx hb dX4_heavyVotesBy_82 (by decide) ?_
            exact ih1 x_25 x_24 (om_31 LP1_h0 i_25) (om_mu hn1 (om_5 i_25) (om_6 i_18)) _ _ hP hD hS ls (lv_sub hl [0, 1, 2, 3, 4, 5, 6, 7, 8] rfl)
        · have w_22 : (0 : Int) ≤ 1 := w_22
          refine lv_if_eq (tgt := 79) hx hb dX4_heavyVotesBy_73 (by decide) (fun c_26 => ?_) (fun c_26 => ?_)
          · obtain ⟨x_27, ex_27⟩ : ∃ y : Int32, y = i + 1 := ⟨_, rfl⟩
            have i_27 : x_27.toInt = i.toInt + 1 := ki_add ex_27 rfl rfl (om_10 LP1_h0) (om_30 w_12.2 i_18)
            refine lv_iinc (v := x_27) (lv' := [(8, .int x_27), (7, .int many), (0, .ref m_), (1, .ref q_t), (2, .int p0), (3, .int p1), (4, .int p2), (5, .int p3), (6, .int p4)]) hx hb dX4_heavyVotesBy_79 hl (k := 0) rfl (by rw [ex_27]; rfl) (by decide) rfl (fun ls hl => ?_)
            refine lv_goto (tgt := 30) hx hb dX4_heavyVotesBy_82 (by decide) ?_
            exact ih1 x_27 many (om_31 LP1_h0 i_27) (om_mu hn1 (om_5 i_27) (om_6 i_18)) _ _ hP hD hS ls (lv_sub hl [0, 1, 2, 3, 4, 5, 6, 7, 8] rfl)
          · exact absurd c_26 (by decide)
  have k_28 : (0 : Int32).toInt = 0 := rfl
  have k_29 : (0 : Int32).toInt = 0 := rfl
  exact LP1 ((o_13.toInt - 0 : Int).toNat + 1) 0 0 om_32 (Nat.lt_succ_self _) _ _ hP hD hS ls (lv_sub hl [0, 1, 2, 3, 4, 5, 6, 7, 8] rfl)

set_option maxHeartbeats 4000000 in
set_option maxRecDepth 100000 in
theorem c_X4_least_x (l : Launch) (dC : Nat → ClassId) (dI : Nat → Nat → Nat) (m_ : Nat) (q_row : Nat) (q_t : Nat) (t_ : Nat) (h0 : Nat) (k0 : Nat) (w_ : Nat) (z_ : Nat) (slots : Int32) (old : Int32) (q_joined : Nat) (q_from : Nat) (q_to : Nat) (q_size : Nat) (q_lossOf : Nat) (q_lessBy : Nat) (q_value : Nat) (q_number : Nat) (nodes : Int32) (here : Int32) (q_cell : Nat) (cyI : ClassId) (len : Int32) (f : Nat → Int32) (ff : Nat → Int32) (ft : Nat → Int32) (fs : Nat → Int32) (fo : Nat → Int32) (uv : Nat → Int32) (un : Nat → Int32) (fe : Nat → Int32) (j_v : Nat) (j_n : Nat) (js : Int32) (jl : Int32) (je : Int32) (jv : Nat → Int32) (jn : Nat → Int32) (a_v : Nat) (a_n : Nat) (vs : Int32) (lo : Int32) (le : Int32) (fv : Nat → Int32) (fn : Nat → Int32) (p0 : Int32) (p1 : Int32) (p2 : Int32) (p3 : Int32) (sz : Nat) (a0 : 0 ≤ len.toInt) (a1 : len.toInt ≤ 160) (s0 : sixes fs) (sl0 : 1 ≤ slots.toInt) (sl1 : slots.toInt ≤ 6) (l0 : laidX old slots here f ff ft fs fo fe uv un nodes len) : Met l yX4_least wsX4_least ({ frames := 6, cells := 0, slots := 0, locals := 270 }) (va_Pc [.ref m_, .int p0, .int p1, .int p2, .int p3] (fun U => U.heap.size = sz ∧ va_P (dC, dI) vwCl [kx_4 m_ q_row q_t t_ h0 k0 w_ z_ slots old, kx_2 q_t q_row q_joined q_from q_to q_size q_lossOf q_lessBy q_value q_number nodes here, kx_0 q_row q_cell len, kx_a q_cell cyI 160 f, kx_a q_from cyI 319 ff, kx_a q_to cyI 319 ft, kx_a q_size cyI 319 fs, kx_a q_lossOf cyI 319 fo, kx_a q_lessBy cyI 319 fe, kx_a q_value cyI 1914 uv, kx_a q_number cyI 1914 un, kx_3 q_joined j_v j_n js jl je, kx_a j_v cyI 12 jv, kx_a j_n cyI 12 jn, kx_3 h0 a_v a_n vs lo le, kx_a a_v cyI 12 fv, kx_a a_n cyI 12 fn] U.heap ∧ va_K (dC, dI) vwCl [(cyI, .int)] U ∧ va_D (fun _ => True) [kx_4 m_ q_row q_t t_ h0 k0 w_ z_ slots old, kx_2 q_t q_row q_joined q_from q_to q_size q_lossOf q_lessBy q_value q_number nodes here, kx_0 q_row q_cell len, kx_a q_cell cyI 160 f, kx_a q_from cyI 319 ff, kx_a q_to cyI 319 ft, kx_a q_size cyI 319 fs, kx_a q_lossOf cyI 319 fo, kx_a q_lessBy cyI 319 fe, kx_a q_value cyI 1914 uv, kx_a q_number cyI 1914 un, kx_3 q_joined j_v j_n js jl je, kx_a j_v cyI 12 jv, kx_a j_n cyI 12 jn, kx_3 h0 a_v a_n vs lo le, kx_a a_v cyI 12 fv, kx_a a_n cyI 12 fn])) (va_Qi (fun (r : Int32) (u : Int32 × Int32 × Int32 × (Nat → Int32) × (Nat → Int32) × (Nat → Int32) × (Nat → Int32) × (Nat → Int32) × (Nat → Int32) × (Nat → Int32) × Int32 × Int32 × Int32 × (Nat → Int32) × (Nat → Int32) × Int32 × Int32 × Int32 × (Nat → Int32) × (Nat → Int32)) => laidX u.1 slots u.2.2.1 f u.2.2.2.1 u.2.2.2.2.1 u.2.2.2.2.2.1 u.2.2.2.2.2.2.1 u.2.2.2.2.2.2.2.1 u.2.2.2.2.2.2.2.2.1 u.2.2.2.2.2.2.2.2.2.1 u.2.1 len ∧ sixes u.2.2.2.2.2.1) (fun (u : Int32 × Int32 × Int32 × (Nat → Int32) × (Nat → Int32) × (Nat → Int32) × (Nat → Int32) × (Nat → Int32) × (Nat → Int32) × (Nat → Int32) × Int32 × Int32 × Int32 × (Nat → Int32) × (Nat → Int32) × Int32 × Int32 × Int32 × (Nat → Int32) × (Nat → Int32)) (t : State) => va_P (dC, dI) vwCl [kx_4 m_ q_row q_t t_ h0 k0 w_ z_ slots u.1, kx_2 q_t q_row q_joined q_from q_to q_size q_lossOf q_lessBy q_value q_number u.2.1 u.2.2.1, kx_0 q_row q_cell len, kx_a q_cell cyI 160 f, kx_a q_from cyI 319 u.2.2.2.1, kx_a q_to cyI 319 u.2.2.2.2.1, kx_a q_size cyI 319 u.2.2.2.2.2.1, kx_a q_lossOf cyI 319 u.2.2.2.2.2.2.1, kx_a q_lessBy cyI 319 u.2.2.2.2.2.2.2.1, kx_a q_value cyI 1914 u.2.2.2.2.2.2.2.2.1, kx_a q_number cyI 1914 u.2.2.2.2.2.2.2.2.2.1, kx_3 q_joined j_v j_n u.2.2.2.2.2.2.2.2.2.2.1 u.2.2.2.2.2.2.2.2.2.2.2.1 u.2.2.2.2.2.2.2.2.2.2.2.2.1, kx_a j_v cyI 12 u.2.2.2.2.2.2.2.2.2.2.2.2.2.1, kx_a j_n cyI 12 u.2.2.2.2.2.2.2.2.2.2.2.2.2.2.1, kx_3 h0 a_v a_n u.2.2.2.2.2.2.2.2.2.2.2.2.2.2.2.1 u.2.2.2.2.2.2.2.2.2.2.2.2.2.2.2.2.1 u.2.2.2.2.2.2.2.2.2.2.2.2.2.2.2.2.2.1, kx_a a_v cyI 12 u.2.2.2.2.2.2.2.2.2.2.2.2.2.2.2.2.2.2.1, kx_a a_n cyI 12 u.2.2.2.2.2.2.2.2.2.2.2.2.2.2.2.2.2.2.2] t.heap ∧ va_K (dC, dI) vwCl [(cyI, .int)] t ∧ va_D (va_A [kx_4 m_ q_row q_t t_ h0 k0 w_ z_ slots old, kx_2 q_t q_row q_joined q_from q_to q_size q_lossOf q_lessBy q_value q_number nodes here, kx_0 q_row q_cell len, kx_a q_cell cyI 160 f, kx_a q_from cyI 319 ff, kx_a q_to cyI 319 ft, kx_a q_size cyI 319 fs, kx_a q_lossOf cyI 319 fo, kx_a q_lessBy cyI 319 fe, kx_a q_value cyI 1914 uv, kx_a q_number cyI 1914 un, kx_3 q_joined j_v j_n js jl je, kx_a j_v cyI 12 jv, kx_a j_n cyI 12 jn, kx_3 h0 a_v a_n vs lo le, kx_a a_v cyI 12 fv, kx_a a_n cyI 12 fn] sz) [kx_4 m_ q_row q_t t_ h0 k0 w_ z_ slots u.1, kx_2 q_t q_row q_joined q_from q_to q_size q_lossOf q_lessBy q_value q_number u.2.1 u.2.2.1, kx_0 q_row q_cell len, kx_a q_cell cyI 160 f, kx_a q_from cyI 319 u.2.2.2.1, kx_a q_to cyI 319 u.2.2.2.2.1, kx_a q_size cyI 319 u.2.2.2.2.2.1, kx_a q_lossOf cyI 319 u.2.2.2.2.2.2.1, kx_a q_lessBy cyI 319 u.2.2.2.2.2.2.2.1, kx_a q_value cyI 1914 u.2.2.2.2.2.2.2.2.1, kx_a q_number cyI 1914 u.2.2.2.2.2.2.2.2.2.1, kx_3 q_joined j_v j_n u.2.2.2.2.2.2.2.2.2.2.1 u.2.2.2.2.2.2.2.2.2.2.2.1 u.2.2.2.2.2.2.2.2.2.2.2.2.1, kx_a j_v cyI 12 u.2.2.2.2.2.2.2.2.2.2.2.2.2.1, kx_a j_n cyI 12 u.2.2.2.2.2.2.2.2.2.2.2.2.2.2.1, kx_3 h0 a_v a_n u.2.2.2.2.2.2.2.2.2.2.2.2.2.2.2.1 u.2.2.2.2.2.2.2.2.2.2.2.2.2.2.2.2.1 u.2.2.2.2.2.2.2.2.2.2.2.2.2.2.2.2.2.1, kx_a a_v cyI 12 u.2.2.2.2.2.2.2.2.2.2.2.2.2.2.2.2.2.2.1, kx_a a_n cyI 12 u.2.2.2.2.2.2.2.2.2.2.2.2.2.2.2.2.2.2.2]) (va_A [kx_4 m_ q_row q_t t_ h0 k0 w_ z_ slots old, kx_2 q_t q_row q_joined q_from q_to q_size q_lossOf q_lessBy q_value q_number nodes here, kx_0 q_row q_cell len, kx_a q_cell cyI 160 f, kx_a q_from cyI 319 ff, kx_a q_to cyI 319 ft, kx_a q_size cyI 319 fs, kx_a q_lossOf cyI 319 fo, kx_a q_lessBy cyI 319 fe, kx_a q_value cyI 1914 uv, kx_a q_number cyI 1914 un, kx_3 q_joined j_v j_n js jl je, kx_a j_v cyI 12 jv, kx_a j_n cyI 12 jn, kx_3 h0 a_v a_n vs lo le, kx_a a_v cyI 12 fv, kx_a a_n cyI 12 fn] sz)) 0 0 (va_A [kx_4 m_ q_row q_t t_ h0 k0 w_ z_ slots old, kx_2 q_t q_row q_joined q_from q_to q_size q_lossOf q_lessBy q_value q_number nodes here, kx_0 q_row q_cell len, kx_a q_cell cyI 160 f, kx_a q_from cyI 319 ff, kx_a q_to cyI 319 ft, kx_a q_size cyI 319 fs, kx_a q_lossOf cyI 319 fo, kx_a q_lessBy cyI 319 fe, kx_a q_value cyI 1914 uv, kx_a q_number cyI 1914 un, kx_3 q_joined j_v j_n js jl je, kx_a j_v cyI 12 jv, kx_a j_n cyI 12 jn, kx_3 h0 a_v a_n vs lo le, kx_a a_v cyI 12 fv, kx_a a_n cyI 12 fn] sz) := by
  refine Met.ofW (cc := cX4_least) (maxL := 9) (ret := (some .int)) (by decide) rfl ?_
  intro p e s m args below meth c s₁ B hml hv
  obtain ⟨rfl, hsz, hP, hK, hD0⟩ := hv
  have hx := B.exec
  have hb := B.bytes
  have hr := B.returns
  have hts := atoms_spec (ws := wsX4_least) B.pre
  have hown : s.vm.findClass RX4 = some m.cls := findClass_of_methodNamed B.named
  have hlocks := B.notSynchronized
  subst hsz
  have hD := hD0.self (sz := s.heap.size)
  generalize hAe : va_A [kx_4 m_ q_row q_t t_ h0 k0 w_ z_ slots old, kx_2 q_t q_row q_joined q_from q_to q_size q_lossOf q_lessBy q_value q_number nodes here, kx_0 q_row q_cell len, kx_a q_cell cyI 160 f, kx_a q_from cyI 319 ff, kx_a q_to cyI 319 ft, kx_a q_size cyI 319 fs, kx_a q_lossOf cyI 319 fo, kx_a q_lessBy cyI 319 fe, kx_a q_value cyI 1914 uv, kx_a q_number cyI 1914 un, kx_3 q_joined j_v j_n js jl je, kx_a j_v cyI 12 jv, kx_a j_n cyI 12 jn, kx_3 h0 a_v a_n vs lo le, kx_a a_v cyI 12 fv, kx_a a_n cyI 12 fn] s.heap.size = A at hD ⊢
  have hA : ∀ q : Nat, s.heap.size ≤ q → A q := fun q h => by rw [← hAe]; exact Or.inr h
  have hS : va_S A s.heap s.heap [] := va_S.rf
  have hP : va_P (dC, dI) vwCl [kx_4 m_ q_row q_t t_ h0 k0 w_ z_ slots old, kx_2 q_t q_row q_joined q_from q_to q_size q_lossOf q_lessBy q_value q_number nodes here, kx_0 q_row q_cell len, kx_a q_cell cyI 160 f, kx_a q_from cyI 319 ff, kx_a q_to cyI 319 ft, kx_a q_size cyI 319 fs, kx_a q_lossOf cyI 319 fo, kx_a q_lessBy cyI 319 fe, kx_a q_value cyI 1914 uv, kx_a q_number cyI 1914 un, kx_3 q_joined j_v j_n js jl je, kx_a j_v cyI 12 jv, kx_a j_n cyI 12 jn, kx_3 h0 a_v a_n vs lo le, kx_a a_v cyI 12 fv, kx_a a_n cyI 12 fn] s.heap := hP
  have hl := lv_entry ([.ref m_, .int p0, .int p1, .int p2, .int p3]) (n := 9) (Nat.le_of_ble_eq_true rfl)
  rw [lg_entry_eq]
  generalize (lg_sl ([.ref m_, .int p0, .int p1, .int p2, .int p3]) ++ List.replicate (9 - (lg_sl ([.ref m_, .int p0, .int p1, .int p2, .int p3])).length) Slot.unset).toArray = ls at hl ⊢
  have hl : lv_has ls 9 [(0, .ref m_), (1, .int p0), (2, .int p1), (3, .int p2), (4, .int p3)] := hl
  have hf_12 := hts (.fieldLink RX4 12 "MajorityIndex" "row" "LMajorityIndex$Row;") (List.mem_of_getElem? (i := 1) rfl)
  have hi_4 : ∀ w ∈ u_ws RX4 TX4 9, w ∈ wsX4_least := fun w h => List.mem_cons_of_mem _ (List.mem_append_left _ (List.mem_append_left _ (List.mem_append_left _ (List.mem_append_right _ h))))
  have hf_49 := hts (.fieldLink RX4 49 "MajorityIndex" "slotsNow" "I") (List.mem_of_getElem? (i := 2) rfl)
  have hf_204 := hts (.fieldLink RX4 204 "MajorityIndex$Tree" "slotsHere" "I") (List.mem_of_getElem? (i := 3) rfl)
  have hi_2 : ∀ w ∈ u_ws RX2 TX2 11, w ∈ wsX4_least := fun w h => List.mem_cons_of_mem _ (List.mem_append_left _ (List.mem_append_left _ (List.mem_append_right _ h)))
  refine lv_aload_n hx hb dX4_least_0 rfl (lv_at hl 0 rfl) ?_
  refine va_get (D := (dC, dI)) (ci := 4) (v := .ref q_row) (C := RX4) (T := TX4) (N := 9) hx hb hts hi_4 hown hK hP 0 rfl rfl 0 (by decide) hf_12 (fun _ h9 => h9) rfl dX4_least_1 ?_
  refine lv_iload_n hx hb dX4_least_4 rfl (lv_at hl 1 rfl) ?_
  refine lv_iload_n hx hb dX4_least_5 rfl (lv_at hl 2 rfl) ?_
  have hPc := hP.sub (ws' := [kx_0 q_row q_cell len]) [2] rfl
  have hKc := hK.sub (tys' := []) [] rfl
  refine vp_callSi (W.runV (As := [.int p0, .int p1]) (rest := []) ⟨hx, hb, hml, hown, hts⟩ (c_X0_hasRange l dC dI q_row q_cell len p0 p1) (cwV 2 hts gX4_least_X0_hasRange rfl rfl rfl (by decide +kernel) ⟨Nat.le_of_ble_eq_true rfl, Nat.le_of_ble_eq_true rfl⟩) ⟨fun a U g mk q => by obtain ⟨q0, qP, qK⟩ := q; exact ⟨q0, qP, va_K.moved (u := U) (U := U.calling g mk a) (Vm.Alike.refl U.vm) qK⟩, va_recv hKc hPc (ci := 0) (q0 := 0) rfl rfl, fun U hU hW => ⟨rfl, by rw [hU]; exact hPc, va_K.moved hW.alike hKc⟩⟩ rfl rfl hl.1 rfl (lv_room (Nat.le_of_ble_eq_true rfl)) dX4_least_6 ⟨Nat.le_of_ble_eq_true rfl, Nat.le_of_ble_eq_true rfl⟩) (fun r_1 w_1 => ?_)
  rcases w_1 with ⟨rfl, w_1⟩ | ⟨rfl, w_1⟩
  · have w_1 : (0 ≤ p0.toInt ∧ p0.toInt < p1.toInt ∧ p1.toInt ≤ len.toInt) := w_1
    refine lv_if_eq (tgt := 29) hx hb dX4_least_9 (by decide) (fun c_2 => ?_) (fun c_2 => ?_)
    · exact absurd c_2 (by decide)
    · refine lv_iload_n hx hb dX4_least_12 rfl (lv_at hl 2 rfl) ?_
      refine lv_iload_n hx hb dX4_least_13 rfl (lv_at hl 1 rfl) ?_
      refine lv_isub hx hb dX4_least_14 ?_
      refine lv_topi (fun y_3 ey_3 => ?_)
      have i_3 : y_3.toInt = p1.toInt - p0.toInt := ki_sub ey_3 rfl rfl (om_142 w_1.2.1) (om_143 a1 w_1.1 w_1.2.2)
      refine lv_bipush (v := 64) hx hb dX4_least_15 (by decide) ?_
      refine lv_icmp_gt (tgt := 29) hx hb dX4_least_17 (by decide) (fun c_4 => ?_) (fun c_4 => ?_)
      · have i_4 : 64 < y_3.toInt := kc_lt c_4
        refine lv_iconst (v := (-1)) hx hb dX4_least_29 (by decide) ?_
        have hP9 := hP
        have hD9 := hD
        have hK9 := hK
        exact W.iret (v := (-1)) hx hb hr (fun t ht hW => ⟨⟨(-1), (old, nodes, here, ff, ft, fs, fo, fe, uv, un, js, jl, je, jv, jn, vs, lo, le, fv, fn), rfl, ⟨l0, s0⟩, by rw [ht]; exact hP9, va_K.moved hW.alike hK9, hD9⟩, hS.F ht⟩) hS.2.2 dX4_least_30
      · have i_4 : y_3.toInt ≤ 64 := kc_nlt c_4
        refine lv_iload_n hx hb dX4_least_20 rfl (lv_at hl 3 rfl) ?_
        refine lv_iload hx hb dX4_least_21 (lv_at hl 4 rfl) ?_
        have hPc := hP.sub (ws' := []) [] rfl
        have hKc := hK.sub (tys' := []) [] rfl
        refine vp_callSi (W.runS (As := [.int p2, .int p3]) (rest := []) ⟨hx, hb, hml, hown, hts⟩ (c_X4_isShare l dC dI p2 p3) (va_cwS 2 hts gX4_least_X4_isShare rfl rfl rfl (by decide +kernel) ⟨Nat.le_of_ble_eq_true rfl, Nat.le_of_ble_eq_true rfl⟩) ⟨fun a U g mk q => by obtain ⟨q0, qP, qK⟩ := q; exact ⟨q0, qP, va_K.moved (u := U) (U := U.calling g mk a) (Vm.Alike.refl U.vm) qK⟩, fun U hU hW => ⟨rfl, by rw [hU]; exact hPc, va_K.moved hW.alike hKc⟩⟩ rfl rfl hl.1 rfl (lv_room (Nat.le_of_ble_eq_true rfl)) dX4_least_23 ⟨Nat.le_of_ble_eq_true rfl, Nat.le_of_ble_eq_true rfl⟩) (fun r_5 w_5 => ?_)
        rcases w_5 with ⟨rfl, w_5⟩ | ⟨rfl, w_5⟩
        · have w_5 : (1 ≤ p2.toInt ∧ p2.toInt ≤ p3.toInt ∧ p3.toInt ≤ 999) := w_5
          refine lv_if_ne (tgt := 31) hx hb dX4_least_26 (by decide) (fun c_6 => ?_) (fun c_6 => ?_)
          · refine lv_aload_n hx hb dX4_least_31 rfl (lv_at hl 0 rfl) ?_
            refine lv_iload_n hx hb dX4_least_32 rfl (lv_at hl 1 rfl) ?_
            refine lv_iload_n hx hb dX4_least_33 rfl (lv_at hl 2 rfl) ?_
            refine lv_iload_n hx hb dX4_least_34 rfl (lv_at hl 3 rfl) ?_
            refine lv_iload hx hb dX4_least_35 (lv_at hl 4 rfl) ?_
            have hPc := hP.sub (ws' := [kx_4 m_ q_row q_t t_ h0 k0 w_ z_ slots old, kx_0 q_row q_cell len, kx_a q_cell cyI 160 f]) [0, 2, 3] rfl
            have hKc := hK
            refine vp_callSi (W.runV (As := [.int p0, .int p1, .int p2, .int p3]) (rest := []) ⟨hx, hb, hml, hown, hts⟩ (c_X4_heavyValues l dC dI m_ q_row q_t t_ h0 k0 w_ z_ slots old q_cell cyI len f p0 p1 p2 p3 a0 a1 (om_8 w_1.1) (om_141 a1 w_1.2.2)) (cwV 4 hts gX4_least_X4_heavyValues rfl rfl rfl (by decide +kernel) ⟨Nat.le_of_ble_eq_true rfl, Nat.le_of_ble_eq_true rfl⟩) ⟨fun a U g mk q => by obtain ⟨q0, qP, qK⟩ := q; exact ⟨q0, qP, va_K.moved (u := U) (U := U.calling g mk a) (Vm.Alike.refl U.vm) qK⟩, va_recv hKc hPc (ci := 4) (q0 := 0) rfl rfl, fun U hU hW => ⟨rfl, by rw [hU]; exact hPc, va_K.moved hW.alike hKc⟩⟩ rfl rfl hl.1 rfl (lv_room (Nat.le_of_ble_eq_true rfl)) dX4_least_37 ⟨Nat.le_of_ble_eq_true rfl, Nat.le_of_ble_eq_true rfl⟩) (fun r_7 w_7 => ?_)
            refine lv_istore (lv' := [(5, .int r_7), (0, .ref m_), (1, .int p0), (2, .int p1), (3, .int p2), (4, .int p3)]) hx hb dX4_least_40 hl (by decide) rfl (fun ls hl => ?_)
            refine lv_bipush (v := (-2)) hx hb dX4_least_42 (by decide) ?_
            refine lv_istore (lv' := [(6, .int (-2)), (5, .int r_7), (0, .ref m_), (1, .int p0), (2, .int p1), (3, .int p2), (4, .int p3)]) hx hb dX4_least_44 hl (by decide) rfl (fun ls hl => ?_)
            refine lv_aload_n hx hb dX4_least_46 rfl (lv_at hl 2 rfl) ?_
            obtain ⟨hPc, hDc, hFc, hCc⟩ := kx_pre (wc := [kx_4 m_ q_row q_t t_ h0 k0 w_ z_ slots old, kx_2 q_t q_row q_joined q_from q_to q_size q_lossOf q_lessBy q_value q_number nodes here, kx_0 q_row q_cell len, kx_a q_cell cyI 160 f, kx_a q_from cyI 319 ff, kx_a q_to cyI 319 ft, kx_a q_size cyI 319 fs, kx_a q_lossOf cyI 319 fo, kx_a q_lessBy cyI 319 fe, kx_a q_value cyI 1914 uv, kx_a q_number cyI 1914 un, kx_3 q_joined j_v j_n js jl je, kx_a j_v cyI 12 jv, kx_a j_n cyI 12 jn]) hP hD hS hA [0, 1, 2, 3, 4, 5, 6, 7, 8, 9, 10, 11, 12, 13] (by decide) rfl
            have hKc := hK
            refine va_callr (va_runV (As := []) (rest := []) ⟨hx, hb, hml, hown, hts⟩ (c_X4_laidTree_x l dC dI m_ q_row q_t t_ h0 k0 w_ z_ slots old q_joined q_from q_to q_size q_lossOf q_lessBy q_value q_number nodes here q_cell cyI len f ff ft fs fo uv un fe j_v j_n js jl je jv jn s.heap.size a0 a1 s0 sl0 sl1 l0) (cwV 0 hts gX4_least_X4_laidTree rfl rfl rfl (by decide +kernel) ⟨Nat.le_of_ble_eq_true rfl, Nat.le_of_ble_eq_true rfl⟩) ⟨fun a U g mk q => by obtain ⟨q0, q1, qP, qK, qD⟩ := q; exact ⟨q0, q1, qP, va_K.moved (u := U) (U := U.calling g mk a) (Vm.Alike.refl U.vm) qK, qD⟩, va_recv hKc hPc (ci := 4) (q0 := 0) rfl rfl, fun U hU hW => ⟨rfl, by rw [hU], by rw [hU]; exact hPc, va_K.moved hW.alike hKc, hDc.weaken (fun _ _ _ _ => trivial)⟩⟩ rfl rfl hl.1 rfl (lv_room (Nat.le_of_ble_eq_true rfl)) dX4_least_47 ⟨Nat.le_of_ble_eq_true rfl, Nat.le_of_ble_eq_true rfl⟩) hS (fun q _ h => hFc q h) hFc (fun u ra t H1 locs ht hvm w_8 hB hz1 hk1 hS => ?_)
            obtain ⟨o_9, o_10, o_11, o_12, o_13, o_14, o_15, o_16, o_17, o_18, o_19, o_20, o_21, o_22, o_23⟩ := u
            dsimp only at w_8 hB
            obtain ⟨er, hP1, hK1, hD1⟩ := hB
            rw [ht] at hP1
            have hK1 := va_K.moved hvm.symm hK1
            obtain ⟨hP, hD⟩ := kx_join (w2 := [kx_3 h0 a_v a_n vs lo le, kx_a a_v cyI 12 fv, kx_a a_n cyI 12 fn, kx_4 m_ q_row q_t t_ h0 k0 w_ z_ slots o_9, kx_2 q_t q_row q_joined q_from q_to q_size q_lossOf q_lessBy q_value q_number o_10 o_11, kx_0 q_row q_cell len, kx_a q_cell cyI 160 f, kx_a q_from cyI 319 o_12, kx_a q_to cyI 319 o_13, kx_a q_size cyI 319 o_14, kx_a q_lossOf cyI 319 o_15, kx_a q_lessBy cyI 319 o_16, kx_a q_value cyI 1914 o_17, kx_a q_number cyI 1914 o_18, kx_3 q_joined j_v j_n o_19 o_20 o_21, kx_a j_v cyI 12 o_22, kx_a j_n cyI 12 o_23]) hP hD hP1 hD1 hk1 hFc [0, 1, 2, 3, 4, 5, 6, 7, 8, 9, 10, 11, 12, 13] [14, 15, 16] hCc rfl (by decide) (by decide)
            clear hP1 hD1 hK1 hk1 hz1 hFc hDc hPc hKc hCc
            generalize H1 = H at hP hS ⊢
            have w_8 : o_9.toInt = 0 ∧ o_11 = slots ∧ sixes o_14 ∧ mj_C slots.toNatClampNeg f o_12 o_13 o_14 o_15 o_16 o_17 o_18 o_10.toInt len.toInt ∧ 0 ≤ o_10.toInt ∧ o_10.toInt ≤ 319 ∧ treeOk o_12 o_13 o_10.toInt len.toInt := w_8
            rw [er]
            refine lv_astore (lv' := [(7, .ref q_t), (6, .int (-2)), (5, .int r_7), (0, .ref m_), (1, .int p0), (2, .int p1), (3, .int p2), (4, .int p3)]) hx hb dX4_least_50 hl (by decide) rfl (fun ls hl => ?_)
            refine lv_iconst (v := 1) hx hb dX4_least_52 (by decide) ?_
            refine lv_istore (lv' := [(8, .int 1), (7, .ref q_t), (6, .int (-2)), (5, .int r_7), (0, .ref m_), (1, .int p0), (2, .int p1), (3, .int p2), (4, .int p3)]) hx hb dX4_least_53 hl (by decide) rfl (fun ls hl => ?_)
            have LP1 : ∀ (n : Nat) (found : Int32) (k : Int32) (g_here : Int32) (g_s : Nat → Int32) (g_o : Nat → Int32) (g_e : Nat → Int32) (g_v : Nat → Int32) (g_n : Nat → Int32) (g_js : Int32) (g_jl : Int32) (g_je : Int32) (g_jv : Nat → Int32) (g_jn : Nat → Int32) (g_vs : Int32) (g_vl : Int32) (g_ve : Int32) (g_vv : Nat → Int32) (g_vn : Nat → Int32), (1 ≤ k.toInt) → (sixes g_s) → (∀ k : Nat, (k : Int) < o_10.toInt → ¬ mj_hit o_12 o_13 p0.toInt p1.toInt k → mj_e1 o_14 o_15 o_16 o_17 o_18 g_s g_o g_e g_v g_n k) → (7 - k.toInt).toNat < n → ∀ (H : Heap) (locs : List Loc), va_P (dC, dI) vwCl [kx_3 h0 a_v a_n g_vs g_vl g_ve, kx_a a_v cyI 12 g_vv, kx_a a_n cyI 12 g_vn, kx_4 m_ q_row q_t t_ h0 k0 w_ z_ slots o_9, kx_2 q_t q_row q_joined q_from q_to q_size q_lossOf q_lessBy q_value q_number o_10 g_here, kx_0 q_row q_cell len, kx_a q_cell cyI 160 f, kx_a q_from cyI 319 o_12, kx_a q_to cyI 319 o_13, kx_a q_size cyI 319 g_s, kx_a q_lossOf cyI 319 g_o, kx_a q_lessBy cyI 319 g_e, kx_a q_value cyI 1914 g_v, kx_a q_number cyI 1914 g_n, kx_3 q_joined j_v j_n g_js g_jl g_je, kx_a j_v cyI 12 g_jv, kx_a j_n cyI 12 g_jn] H → va_D A [kx_3 h0 a_v a_n g_vs g_vl g_ve, kx_a a_v cyI 12 g_vv, kx_a a_n cyI 12 g_vn, kx_4 m_ q_row q_t t_ h0 k0 w_ z_ slots o_9, kx_2 q_t q_row q_joined q_from q_to q_size q_lossOf q_lessBy q_value q_number o_10 g_here, kx_0 q_row q_cell len, kx_a q_cell cyI 160 f, kx_a q_from cyI 319 o_12, kx_a q_to cyI 319 o_13, kx_a q_size cyI 319 g_s, kx_a q_lossOf cyI 319 g_o, kx_a q_lessBy cyI 319 g_e, kx_a q_value cyI 1914 g_v, kx_a q_number cyI 1914 g_n, kx_3 q_joined j_v j_n g_js g_jl g_je, kx_a j_v cyI 12 g_jv, kx_a j_n cyI 12 g_jn] → va_S A s.heap H locs → ∀ (ls : Array Slot), lv_has ls 9 [(8, .int k), (7, .ref q_t), (6, .int found), (5, .int r_7), (0, .ref m_), (1, .int p0), (2, .int p1), (3, .int p2), (4, .int p3)] → W p l e (headSpec wsX4_least ({ frames := 6, cells := 0, slots := 0, locals := 270 })).room s m ([.ref m_, .int p0, .int p1, .int p2, .int p3] : List Value).toArray below meth c H locs 0 0 (MQ below (va_Qi (fun (r : Int32) (u : Int32 × Int32 × Int32 × (Nat → Int32) × (Nat → Int32) × (Nat → Int32) × (Nat → Int32) × (Nat → Int32) × (Nat → Int32) × (Nat → Int32) × Int32 × Int32 × Int32 × (Nat → Int32) × (Nat → Int32) × Int32 × Int32 × Int32 × (Nat → Int32) × (Nat → Int32)) => laidX u.1 slots u.2.2.1 f u.2.2.2.1 u.2.2.2.2.1 u.2.2.2.2.2.1 u.2.2.2.2.2.2.1 u.2.2.2.2.2.2.2.1 u.2.2.2.2.2.2.2.2.1 u.2.2.2.2.2.2.2.2.2.1 u.2.1 len ∧ sixes u.2.2.2.2.2.1) (fun (u : Int32 × Int32 × Int32 × (Nat → Int32) × (Nat → Int32) × (Nat → Int32) × (Nat → Int32) × (Nat → Int32) × (Nat → Int32) × (Nat → Int32) × Int32 × Int32 × Int32 × (Nat → Int32) × (Nat → Int32) × Int32 × Int32 × Int32 × (Nat → Int32) × (Nat → Int32)) (t : State) => va_P (dC, dI) vwCl [kx_4 m_ q_row q_t t_ h0 k0 w_ z_ slots u.1, kx_2 q_t q_row q_joined q_from q_to q_size q_lossOf q_lessBy q_value q_number u.2.1 u.2.2.1, kx_0 q_row q_cell len, kx_a q_cell cyI 160 f, kx_a q_from cyI 319 u.2.2.2.1, kx_a q_to cyI 319 u.2.2.2.2.1, kx_a q_size cyI 319 u.2.2.2.2.2.1, kx_a q_lossOf cyI 319 u.2.2.2.2.2.2.1, kx_a q_lessBy cyI 319 u.2.2.2.2.2.2.2.1, kx_a q_value cyI 1914 u.2.2.2.2.2.2.2.2.1, kx_a q_number cyI 1914 u.2.2.2.2.2.2.2.2.2.1, kx_3 q_joined j_v j_n u.2.2.2.2.2.2.2.2.2.2.1 u.2.2.2.2.2.2.2.2.2.2.2.1 u.2.2.2.2.2.2.2.2.2.2.2.2.1, kx_a j_v cyI 12 u.2.2.2.2.2.2.2.2.2.2.2.2.2.1, kx_a j_n cyI 12 u.2.2.2.2.2.2.2.2.2.2.2.2.2.2.1, kx_3 h0 a_v a_n u.2.2.2.2.2.2.2.2.2.2.2.2.2.2.2.1 u.2.2.2.2.2.2.2.2.2.2.2.2.2.2.2.2.1 u.2.2.2.2.2.2.2.2.2.2.2.2.2.2.2.2.2.1, kx_a a_v cyI 12 u.2.2.2.2.2.2.2.2.2.2.2.2.2.2.2.2.2.2.1, kx_a a_n cyI 12 u.2.2.2.2.2.2.2.2.2.2.2.2.2.2.2.2.2.2.2] t.heap ∧ va_K (dC, dI) vwCl [(cyI, .int)] t ∧ va_D A [kx_4 m_ q_row q_t t_ h0 k0 w_ z_ slots u.1, kx_2 q_t q_row q_joined q_from q_to q_size q_lossOf q_lessBy q_value q_number u.2.1 u.2.2.1, kx_0 q_row q_cell len, kx_a q_cell cyI 160 f, kx_a q_from cyI 319 u.2.2.2.1, kx_a q_to cyI 319 u.2.2.2.2.1, kx_a q_size cyI 319 u.2.2.2.2.2.1, kx_a q_lossOf cyI 319 u.2.2.2.2.2.2.1, kx_a q_lessBy cyI 319 u.2.2.2.2.2.2.2.1, kx_a q_value cyI 1914 u.2.2.2.2.2.2.2.2.1, kx_a q_number cyI 1914 u.2.2.2.2.2.2.2.2.2.1, kx_3 q_joined j_v j_n u.2.2.2.2.2.2.2.2.2.2.1 u.2.2.2.2.2.2.2.2.2.2.2.1 u.2.2.2.2.2.2.2.2.2.2.2.2.1, kx_a j_v cyI 12 u.2.2.2.2.2.2.2.2.2.2.2.2.2.1, kx_a j_n cyI 12 u.2.2.2.2.2.2.2.2.2.2.2.2.2.2.1, kx_3 h0 a_v a_n u.2.2.2.2.2.2.2.2.2.2.2.2.2.2.2.1 u.2.2.2.2.2.2.2.2.2.2.2.2.2.2.2.2.1 u.2.2.2.2.2.2.2.2.2.2.2.2.2.2.2.2.2.1, kx_a a_v cyI 12 u.2.2.2.2.2.2.2.2.2.2.2.2.2.2.2.2.2.2.1, kx_a a_n cyI 12 u.2.2.2.2.2.2.2.2.2.2.2.2.2.2.2.2.2.2.2]) A) ([.ref m_, .int p0, .int p1, .int p2, .int p3] : List Value).toArray s 0 0 A) (F0 m 55 ls []) := by
              intro n
              induction n with
              | zero => intro found k g_here g_s g_o g_e g_v g_n g_js g_jl g_je g_jv g_jn g_vs g_vl g_ve g_vv g_vn LP1_h0 LP1_h1 LP1_h2 hn; exact absurd hn (Nat.not_lt_zero _)
              | succ n ih1 =>
                intro found k g_here g_s g_o g_e g_v g_n g_js g_jl g_je g_jv g_jn g_vs g_vl g_ve g_vv g_vn LP1_h0 LP1_h1 LP1_h2 hn1 H locs hP hD hS ls hl
                refine lv_iload hx hb dX4_least_55 (lv_at hl 0 rfl) ?_
                refine lv_bipush (v := 6) hx hb dX4_least_57 (by decide) ?_
                refine lv_icmp_gt (tgt := 104) hx hb dX4_least_59 (by decide) (fun c_24 => ?_) (fun c_24 => ?_)
                · have i_24 : 6 < k.toInt := kc_lt c_24
                  refine lv_aload hx hb dX4_least_104 (lv_at hl 1 rfl) ?_
                  refine lv_aload_n hx hb dX4_least_106 rfl (lv_at hl 4 rfl) ?_
                  refine va_get (D := (dC, dI)) (ci := 4) (v := .int slots) (C := RX4) (T := TX4) (N := 9) hx hb hts hi_4 hown hK hP 3 rfl rfl 7 (by decide) hf_49 (fun _ h9 => h9) rfl dX4_least_107 ?_
                  refine va_put (D := (dC, dI)) (ci := 2) (v := .int slots) (ty := .int) (C := RX2) (T := TX2) (N := 11) hx hb hts hi_2 tyX2 tyX2_ok nmX2 hown hK hP hD hS 4 rfl rfl 10 (by decide) hf_204 (fun _ h9 => h9) rfl (by decide +kernel) rfl rfl (Nat.le_of_ble_eq_true rfl) dX4_least_110 (fun H locs hP hD hS => ?_)
                  obtain ⟨hP, hD⟩ := kx_re (w2 := [kx_3 h0 a_v a_n g_vs g_vl g_ve, kx_a a_v cyI 12 g_vv, kx_a a_n cyI 12 g_vn, kx_4 m_ q_row q_t t_ h0 k0 w_ z_ slots o_9, kx_2 q_t q_row q_joined q_from q_to q_size q_lossOf q_lessBy q_value q_number o_10 slots, kx_0 q_row q_cell len, kx_a q_cell cyI 160 f, kx_a q_from cyI 319 o_12, kx_a q_to cyI 319 o_13, kx_a q_size cyI 319 g_s, kx_a q_lossOf cyI 319 g_o, kx_a q_lessBy cyI 319 g_e, kx_a q_value cyI 1914 g_v, kx_a q_number cyI 1914 g_n, kx_3 q_joined j_v j_n g_js g_jl g_je, kx_a j_v cyI 12 g_jv, kx_a j_n cyI 12 g_jn]) hP hD rfl
                  refine lv_aload hx hb dX4_least_113 (lv_at hl 1 rfl) ?_
                  refine lv_iload_n hx hb dX4_least_115 rfl (lv_at hl 5 rfl) ?_
                  refine lv_iload_n hx hb dX4_least_116 rfl (lv_at hl 6 rfl) ?_
                  obtain ⟨hPc, hDc, hFc, hCc⟩ := kx_pre (wc := [kx_2 q_t q_row q_joined q_from q_to q_size q_lossOf q_lessBy q_value q_number o_10 slots, kx_0 q_row q_cell len, kx_a q_cell cyI 160 f, kx_a q_from cyI 319 o_12, kx_a q_to cyI 319 o_13, kx_a q_size cyI 319 g_s, kx_a q_lossOf cyI 319 g_o, kx_a q_lessBy cyI 319 g_e, kx_a q_value cyI 1914 g_v, kx_a q_number cyI 1914 g_n, kx_3 q_joined j_v j_n g_js g_jl g_je, kx_a j_v cyI 12 g_jv, kx_a j_n cyI 12 g_jn]) hP hD hS hA [4, 5, 6, 7, 8, 9, 10, 11, 12, 13, 14, 15, 16] (by decide) rfl
                  have hKc := hK
                  refine va_calli (va_runV (As := [.int p0, .int p1]) (rest := []) ⟨hx, hb, hml, hown, hts⟩ (c_X2_renew_x l dC dI q_t q_row q_joined q_from q_to q_size q_lossOf q_lessBy q_value q_number o_10 slots q_cell cyI len f o_12 o_13 g_s g_o g_v g_n g_e j_v j_n g_js g_jl g_je g_jv g_jn p0 p1 H.size w_8.2.2.2.2.1 w_8.2.2.2.2.2.1 a1 LP1_h1 w_8.2.2.2.2.2.2 sl0 sl1 w_8.2.2.2.1.2.2.2.2.1 (mj_ok_keep w_8.2.2.2.1.2.2.2.2.2.2 w_8.2.2.2.2.2.2 LP1_h2)) (cwV 2 hts gX4_least_X2_renew rfl rfl rfl (by decide +kernel) ⟨Nat.le_of_ble_eq_true rfl, Nat.le_of_ble_eq_true rfl⟩) ⟨fun a U g mk q => by obtain ⟨q0, q1, qP, qK, qD⟩ := q; exact ⟨q0, q1, qP, va_K.moved (u := U) (U := U.calling g mk a) (Vm.Alike.refl U.vm) qK, qD⟩, va_recv hKc hPc (ci := 2) (q0 := 0) rfl rfl, fun U hU hW => ⟨rfl, by rw [hU], by rw [hU]; exact hPc, va_K.moved hW.alike hKc, hDc.weaken (fun _ _ _ _ => trivial)⟩⟩ rfl rfl hl.1 rfl (lv_room (Nat.le_of_ble_eq_true rfl)) dX4_least_117 ⟨Nat.le_of_ble_eq_true rfl, Nat.le_of_ble_eq_true rfl⟩) hS (fun q _ h => hFc q h) hFc (fun r_25 u t H1 locs ht hvm w_25 hB hz1 hk1 hS => ?_)
                  obtain ⟨o_26, o_27, o_28, o_29, o_30, o_31, o_32, o_33, o_34, o_35⟩ := u
                  dsimp only at w_25 hB
                  obtain ⟨hP1, hK1, hD1⟩ := hB
                  rw [ht] at hP1
                  have hK1 := va_K.moved hvm.symm hK1
                  obtain ⟨hP, hD⟩ := kx_join (w2 := [kx_3 h0 a_v a_n g_vs g_vl g_ve, kx_a a_v cyI 12 g_vv, kx_a a_n cyI 12 g_vn, kx_4 m_ q_row q_t t_ h0 k0 w_ z_ slots o_9, kx_2 q_t q_row q_joined q_from q_to q_size q_lossOf q_lessBy q_value q_number o_10 slots, kx_0 q_row q_cell len, kx_a q_cell cyI 160 f, kx_a q_from cyI 319 o_12, kx_a q_to cyI 319 o_13, kx_a q_size cyI 319 o_26, kx_a q_lossOf cyI 319 o_27, kx_a q_lessBy cyI 319 o_28, kx_a q_value cyI 1914 o_29, kx_a q_number cyI 1914 o_30, kx_3 q_joined j_v j_n o_31 o_32 o_33, kx_a j_v cyI 12 o_34, kx_a j_n cyI 12 o_35]) hP hD hP1 hD1 hk1 hFc [4, 5, 6, 7, 8, 9, 10, 11, 12, 13, 14, 15, 16] [0, 1, 2, 3] hCc rfl (by decide) (by decide)
                  clear hP1 hD1 hK1 hk1 hz1 hFc hDc hPc hKc hCc
                  generalize H1 = H at hP hS ⊢
                  have w_25 : sixes o_26 ∧ ∀ k : Nat, (k : Int) < o_10.toInt → mj_ok slots.toNatClampNeg f o_12 o_13 o_26 o_27 o_28 o_29 o_30 k := w_25
                  refine lv_pop hx hb dX4_least_120 rfl ?_
                  refine lv_iload hx hb dX4_least_121 (lv_at hl 2 rfl) ?_
                  obtain ⟨hP9, hD9⟩ := kx_sub (w2 := [kx_4 m_ q_row q_t t_ h0 k0 w_ z_ slots o_9, kx_2 q_t q_row q_joined q_from q_to q_size q_lossOf q_lessBy q_value q_number o_10 slots, kx_0 q_row q_cell len, kx_a q_cell cyI 160 f, kx_a q_from cyI 319 o_12, kx_a q_to cyI 319 o_13, kx_a q_size cyI 319 o_26, kx_a q_lossOf cyI 319 o_27, kx_a q_lessBy cyI 319 o_28, kx_a q_value cyI 1914 o_29, kx_a q_number cyI 1914 o_30, kx_3 q_joined j_v j_n o_31 o_32 o_33, kx_a j_v cyI 12 o_34, kx_a j_n cyI 12 o_35, kx_3 h0 a_v a_n g_vs g_vl g_ve, kx_a a_v cyI 12 g_vv, kx_a a_n cyI 12 g_vn]) hP hD [3, 4, 5, 6, 7, 8, 9, 10, 11, 12, 13, 14, 15, 16, 0, 1, 2] (by decide) rfl
                  have hK9 := hK
                  exact W.iret (v := found) hx hb hr (fun t ht hW => ⟨⟨found, (o_9, o_10, slots, o_12, o_13, o_26, o_27, o_28, o_29, o_30, o_31, o_32, o_33, o_34, o_35, g_vs, g_vl, g_ve, g_vv, g_vn), rfl, ⟨(fun _ => ⟨rfl, mj_C_new w_8.2.2.2.1 w_25.2⟩), w_25.1⟩, by rw [ht]; exact hP9, va_K.moved hW.alike hK9, hD9⟩, hS.F ht⟩) hS.2.2 dX4_least_123
                · have i_24 : k.toInt ≤ 6 := kc_nlt c_24
                  refine lv_iload hx hb dX4_least_62 (lv_at hl 2 rfl) ?_
                  refine lv_bipush (v := (-2)) hx hb dX4_least_64 (by decide) ?_
                  refine lv_icmp_ne (tgt := 104) hx hb dX4_least_66 (by decide) (fun c_36 => ?_) (fun c_36 => ?_)
                  · have i_36 : ¬ found.toInt = (-2) := kc_ne c_36
                    refine lv_aload hx hb dX4_least_104 (lv_at hl 1 rfl) ?_
                    refine lv_aload_n hx hb dX4_least_106 rfl (lv_at hl 4 rfl) ?_
                    refine va_get (D := (dC, dI)) (ci := 4) (v := .int slots) (C := RX4) (T := TX4) (N := 9) hx hb hts hi_4 hown hK hP 3 rfl rfl 7 (by decide) hf_49 (fun _ h9 => h9) rfl dX4_least_107 ?_
                    refine va_put (D := (dC, dI)) (ci := 2) (v := .int slots) (ty := .int) (C := RX2) (T := TX2) (N := 11) hx hb hts hi_2 tyX2 tyX2_ok nmX2 hown hK hP hD hS 4 rfl rfl 10 (by decide) hf_204 (fun _ h9 => h9) rfl (by decide +kernel) rfl rfl (Nat.le_of_ble_eq_true rfl) dX4_least_110 (fun H locs hP hD hS => ?_)
                    obtain ⟨hP, hD⟩ := kx_re (w2 := [kx_3 h0 a_v a_n g_vs g_vl g_ve, kx_a a_v cyI 12 g_vv, kx_a a_n cyI 12 g_vn, kx_4 m_ q_row q_t t_ h0 k0 w_ z_ slots o_9, kx_2 q_t q_row q_joined q_from q_to q_size q_lossOf q_lessBy q_value q_number o_10 slots, kx_0 q_row q_cell len, kx_a q_cell cyI 160 f, kx_a q_from cyI 319 o_12, kx_a q_to cyI 319 o_13, kx_a q_size cyI 319 g_s, kx_a q_lossOf cyI 319 g_o, kx_a q_lessBy cyI 319 g_e, kx_a q_value cyI 1914 g_v, kx_a q_number cyI 1914 g_n, kx_3 q_joined j_v j_n g_js g_jl g_je, kx_a j_v cyI 12 g_jv, kx_a j_n cyI 12 g_jn]) hP hD rfl
                    refine lv_aload hx hb dX4_least_113 (lv_at hl 1 rfl) ?_
                    refine lv_iload_n hx hb dX4_least_115 rfl (lv_at hl 5 rfl) ?_
                    refine lv_iload_n hx hb dX4_least_116 rfl (lv_at hl 6 rfl) ?_
                    obtain ⟨hPc, hDc, hFc, hCc⟩ := kx_pre (wc := [kx_2 q_t q_row q_joined q_from q_to q_size q_lossOf q_lessBy q_value q_number o_10 slots, kx_0 q_row q_cell len, kx_a q_cell cyI 160 f, kx_a q_from cyI 319 o_12, kx_a q_to cyI 319 o_13, kx_a q_size cyI 319 g_s, kx_a q_lossOf cyI 319 g_o, kx_a q_lessBy cyI 319 g_e, kx_a q_value cyI 1914 g_v, kx_a q_number cyI 1914 g_n, kx_3 q_joined j_v j_n g_js g_jl g_je, kx_a j_v cyI 12 g_jv, kx_a j_n cyI 12 g_jn]) hP hD hS hA [4, 5, 6, 7, 8, 9, 10, 11, 12, 13, 14, 15, 16] (by decide) rfl
                    have hKc := hK
                    refine va_calli (va_runV (As := [.int p0, .int p1]) (rest := []) ⟨hx, hb, hml, hown, hts⟩ (c_X2_renew_x l dC dI q_t q_row q_joined q_from q_to q_size q_lossOf q_lessBy q_value q_number o_10 slots q_cell cyI len f o_12 o_13 g_s g_o g_v g_n g_e j_v j_n g_js g_jl g_je g_jv g_jn p0 p1 H.size w_8.2.2.2.2.1 w_8.2.2.2.2.2.1 a1 LP1_h1 w_8.2.2.2.2.2.2 sl0 sl1 w_8.2.2.2.1.2.2.2.2.1 (mj_ok_keep w_8.2.2.2.1.2.2.2.2.2.2 w_8.2.2.2.2.2.2 LP1_h2)) (cwV 2 hts gX4_least_X2_renew rfl rfl rfl (by decide +kernel) ⟨Nat.le_of_ble_eq_true rfl, Nat.le_of_ble_eq_true rfl⟩) ⟨fun a U g mk q => by obtain ⟨q0, q1, qP, qK, qD⟩ := q; exact ⟨q0, q1, qP, va_K.moved (u := U) (U := U.calling g mk a) (Vm.Alike.refl U.vm) qK, qD⟩, va_recv hKc hPc (ci := 2) (q0 := 0) rfl rfl, fun U hU hW => ⟨rfl, by rw [hU], by rw [hU]; exact hPc, va_K.moved hW.alike hKc, hDc.weaken (fun _ _ _ _ => trivial)⟩⟩ rfl rfl hl.1 rfl (lv_room (Nat.le_of_ble_eq_true rfl)) dX4_least_117 ⟨Nat.le_of_ble_eq_true rfl, Nat.le_of_ble_eq_true rfl⟩) hS (fun q _ h => hFc q h) hFc (fun r_37 u t H1 locs ht hvm w_37 hB hz1 hk1 hS => ?_)
                    obtain ⟨o_38, o_39, o_40, o_41, o_42, o_43, o_44, o_45, o_46, o_47⟩ := u
                    dsimp only at w_37 hB
                    obtain ⟨hP1, hK1, hD1⟩ := hB
                    rw [ht] at hP1
                    have hK1 := va_K.moved hvm.symm hK1
                    obtain ⟨hP, hD⟩ := kx_join (w2 := [kx_3 h0 a_v a_n g_vs g_vl g_ve, kx_a a_v cyI 12 g_vv, kx_a a_n cyI 12 g_vn, kx_4 m_ q_row q_t t_ h0 k0 w_ z_ slots o_9, kx_2 q_t q_row q_joined q_from q_to q_size q_lossOf q_lessBy q_value q_number o_10 slots, kx_0 q_row q_cell len, kx_a q_cell cyI 160 f, kx_a q_from cyI 319 o_12, kx_a q_to cyI 319 o_13, kx_a q_size cyI 319 o_38, kx_a q_lossOf cyI 319 o_39, kx_a q_lessBy cyI 319 o_40, kx_a q_value cyI 1914 o_41, kx_a q_number cyI 1914 o_42, kx_3 q_joined j_v j_n o_43 o_44 o_45, kx_a j_v cyI 12 o_46, kx_a j_n cyI 12 o_47]) hP hD hP1 hD1 hk1 hFc [4, 5, 6, 7, 8, 9, 10, 11, 12, 13, 14, 15, 16] [0, 1, 2, 3] hCc rfl (by decide) (by decide)
                    clear hP1 hD1 hK1 hk1 hz1 hFc hDc hPc hKc hCc
                    generalize H1 = H at hP hS ⊢
                    have w_37 : sixes o_38 ∧ ∀ k : Nat, (k : Int) < o_10.toInt → mj_ok slots.toNatClampNeg f o_12 o_13 o_38 o_39 o_40 o_41 o_42 k := w_37
                    refine lv_pop hx hb dX4_least_120 rfl ?_
                    refine lv_iload hx hb dX4_least_121 (lv_at hl 2 rfl) ?_
                    obtain ⟨hP9, hD9⟩ := kx_sub (w2 := [kx_4 m_ q_row q_t t_ h0 k0 w_ z_ slots o_9, kx_2 q_t q_row q_joined q_from q_to q_size q_lossOf q_lessBy q_value q_number o_10 slots, kx_0 q_row q_cell len, kx_a q_cell cyI 160 f, kx_a q_from cyI 319 o_12, kx_a q_to cyI 319 o_13, kx_a q_size cyI 319 o_38, kx_a q_lossOf cyI 319 o_39, kx_a q_lessBy cyI 319 o_40, kx_a q_value cyI 1914 o_41, kx_a q_number cyI 1914 o_42, kx_3 q_joined j_v j_n o_43 o_44 o_45, kx_a j_v cyI 12 o_46, kx_a j_n cyI 12 o_47, kx_3 h0 a_v a_n g_vs g_vl g_ve, kx_a a_v cyI 12 g_vv, kx_a a_n cyI 12 g_vn]) hP hD [3, 4, 5, 6, 7, 8, 9, 10, 11, 12, 13, 14, 15, 16, 0, 1, 2] (by decide) rfl
                    have hK9 := hK
                    exact W.iret (v := found) hx hb hr (fun t ht hW => ⟨⟨found, (o_9, o_10, slots, o_12, o_13, o_38, o_39, o_40, o_41, o_42, o_43, o_44, o_45, o_46, o_47, g_vs, g_vl, g_ve, g_vv, g_vn), rfl, ⟨(fun _ => ⟨rfl, mj_C_new w_8.2.2.2.1 w_37.2⟩), w_37.1⟩, by rw [ht]; exact hP9, va_K.moved hW.alike hK9, hD9⟩, hS.F ht⟩) hS.2.2 dX4_least_123
                  · have i_36 : found.toInt = (-2) := kc_eq c_36
                    refine lv_iload hx hb dX4_least_69 (lv_at hl 0 rfl) ?_
                    refine lv_iload hx hb dX4_least_71 (lv_at hl 3 rfl) ?_
                    refine lv_icmp_lt (tgt := 98) hx hb dX4_least_73 (by decide) (fun c_48 => ?_) (fun c_48 => ?_)
                    · have i_48 : k.toInt < r_7.toInt := kc_lt c_48
                      obtain ⟨x_49, ex_49⟩ : ∃ y : Int32, y = k + 1 := ⟨_, rfl⟩
                      have i_49 : x_49.toInt = k.toInt + 1 := ki_add ex_49 rfl rfl (om_33 LP1_h0) (om_178 i_24)
                      refine lv_iinc (v := x_49) (lv' := [(8, .int x_49), (7, .ref q_t), (6, .int found), (5, .int r_7), (0, .ref m_), (1, .int p0), (2, .int p1), (3, .int p2), (4, .int p3)]) hx hb dX4_least_98 hl (k := 0) rfl (by rw [ex_49]; rfl) (by decide) rfl (fun ls hl => ?_)
                      refine lv_goto (tgt := 55) hx hb dX4_least_101 (by decide) ?_
                      exact ih1 found x_49 g_here g_s g_o g_e g_v g_n g_js g_jl g_je g_jv g_jn g_vs g_vl g_ve g_vv g_vn (om_34 LP1_h0 i_49) LP1_h1 LP1_h2 (om_mu hn1 (om_179 i_49) (om_180 i_24)) _ _ hP hD hS ls (lv_sub hl [0, 1, 2, 3, 4, 5, 6, 7, 8] rfl)
                    · have i_48 : r_7.toInt ≤ k.toInt := kc_nlt c_48
                      refine lv_aload_n hx hb dX4_least_76 rfl (lv_at hl 4 rfl) ?_
                      refine lv_aload hx hb dX4_least_77 (lv_at hl 1 rfl) ?_
                      refine lv_iload hx hb dX4_least_79 (lv_at hl 0 rfl) ?_
                      refine lv_iload_n hx hb dX4_least_81 rfl (lv_at hl 5 rfl) ?_
                      refine lv_iload_n hx hb dX4_least_82 rfl (lv_at hl 6 rfl) ?_
                      refine lv_iload_n hx hb dX4_least_83 rfl (lv_at hl 7 rfl) ?_
                      refine lv_iload hx hb dX4_least_84 (lv_at hl 8 rfl) ?_
                      obtain ⟨hPc, hDc, hFc, hCc⟩ := kx_pre (wc := [kx_4 m_ q_row q_t t_ h0 k0 w_ z_ slots o_9, kx_2 q_t q_row q_joined q_from q_to q_size q_lossOf q_lessBy q_value q_number o_10 g_here, kx_0 q_row q_cell len, kx_a q_cell cyI 160 f, kx_a q_from cyI 319 o_12, kx_a q_to cyI 319 o_13, kx_a q_size cyI 319 g_s, kx_a q_lossOf cyI 319 g_o, kx_a q_lessBy cyI 319 g_e, kx_a q_value cyI 1914 g_v, kx_a q_number cyI 1914 g_n, kx_3 q_joined j_v j_n g_js g_jl g_je, kx_a j_v cyI 12 g_jv, kx_a j_n cyI 12 g_jn, kx_3 h0 a_v a_n g_vs g_vl g_ve, kx_a a_v cyI 12 g_vv, kx_a a_n cyI 12 g_vn]) hP hD hS hA [3, 4, 5, 6, 7, 8, 9, 10, 11, 12, 13, 14, 15, 16, 0, 1, 2] (by decide) rfl
                      have hKc := hK
                      refine va_calli (va_runV (As := [.ref q_t, .int k, .int p0, .int p1, .int p2, .int p3]) (rest := []) ⟨hx, hb, hml, hown, hts⟩ (c_X4_heavyVotesBy_s l dC dI m_ q_row q_t t_ h0 k0 w_ z_ slots o_9 q_joined q_from q_to q_size q_lossOf q_lessBy q_value q_number o_10 g_here q_cell cyI len f o_12 o_13 g_s g_o g_v g_n g_e j_v j_n g_js g_jl g_je g_jv g_jn a_v a_n g_vs g_vl g_ve g_vv g_vn k p0 p1 p2 p3 H.size w_8.2.2.2.2.1 w_8.2.2.2.2.2.1 a1 LP1_h1 w_8.2.2.2.2.2.2 (om_8 w_1.1) (om_141 a1 w_1.2.2)) (cwV 6 hts gX4_least_X4_heavyVotesBy rfl rfl rfl (by decide +kernel) ⟨Nat.le_of_ble_eq_true rfl, Nat.le_of_ble_eq_true rfl⟩) ⟨fun a U g mk q => by obtain ⟨q0, q1, qP, qK, qD⟩ := q; exact ⟨q0, q1, qP, va_K.moved (u := U) (U := U.calling g mk a) (Vm.Alike.refl U.vm) qK, qD⟩, va_recv hKc hPc (ci := 4) (q0 := 0) rfl rfl, fun U hU hW => ⟨rfl, by rw [hU], by rw [hU]; exact hPc, va_K.moved hW.alike hKc, hDc.weaken (fun _ _ _ _ => trivial)⟩⟩ rfl rfl hl.1 rfl (lv_room (Nat.le_of_ble_eq_true rfl)) dX4_least_86 ⟨Nat.le_of_ble_eq_true rfl, Nat.le_of_ble_eq_true rfl⟩) hS (fun q _ h => hFc q h) hFc (fun r_50 u t H1 locs ht hvm w_50 hB hz1 hk1 hS => ?_)
                      obtain ⟨o_51, o_52, o_53, o_54, o_55, o_56, o_57, o_58, o_59, o_60, o_61, o_62, o_63, o_64, o_65⟩ := u
                      dsimp only at w_50 hB
                      obtain ⟨hP1, hK1, hD1⟩ := hB
                      rw [ht] at hP1
                      have hK1 := va_K.moved hvm.symm hK1
                      obtain ⟨hP, hD⟩ := kx_join (w2 := [kx_4 m_ q_row q_t t_ h0 k0 w_ z_ slots o_9, kx_2 q_t q_row q_joined q_from q_to q_size q_lossOf q_lessBy q_value q_number o_10 k, kx_0 q_row q_cell len, kx_a q_cell cyI 160 f, kx_a q_from cyI 319 o_12, kx_a q_to cyI 319 o_13, kx_a q_size cyI 319 o_51, kx_a q_lossOf cyI 319 o_52, kx_a q_lessBy cyI 319 o_53, kx_a q_value cyI 1914 o_54, kx_a q_number cyI 1914 o_55, kx_3 q_joined j_v j_n o_56 o_57 o_58, kx_a j_v cyI 12 o_59, kx_a j_n cyI 12 o_60, kx_3 h0 a_v a_n o_61 o_62 o_63, kx_a a_v cyI 12 o_64, kx_a a_n cyI 12 o_65]) hP hD hP1 hD1 hk1 hFc [3, 4, 5, 6, 7, 8, 9, 10, 11, 12, 13, 14, 15, 16, 0, 1, 2] [] hCc rfl (by decide) (by decide)
                      clear hP1 hD1 hK1 hk1 hz1 hFc hDc hPc hKc hCc
                      generalize H1 = H at hP hS ⊢
                      have w_50 : sixes o_51 ∧ ∀ k : Nat, (k : Int) < o_10.toInt → ¬ mj_hit o_12 o_13 p0.toInt p1.toInt k → mj_e1 g_s g_o g_e g_v g_n o_51 o_52 o_53 o_54 o_55 k := w_50
                      refine lv_iload hx hb dX4_least_89 (lv_at hl 3 rfl) ?_
                      refine lv_icmp_ne (tgt := 98) hx hb dX4_least_91 (by decide) (fun c_66 => ?_) (fun c_66 => ?_)
                      · have i_66 : ¬ r_50.toInt = r_7.toInt := kc_ne c_66
                        obtain ⟨x_67, ex_67⟩ : ∃ y : Int32, y = k + 1 := ⟨_, rfl⟩
                        have i_67 : x_67.toInt = k.toInt + 1 := ki_add ex_67 rfl rfl (om_33 LP1_h0) (om_178 i_24)
                        refine lv_iinc (v := x_67) (lv' := [(8, .int x_67), (7, .ref q_t), (6, .int found), (5, .int r_7), (0, .ref m_), (1, .int p0), (2, .int p1), (3, .int p2), (4, .int p3)]) hx hb dX4_least_98 hl (k := 0) rfl (by rw [ex_67]; rfl) (by decide) rfl (fun ls hl => ?_)
                        refine lv_goto (tgt := 55) hx hb dX4_least_101 (by decide) ?_
                        have hP : va_P (dC, dI) vwCl [kx_3 h0 a_v a_n o_61 o_62 o_63, kx_a a_v cyI 12 o_64, kx_a a_n cyI 12 o_65, kx_4 m_ q_row q_t t_ h0 k0 w_ z_ slots o_9, kx_2 q_t q_row q_joined q_from q_to q_size q_lossOf q_lessBy q_value q_number o_10 k, kx_0 q_row q_cell len, kx_a q_cell cyI 160 f, kx_a q_from cyI 319 o_12, kx_a q_to cyI 319 o_13, kx_a q_size cyI 319 o_51, kx_a q_lossOf cyI 319 o_52, kx_a q_lessBy cyI 319 o_53, kx_a q_value cyI 1914 o_54, kx_a q_number cyI 1914 o_55, kx_3 q_joined j_v j_n o_56 o_57 o_58, kx_a j_v cyI 12 o_59, kx_a j_n cyI 12 o_60] _ := hP.sub [14, 15, 16, 0, 1, 2, 3, 4, 5, 6, 7, 8, 9, 10, 11, 12, 13] rfl
                        have hD : va_D A [kx_3 h0 a_v a_n o_61 o_62 o_63, kx_a a_v cyI 12 o_64, kx_a a_n cyI 12 o_65, kx_4 m_ q_row q_t t_ h0 k0 w_ z_ slots o_9, kx_2 q_t q_row q_joined q_from q_to q_size q_lossOf q_lessBy q_value q_number o_10 k, kx_0 q_row q_cell len, kx_a q_cell cyI 160 f, kx_a q_from cyI 319 o_12, kx_a q_to cyI 319 o_13, kx_a q_size cyI 319 o_51, kx_a q_lossOf cyI 319 o_52, kx_a q_lessBy cyI 319 o_53, kx_a q_value cyI 1914 o_54, kx_a q_number cyI 1914 o_55, kx_3 q_joined j_v j_n o_56 o_57 o_58, kx_a j_v cyI 12 o_59, kx_a j_n cyI 12 o_60] := hD.sub [14, 15, 16, 0, 1, 2, 3, 4, 5, 6, 7, 8, 9, 10, 11, 12, 13] (by decide) rfl
                        exact ih1 found x_67 k o_51 o_52 o_53 o_54 o_55 o_56 o_57 o_58 o_59 o_60 o_61 o_62 o_63 o_64 o_65 (om_34 LP1_h0 i_67) w_50.1 (fun k h1 h2 => by obtain ⟨x1, x2, x3, x4⟩ := LP1_h2 k h1 h2; obtain ⟨y1, y2, y3, y4⟩ := w_50.2 k h1 h2; exact ⟨y1.trans x1, y2.trans x2, y3.trans x3, fun q z1 z2 => by have a := y4 q z1 z2; have b := x4 q z1 z2; exact ⟨a.1.trans b.1, a.2.trans b.2⟩⟩) (om_mu hn1 (om_179 i_67) (om_180 i_24)) _ _ hP hD hS ls (lv_sub hl [0, 1, 2, 3, 4, 5, 6, 7, 8] rfl)
                      · have i_66 : r_50.toInt = r_7.toInt := kc_eq c_66
                        refine lv_iload hx hb dX4_least_94 (lv_at hl 0 rfl) ?_
                        refine lv_istore (lv' := [(6, .int k), (8, .int k), (7, .ref q_t), (5, .int r_7), (0, .ref m_), (1, .int p0), (2, .int p1), (3, .int p2), (4, .int p3)]) hx hb dX4_least_96 hl (by decide) rfl (fun ls hl => ?_)
                        obtain ⟨x_68, ex_68⟩ : ∃ y : Int32, y = k + 1 := ⟨_, rfl⟩
                        have i_68 : x_68.toInt = k.toInt + 1 := ki_add ex_68 rfl rfl (om_33 LP1_h0) (om_178 i_24)
                        refine lv_iinc (v := x_68) (lv' := [(8, .int x_68), (6, .int k), (7, .ref q_t), (5, .int r_7), (0, .ref m_), (1, .int p0), (2, .int p1), (3, .int p2), (4, .int p3)]) hx hb dX4_least_98 hl (k := 1) rfl (by rw [ex_68]; rfl) (by decide) rfl (fun ls hl => ?_)
                        refine lv_goto (tgt := 55) hx hb dX4_least_101 (by decide) ?_
                        have hP : va_P (dC, dI) vwCl [kx_3 h0 a_v a_n o_61 o_62 o_63, kx_a a_v cyI 12 o_64, kx_a a_n cyI 12 o_65, kx_4 m_ q_row q_t t_ h0 k0 w_ z_ slots o_9, kx_2 q_t q_row q_joined q_from q_to q_size q_lossOf q_lessBy q_value q_number o_10 k, kx_0 q_row q_cell len, kx_a q_cell cyI 160 f, kx_a q_from cyI 319 o_12, kx_a q_to cyI 319 o_13, kx_a q_size cyI 319 o_51, kx_a q_lossOf cyI 319 o_52, kx_a q_lessBy cyI 319 o_53, kx_a q_value cyI 1914 o_54, kx_a q_number cyI 1914 o_55, kx_3 q_joined j_v j_n o_56 o_57 o_58, kx_a j_v cyI 12 o_59, kx_a j_n cyI 12 o_60] _ := hP.sub [14, 15, 16, 0, 1, 2, 3, 4, 5, 6, 7, 8, 9, 10, 11, 12, 13] rfl
                        have hD : va_D A [kx_3 h0 a_v a_n o_61 o_62 o_63, kx_a a_v cyI 12 o_64, kx_a a_n cyI 12 o_65, kx_4 m_ q_row q_t t_ h0 k0 w_ z_ slots o_9, kx_2 q_t q_row q_joined q_from q_to q_size q_lossOf q_lessBy q_value q_number o_10 k, kx_0 q_row q_cell len, kx_a q_cell cyI 160 f, kx_a q_from cyI 319 o_12, kx_a q_to cyI 319 o_13, kx_a q_size cyI 319 o_51, kx_a q_lossOf cyI 319 o_52, kx_a q_lessBy cyI 319 o_53, kx_a q_value cyI 1914 o_54, kx_a q_number cyI 1914 o_55, kx_3 q_joined j_v j_n o_56 o_57 o_58, kx_a j_v cyI 12 o_59, kx_a j_n cyI 12 o_60] := hD.sub [14, 15, 16, 0, 1, 2, 3, 4, 5, 6, 7, 8, 9, 10, 11, 12, 13] (by decide) rfl
                        exact ih1 k x_68 k o_51 o_52 o_53 o_54 o_55 o_56 o_57 o_58 o_59 o_60 o_61 o_62 o_63 o_64 o_65 (om_34 LP1_h0 i_68) w_50.1 (fun k h1 h2 => by obtain ⟨x1, x2, x3, x4⟩ := LP1_h2 k h1 h2; obtain ⟨y1, y2, y3, y4⟩ := w_50.2 k h1 h2; exact ⟨y1.trans x1, y2.trans x2, y3.trans x3, fun q z1 z2 => by have a := y4 q z1 z2; have b := x4 q z1 z2; exact ⟨a.1.trans b.1, a.2.trans b.2⟩⟩) (om_mu hn1 (om_179 i_68) (om_180 i_24)) _ _ hP hD hS ls (lv_sub hl [0, 2, 1, 3, 4, 5, 6, 7, 8] rfl)
            have k_69 : ((-2) : Int32).toInt = -2 := rfl
            have k_70 : (1 : Int32).toInt = 1 := rfl
            exact LP1 ((7 - 1 : Int).toNat + 1) (-2) 1 o_11 o_14 o_15 o_16 o_17 o_18 o_19 o_20 o_21 o_22 o_23 vs lo le fv fn om_45 w_8.2.2.1 (fun k _ _ => ⟨rfl, rfl, rfl, fun q _ _ => ⟨rfl, rfl⟩⟩) (Nat.lt_succ_self _) _ _ hP hD hS ls (lv_sub hl [0, 1, 2, 3, 4, 5, 6, 7, 8] rfl)
          · exact absurd c_6 (by decide)
        · have w_5 : (p2.toInt < 1 ∨ p3.toInt < p2.toInt ∨ 999 < p3.toInt) := w_5
          refine lv_if_ne (tgt := 31) hx hb dX4_least_26 (by decide) (fun c_71 => ?_) (fun c_71 => ?_)
          · exact absurd c_71 (by decide)
          · refine lv_iconst (v := (-1)) hx hb dX4_least_29 (by decide) ?_
            have hP9 := hP
            have hD9 := hD
            have hK9 := hK
            exact W.iret (v := (-1)) hx hb hr (fun t ht hW => ⟨⟨(-1), (old, nodes, here, ff, ft, fs, fo, fe, uv, un, js, jl, je, jv, jn, vs, lo, le, fv, fn), rfl, ⟨l0, s0⟩, by rw [ht]; exact hP9, va_K.moved hW.alike hK9, hD9⟩, hS.F ht⟩) hS.2.2 dX4_least_30
  · have w_1 : (p0.toInt < 0 ∨ p1.toInt ≤ p0.toInt ∨ len.toInt < p1.toInt) := w_1
    refine lv_if_eq (tgt := 29) hx hb dX4_least_9 (by decide) (fun c_72 => ?_) (fun c_72 => ?_)
    · refine lv_iconst (v := (-1)) hx hb dX4_least_29 (by decide) ?_
      have hP9 := hP
      have hD9 := hD
      have hK9 := hK
      exact W.iret (v := (-1)) hx hb hr (fun t ht hW => ⟨⟨(-1), (old, nodes, here, ff, ft, fs, fo, fe, uv, un, js, jl, je, jv, jn, vs, lo, le, fv, fn), rfl, ⟨l0, s0⟩, by rw [ht]; exact hP9, va_K.moved hW.alike hK9, hD9⟩, hS.F ht⟩) hS.2.2 dX4_least_30
    · exact absurd c_72 (by decide)


