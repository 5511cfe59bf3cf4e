theorem mj_ch_in {K : Nat} {f ff ft fs fo fe uv un : Nat → Int32} {nd n l r : Int} {k : Nat} (ht : treeOk ff ft nd n) (hc : mj_cr ff ft nd) (hk : (k : Int) < nd) (hl : l ≤ (ff k).toInt) (hr : (ft k).toInt ≤ r) (h : ∀ j : Nat, k < j → (j : Int) < nd → l ≤ (ff j).toInt → (ft j).toInt ≤ r → mj_ok K f ff ft fs fo fe uv un j) : mj_ch K f ff ft fs fo fe uv un k := by
  obtain ⟨a1, a2, a3, a4⟩ := ht k hk
  have n1 := ki_nat (ff k) rfl a1
  have n2 := ki_nat (ft k) rfl (by omega)
  by_cases hw : (ft k).toInt - (ff k).toInt = 1
  · exact Or.inl hw
  · obtain ⟨c1, c2, c3, c4⟩ := hc k hk (by omega)
    have hm : mj_mid ff ft k = ((ff k).toNatClampNeg + (ft k).toNatClampNeg) / 2 := rfl
    obtain ⟨e1, e2, e3, e4⟩ := ht (k + 1) (by omega)
    have m1 := ki_nat (ff (k + 1)) rfl e1
    have m2 := ki_nat (ft (k + 1)) rfl (by omega)
    obtain ⟨g1, g2, g3, g4⟩ := ht (k + 2 * (mj_mid ff ft k - (ff k).toNatClampNeg)) (by omega)
    have m3 := ki_nat (ff (k + 2 * (mj_mid ff ft k - (ff k).toNatClampNeg))) rfl g1
    have m4 := ki_nat (ft (k + 2 * (mj_mid ff ft k - (ff k).toNatClampNeg))) rfl (by omega)
    obtain ⟨d1, μa, La, ca, ta⟩ := h (k + 1) (by omega) (by omega) (by omega) (by omega)
    obtain ⟨d2, μb, Lb, cb, tb⟩ := h (k + 2 * (mj_mid ff ft k - (ff k).toNatClampNeg)) (by omega) (by omega) (by omega) (by omega)
    rw [c1, c2] at ta
    rw [c3, c4] at tb
    exact Or.inr ⟨by omega, d1 + d2, μa, La, ca, μb, Lb, cb, mj_T_max ta (by omega), mj_T_max tb (by omega)⟩
/-- the nodes from b on that lie inside are right -/
def mj_ri (K : Nat) (f ff ft fs fo fe uv un : Nat → Int32) (l r nd : Int) (b : Nat) : Prop := ∀ k : Nat, b ≤ k → (k : Int) < nd → l ≤ (ff k).toInt → (ft k).toInt ≤ r → mj_ok K f ff ft fs fo fe uv un k
theorem mj_ri_low {K : Nat} {f ff ft fs fo fe uv un fs2 fo2 fe2 uv2 un2 : Nat → Int32} {l r nd : Int} {b k : Nat} (h : mj_ri K f ff ft fs fo fe uv un l r nd b) (hb : b = k + 1) (ho : ∀ j : Nat, ¬ j = k → fs2 j = fs j ∧ fo2 j = fo j ∧ fe2 j = fe j) (hw : ∀ q : Nat, (q < 6 * k ∨ 6 * k + 6 ≤ q) → uv2 q = uv q ∧ un2 q = un q) (own : l ≤ (ff k).toInt → (ft k).toInt ≤ r → mj_ok K f ff ft fs2 fo2 fe2 uv2 un2 k) : mj_ri K f ff ft fs2 fo2 fe2 uv2 un2 l r nd k := by
  subst hb
  intro j h1 h2 h3 h4
  rcases Nat.lt_or_eq_of_le h1 with q | q
  · refine mj_ok_ag (h j q h2 h3 h4) (fun b2 _ => ⟨fun x y z => ?_, fun x y z => hw x (by omega)⟩)
    obtain ⟨o1, o2, o3⟩ := ho x (by omega)
    exact ⟨rfl, rfl, o1, o2, o3⟩
  · subst q
    exact own h3 h4

set_option maxHeartbeats 4000000 in
set_option maxRecDepth 100000 in
theorem c_X2_renew_i (l : Launch) (dC : Nat → ClassId) (dI : Nat → Nat → Nat) (q_t : Nat) (q_row : Nat) (q_joined : Nat) (q_from : Nat) (q_to : Nat) (q_size : Nat) (q_lossOf : Nat) (q_lessBy : Nat) (q_value : Nat) (q_number : Nat) (nodes : Int32) (here : Int32) (q_cell : Nat) (cyI : ClassId) (len : Int32) (f : Nat → Int32) (ff : Nat → Int32) (ft : Nat → Int32) (fs : Nat → Int32) (fo : Nat → Int32) (uv : Nat → Int32) (un : Nat → Int32) (fe : Nat → Int32) (j_v : Nat) (j_n : Nat) (js : Int32) (jl : Int32) (je : Int32) (jv : Nat → Int32) (jn : Nat → Int32) (p0 : Int32) (p1 : Int32) (sz : Nat) (b0 : 0 ≤ nodes.toInt) (c0 : nodes.toInt ≤ 319) (c1 : len.toInt ≤ 160) (s0 : sixes fs) (t0 : treeOk ff ft nodes.toInt len.toInt) (d9 : p0.toInt < p1.toInt) (k0 : 1 ≤ here.toInt) (k1 : here.toInt ≤ 6) (hcr : mj_cr ff ft nodes.toInt) : Met l yX2_renew wsX2_renew ({ frames := 4, cells := 0, slots := 0, locals := 180 }) (va_Pc [.ref q_t, .int p0, .int p1] (fun U => U.heap.size = sz ∧ va_P (dC, dI) vwCl [kx_2 q_t q_row q_joined q_from q_to q_size q_lossOf q_lessBy q_value q_number nodes here, kx_0 q_row q_cell len, kx_a q_cell cyI 160 f, kx_a q_from cyI 319 ff, kx_a q_to cyI 319 ft, kx_a q_size cyI 319 fs, kx_a q_lossOf cyI 319 fo, kx_a q_lessBy cyI 319 fe, kx_a q_value cyI 1914 uv, kx_a q_number cyI 1914 un, kx_3 q_joined j_v j_n js jl je, kx_a j_v cyI 12 jv, kx_a j_n cyI 12 jn] U.heap ∧ va_K (dC, dI) vwCl [(cyI, .int)] U ∧ va_D (fun _ => True) [kx_2 q_t q_row q_joined q_from q_to q_size q_lossOf q_lessBy q_value q_number nodes here, kx_0 q_row q_cell len, kx_a q_cell cyI 160 f, kx_a q_from cyI 319 ff, kx_a q_to cyI 319 ft, kx_a q_size cyI 319 fs, kx_a q_lossOf cyI 319 fo, kx_a q_lessBy cyI 319 fe, kx_a q_value cyI 1914 uv, kx_a q_number cyI 1914 un, kx_3 q_joined j_v j_n js jl je, kx_a j_v cyI 12 jv, kx_a j_n cyI 12 jn])) (va_Qi (fun (r : Int32) (u : (Nat → Int32) × (Nat → Int32) × (Nat → Int32) × (Nat → Int32) × (Nat → Int32) × Int32 × Int32 × Int32 × (Nat → Int32) × (Nat → Int32)) => sixes u.1 ∧ (∀ k : Nat, (k : Int) < nodes.toInt → ¬ mj_hit ff ft p0.toInt p1.toInt k → mj_e1 fs fo fe uv un u.1 u.2.1 u.2.2.1 u.2.2.2.1 u.2.2.2.2.1 k) ∧ mj_ri here.toNatClampNeg f ff ft u.1 u.2.1 u.2.2.1 u.2.2.2.1 u.2.2.2.2.1 p0.toInt p1.toInt nodes.toInt 0) (fun (u : (Nat → Int32) × (Nat → Int32) × (Nat → Int32) × (Nat → Int32) × (Nat → Int32) × Int32 × Int32 × Int32 × (Nat → Int32) × (Nat → Int32)) (t : State) => va_P (dC, dI) vwCl [kx_2 q_t q_row q_joined q_from q_to q_size q_lossOf q_lessBy q_value q_number nodes here, kx_0 q_row q_cell len, kx_a q_cell cyI 160 f, kx_a q_from cyI 319 ff, kx_a q_to cyI 319 ft, kx_a q_size cyI 319 u.1, kx_a q_lossOf cyI 319 u.2.1, kx_a q_lessBy cyI 319 u.2.2.1, kx_a q_value cyI 1914 u.2.2.2.1, kx_a q_number cyI 1914 u.2.2.2.2.1, kx_3 q_joined j_v j_n u.2.2.2.2.2.1 u.2.2.2.2.2.2.1 u.2.2.2.2.2.2.2.1, kx_a j_v cyI 12 u.2.2.2.2.2.2.2.2.1, kx_a j_n cyI 12 u.2.2.2.2.2.2.2.2.2] t.heap ∧ va_K (dC, dI) vwCl [(cyI, .int)] t ∧ va_D (va_A [kx_2 q_t q_row q_joined q_from q_to q_size q_lossOf q_lessBy q_value q_number nodes here, kx_0 q_row q_cell len, kx_a q_cell cyI 160 f, kx_a q_from cyI 319 ff, kx_a q_to cyI 319 ft, kx_a q_size cyI 319 fs, kx_a q_lossOf cyI 319 fo, kx_a q_lessBy cyI 319 fe, kx_a q_value cyI 1914 uv, kx_a q_number cyI 1914 un, kx_3 q_joined j_v j_n js jl je, kx_a j_v cyI 12 jv, kx_a j_n cyI 12 jn] sz) [kx_2 q_t q_row q_joined q_from q_to q_size q_lossOf q_lessBy q_value q_number nodes here, kx_0 q_row q_cell len, kx_a q_cell cyI 160 f, kx_a q_from cyI 319 ff, kx_a q_to cyI 319 ft, kx_a q_size cyI 319 u.1, kx_a q_lossOf cyI 319 u.2.1, kx_a q_lessBy cyI 319 u.2.2.1, kx_a q_value cyI 1914 u.2.2.2.1, kx_a q_number cyI 1914 u.2.2.2.2.1, kx_3 q_joined j_v j_n u.2.2.2.2.2.1 u.2.2.2.2.2.2.1 u.2.2.2.2.2.2.2.1, kx_a j_v cyI 12 u.2.2.2.2.2.2.2.2.1, kx_a j_n cyI 12 u.2.2.2.2.2.2.2.2.2]) (va_A [kx_2 q_t q_row q_joined q_from q_to q_size q_lossOf q_lessBy q_value q_number nodes here, kx_0 q_row q_cell len, kx_a q_cell cyI 160 f, kx_a q_from cyI 319 ff, kx_a q_to cyI 319 ft, kx_a q_size cyI 319 fs, kx_a q_lossOf cyI 319 fo, kx_a q_lessBy cyI 319 fe, kx_a q_value cyI 1914 uv, kx_a q_number cyI 1914 un, kx_3 q_joined j_v j_n js jl je, kx_a j_v cyI 12 jv, kx_a j_n cyI 12 jn] sz)) 0 0 (va_A [kx_2 q_t q_row q_joined q_from q_to q_size q_lossOf q_lessBy q_value q_number nodes here, kx_0 q_row q_cell len, kx_a q_cell cyI 160 f, kx_a q_from cyI 319 ff, kx_a q_to cyI 319 ft, kx_a q_size cyI 319 fs, kx_a q_lossOf cyI 319 fo, kx_a q_lessBy cyI 319 fe, kx_a q_value cyI 1914 uv, kx_a q_number cyI 1914 un, kx_3 q_joined j_v j_n js jl je, kx_a j_v cyI 12 jv, kx_a j_n cyI 12 jn] sz) := by
  refine Met.ofW (cc := cX2_renew) (maxL := 5) (ret := (some .int)) (by decide) rfl ?_
  intro p e s m args below meth c s₁ B hml hv
  obtain ⟨rfl, hsz, hP, hK, hD0⟩ := hv
  have hx := B.exec
  have hb := B.bytes
  have hr := B.returns
  have hts := atoms_spec (ws := wsX2_renew) B.pre
  have hown : s.vm.findClass RX2 = some m.cls := findClass_of_methodNamed B.named
  have hlocks := B.notSynchronized
  subst hsz
  have hD := hD0.self (sz := s.heap.size)
  generalize hAe : va_A [kx_2 q_t q_row q_joined q_from q_to q_size q_lossOf q_lessBy q_value q_number nodes here, kx_0 q_row q_cell len, kx_a q_cell cyI 160 f, kx_a q_from cyI 319 ff, kx_a q_to cyI 319 ft, kx_a q_size cyI 319 fs, kx_a q_lossOf cyI 319 fo, kx_a q_lessBy cyI 319 fe, kx_a q_value cyI 1914 uv, kx_a q_number cyI 1914 un, kx_3 q_joined j_v j_n js jl je, kx_a j_v cyI 12 jv, kx_a j_n cyI 12 jn] s.heap.size = A at hD ⊢
  have hA : ∀ q : Nat, s.heap.size ≤ q → A q := fun q h => by rw [← hAe]; exact Or.inr h
  have hS : va_S A s.heap s.heap [] := va_S.rf
  have hP : va_P (dC, dI) vwCl [kx_2 q_t q_row q_joined q_from q_to q_size q_lossOf q_lessBy q_value q_number nodes here, kx_0 q_row q_cell len, kx_a q_cell cyI 160 f, kx_a q_from cyI 319 ff, kx_a q_to cyI 319 ft, kx_a q_size cyI 319 fs, kx_a q_lossOf cyI 319 fo, kx_a q_lessBy cyI 319 fe, kx_a q_value cyI 1914 uv, kx_a q_number cyI 1914 un, kx_3 q_joined j_v j_n js jl je, kx_a j_v cyI 12 jv, kx_a j_n cyI 12 jn] s.heap := hP
  have hl := lv_entry ([.ref q_t, .int p0, .int p1]) (n := 5) (Nat.le_of_ble_eq_true rfl)
  rw [lg_entry_eq]
  generalize (lg_sl ([.ref q_t, .int p0, .int p1]) ++ List.replicate (5 - (lg_sl ([.ref q_t, .int p0, .int p1])).length) Slot.unset).toArray = ls at hl ⊢
  have hl : lv_has ls 5 [(0, .ref q_t), (1, .int p0), (2, .int p1)] := hl
  have hf_50 := hts (.fieldLink RX2 50 "MajorityIndex$Tree" "nodes" "I") (List.mem_of_getElem? (i := 1) rfl)
  have hi_2 : ∀ w ∈ u_ws RX2 TX2 11, w ∈ wsX2_renew := fun w h => List.mem_cons_of_mem _ (List.mem_append_left _ (List.mem_append_left _ (List.mem_append_right _ h)))
  have hf_18 := hts (.fieldLink RX2 18 "MajorityIndex$Tree" "from" "[I") (List.mem_of_getElem? (i := 2) rfl)
  have hf_22 := hts (.fieldLink RX2 22 "MajorityIndex$Tree" "to" "[I") (List.mem_of_getElem? (i := 3) rfl)
  refine lv_iconst (v := 0) hx hb dX2_renew_0 (by decide) ?_
  refine lv_istore_n (lv' := [(3, .int 0), (0, .ref q_t), (1, .int p0), (2, .int p1)]) hx hb dX2_renew_1 rfl hl (by decide) rfl (fun ls hl => ?_)
  refine lv_aload_n hx hb dX2_renew_2 rfl (lv_at hl 1 rfl) ?_
  refine va_get (D := (dC, dI)) (ci := 2) (v := .int nodes) (C := RX2) (T := TX2) (N := 11) hx hb hts hi_2 hown hK hP 0 rfl rfl 9 (by decide) hf_50 (fun _ h9 => h9) rfl dX2_renew_3 ?_
  refine lv_iconst (v := 1) hx hb dX2_renew_6 (by decide) ?_
  refine lv_isub hx hb dX2_renew_7 ?_
  refine lv_topi (fun y_1 ey_1 => ?_)
  have i_1 : y_1.toInt = nodes.toInt - 1 := ki_sub ey_1 rfl rfl (by omega) (by omega)
  refine lv_istore (lv' := [(4, .int y_1), (3, .int 0), (0, .ref q_t), (1, .int p0), (2, .int p1)]) hx hb dX2_renew_8 hl (by decide) rfl (fun ls hl => ?_)
  have LP1 : ∀ (n : Nat) (oth : Int32) (i : Int32) (ks : Nat → Int32) (ko : Nat → Int32) (ke : Nat → Int32) (kv : Nat → Int32) (kn : Nat → Int32) (kj : Int32) (kl : Int32) (kb : Int32) (kjv : Nat → Int32) (kjn : Nat → Int32), (i.toInt < nodes.toInt) → (-1 ≤ i.toInt) → (sixes ks) → (∀ k : Nat, (k : Int) < nodes.toInt → ¬ mj_hit ff ft p0.toInt p1.toInt k → mj_e1 fs fo fe uv un ks ko ke kv kn k) → (mj_ri here.toNatClampNeg f ff ft ks ko ke kv kn p0.toInt p1.toInt nodes.toInt (i.toInt + 1).toNat) → (i.toInt + 1).toNat < n → ∀ (H : Heap) (locs : List Loc), va_P (dC, dI) vwCl [kx_2 q_t q_row q_joined q_from q_to q_size q_lossOf q_lessBy q_value q_number nodes here, kx_0 q_row q_cell len, kx_a q_cell cyI 160 f, kx_a q_from cyI 319 ff, kx_a q_to cyI 319 ft, kx_a q_size cyI 319 ks, kx_a q_lossOf cyI 319 ko, kx_a q_lessBy cyI 319 ke, kx_a q_value cyI 1914 kv, kx_a q_number cyI 1914 kn, kx_3 q_joined j_v j_n kj kl kb, kx_a j_v cyI 12 kjv, kx_a j_n cyI 12 kjn] H → va_D A [kx_2 q_t q_row q_joined q_from q_to q_size q_lossOf q_lessBy q_value q_number nodes here, kx_0 q_row q_cell len, kx_a q_cell cyI 160 f, kx_a q_from cyI 319 ff, kx_a q_to cyI 319 ft, kx_a q_size cyI 319 ks, kx_a q_lossOf cyI 319 ko, kx_a q_lessBy cyI 319 ke, kx_a q_value cyI 1914 kv, kx_a q_number cyI 1914 kn, kx_3 q_joined j_v j_n kj kl kb, kx_a j_v cyI 12 kjv, kx_a j_n cyI 12 kjn] → va_S A s.heap H locs → ∀ (ls : Array Slot), lv_has ls 5 [(4, .int i), (3, .int oth), (0, .ref q_t), (1, .int p0), (2, .int p1)] → W p l e (headSpec wsX2_renew ({ frames := 4, cells := 0, slots := 0, locals := 180 })).room s m ([.ref q_t, .int p0, .int p1] : List Value).toArray below meth c H locs 0 0 (MQ below (va_Qi (fun (r : Int32) (u : (Nat → Int32) × (Nat → Int32) × (Nat → Int32) × (Nat → Int32) × (Nat → Int32) × Int32 × Int32 × Int32 × (Nat → Int32) × (Nat → Int32)) => sixes u.1 ∧ (∀ k : Nat, (k : Int) < nodes.toInt → ¬ mj_hit ff ft p0.toInt p1.toInt k → mj_e1 fs fo fe uv un u.1 u.2.1 u.2.2.1 u.2.2.2.1 u.2.2.2.2.1 k) ∧ mj_ri here.toNatClampNeg f ff ft u.1 u.2.1 u.2.2.1 u.2.2.2.1 u.2.2.2.2.1 p0.toInt p1.toInt nodes.toInt 0) (fun (u : (Nat → Int32) × (Nat → Int32) × (Nat → Int32) × (Nat → Int32) × (Nat → Int32) × Int32 × Int32 × Int32 × (Nat → Int32) × (Nat → Int32)) (t : State) => va_P (dC, dI) vwCl [kx_2 q_t q_row q_joined q_from q_to q_size q_lossOf q_lessBy q_value q_number nodes here, kx_0 q_row q_cell len, kx_a q_cell cyI 160 f, kx_a q_from cyI 319 ff, kx_a q_to cyI 319 ft, kx_a q_size cyI 319 u.1, kx_a q_lossOf cyI 319 u.2.1, kx_a q_lessBy cyI 319 u.2.2.1, kx_a q_value cyI 1914 u.2.2.2.1, kx_a q_number cyI 1914 u.2.2.2.2.1, kx_3 q_joined j_v j_n u.2.2.2.2.2.1 u.2.2.2.2.2.2.1 u.2.2.2.2.2.2.2.1, kx_a j_v cyI 12 u.2.2.2.2.2.2.2.2.1, kx_a j_n cyI 12 u.2.2.2.2.2.2.2.2.2] t.heap ∧ va_K (dC, dI) vwCl [(cyI, .int)] t ∧ va_D A [kx_2 q_t q_row q_joined q_from q_to q_size q_lossOf q_lessBy q_value q_number nodes here, kx_0 q_row q_cell len, kx_a q_cell cyI 160 f, kx_a q_from cyI 319 ff, kx_a q_to cyI 319 ft, kx_a q_size cyI 319 u.1, kx_a q_lossOf cyI 319 u.2.1, kx_a q_lessBy cyI 319 u.2.2.1, kx_a q_value cyI 1914 u.2.2.2.1, kx_a q_number cyI 1914 u.2.2.2.2.1, kx_3 q_joined j_v j_n u.2.2.2.2.2.1 u.2.2.2.2.2.2.1 u.2.2.2.2.2.2.2.1, kx_a j_v cyI 12 u.2.2.2.2.2.2.2.2.1, kx_a j_n cyI 12 u.2.2.2.2.2.2.2.2.2]) A) ([.ref q_t, .int p0, .int p1] : List Value).toArray s 0 0 A) (F0 m 10 ls []) := by
    intro n
    induction n with
    | zero => intro oth i ks ko ke kv kn kj kl kb kjv kjn LP1_h0 LP1_h1 LP1_h2 LP1_h3 LP1_h4 hn; exact absurd hn (Nat.not_lt_zero _)
    | succ n ih1 =>
      intro oth i ks ko ke kv kn kj kl kb kjv kjn LP1_h0 LP1_h1 LP1_h2 LP1_h3 LP1_h4 hn1 H locs hP hD hS ls hl
      refine lv_iload hx hb dX2_renew_10 (lv_at hl 0 rfl) ?_
      refine lv_if_lt (tgt := 67) hx hb dX2_renew_12 (by decide) (fun c_2 => ?_) (fun c_2 => ?_)
      · have i_2 : i.toInt < 0 := kc_lt c_2
        refine lv_iload_n hx hb dX2_renew_67 rfl (lv_at hl 1 rfl) ?_
        have hP9 := hP
        have hD9 := hD
        have hK9 := hK
        exact W.iret (v := oth) hx hb hr (fun t ht hW => ⟨⟨oth, (ks, ko, ke, kv, kn, kj, kl, kb, kjv, kjn), rfl, ⟨LP1_h2, LP1_h3, (fun k h1 h2 h3 h4 => LP1_h4 k (by (try dsimp only); omega) h2 h3 h4)⟩, by rw [ht]; exact hP9, va_K.moved hW.alike hK9, hD9⟩, hS.F ht⟩) hS.2.2 dX2_renew_68
      · have i_2 : 0 ≤ i.toInt := kc_nlt c_2
        have n_i := ki_nat i rfl (by omega)
        have n_h := ki_nat here rfl (by omega)
        have hti := t0 i.toNatClampNeg (by omega)
        unfold okAt at hti
        refine lv_aload_n hx hb dX2_renew_15 rfl (lv_at hl 2 rfl) ?_
        refine va_get (D := (dC, dI)) (ci := 2) (v := .ref q_from) (C := RX2) (T := TX2) (N := 11) hx hb hts hi_2 hown hK hP 0 rfl rfl 2 (by decide) hf_18 (fun _ h9 => h9) rfl dX2_renew_16 ?_
        refine lv_iload hx hb dX2_renew_19 (lv_at hl 0 rfl) ?_
        refine va_iald hx hb hK hP 3 0 rfl rfl (ki_in (by omega) (by omega)) dX2_renew_21 ?_
        refine lv_topi (fun y_3 ey_3 => ?_)
        have j_3 : y_3.toInt = (ff i.toNatClampNeg).toInt := congrArg Int32.toInt ey_3
        refine lv_iload_n hx hb dX2_renew_22 rfl (lv_at hl 4 rfl) ?_
        refine lv_icmp_ge (tgt := 61) hx hb dX2_renew_23 (by decide) (fun c_4 => ?_) (fun c_4 => ?_)
        · have i_4 : p1.toInt ≤ y_3.toInt := kc_le c_4
          obtain ⟨x_5, ex_5⟩ : ∃ y : Int32, y = i + (-1) := ⟨_, rfl⟩
          have i_5 : x_5.toInt = i.toInt + (-1) := ki_add ex_5 rfl rfl (by omega) (by omega)
          refine lv_iinc (v := x_5) (lv' := [(4, .int x_5), (3, .int oth), (0, .ref q_t), (1, .int p0), (2, .int p1)]) hx hb dX2_renew_61 hl (k := 0) rfl (by rw [ex_5]; rfl) (by decide) rfl (fun ls hl => ?_)
          refine lv_goto (tgt := 10) hx hb dX2_renew_64 (by decide) ?_
          exact ih1 oth x_5 ks ko ke kv kn kj kl kb kjv kjn (by omega) (by omega) LP1_h2 LP1_h3 (by rw [show (x_5.toInt + 1).toNat = i.toNatClampNeg by omega]; exact fun k h1 h2 h3 h4 => if h9 : (i.toInt + 1).toNat ≤ k then LP1_h4 k h9 h2 h3 h4 else (by exfalso; have e9 : k = i.toNatClampNeg := (by omega); rw [e9] at h3 h4; omega)) (by omega) _ _ hP hD hS ls (lv_sub hl [0, 1, 2, 3, 4] rfl)
        · have i_4 : y_3.toInt < p1.toInt := kc_nle c_4
          refine lv_iload_n hx hb dX2_renew_26 rfl (lv_at hl 3 rfl) ?_
          refine lv_aload_n hx hb dX2_renew_27 rfl (lv_at hl 2 rfl) ?_
          refine va_get (D := (dC, dI)) (ci := 2) (v := .ref q_to) (C := RX2) (T := TX2) (N := 11) hx hb hts hi_2 hown hK hP 0 rfl rfl 3 (by decide) hf_22 (fun _ h9 => h9) rfl dX2_renew_28 ?_
          refine lv_iload hx hb dX2_renew_31 (lv_at hl 0 rfl) ?_
          refine va_iald hx hb hK hP 4 0 rfl rfl (ki_in (by omega) (by omega)) dX2_renew_33 ?_
          refine lv_topi (fun y_6 ey_6 => ?_)
          have j_6 : y_6.toInt = (ft i.toNatClampNeg).toInt := congrArg Int32.toInt ey_6
          refine lv_icmp_ge (tgt := 61) hx hb dX2_renew_34 (by decide) (fun c_7 => ?_) (fun c_7 => ?_)
          · have i_7 : y_6.toInt ≤ p0.toInt := kc_le c_7
            obtain ⟨x_8, ex_8⟩ : ∃ y : Int32, y = i + (-1) := ⟨_, rfl⟩
            have i_8 : x_8.toInt = i.toInt + (-1) := ki_add ex_8 rfl rfl (by omega) (by omega)
            refine lv_iinc (v := x_8) (lv' := [(4, .int x_8), (3, .int oth), (0, .ref q_t), (1, .int p0), (2, .int p1)]) hx hb dX2_renew_61 hl (k := 0) rfl (by rw [ex_8]; rfl) (by decide) rfl (fun ls hl => ?_)
            refine lv_goto (tgt := 10) hx hb dX2_renew_64 (by decide) ?_
            exact ih1 oth x_8 ks ko ke kv kn kj kl kb kjv kjn (by omega) (by omega) LP1_h2 LP1_h3 (by rw [show (x_8.toInt + 1).toNat = i.toNatClampNeg by omega]; exact fun k h1 h2 h3 h4 => if h9 : (i.toInt + 1).toNat ≤ k then LP1_h4 k h9 h2 h3 h4 else (by exfalso; have e9 : k = i.toNatClampNeg := (by omega); rw [e9] at h3 h4; omega)) (by omega) _ _ hP hD hS ls (lv_sub hl [0, 1, 2, 3, 4] rfl)
          · have i_7 : p0.toInt < y_6.toInt := kc_nle c_7
            by_cases h_in : p0.toInt ≤ (ff i.toNatClampNeg).toInt ∧ (ft i.toNatClampNeg).toInt ≤ p1.toInt
            · have hch := mj_ch_in (K := here.toNatClampNeg) (f := f) (fs := ks) (fo := ko) (fe := ke) (uv := kv) (un := kn) t0 hcr (k := i.toNatClampNeg) (by omega) h_in.1 h_in.2 (fun j h1 h2 h3 h4 => LP1_h4 j (by omega) h2 h3 h4)
              refine lv_aload_n hx hb dX2_renew_37 rfl (lv_at hl 2 rfl) ?_
              refine lv_iload hx hb dX2_renew_38 (lv_at hl 0 rfl) ?_
              have hPc := hP.sub (ws' := [kx_2 q_t q_row q_joined q_from q_to q_size q_lossOf q_lessBy q_value q_number nodes here, kx_0 q_row q_cell len, kx_a q_cell cyI 160 f, kx_a q_from cyI 319 ff, kx_a q_to cyI 319 ft, kx_a q_size cyI 319 ks, kx_a q_lossOf cyI 319 ko, kx_a q_value cyI 1914 kv, kx_a q_number cyI 1914 kn, kx_3 q_joined j_v j_n kj kl kb, kx_a j_v cyI 12 kjv, kx_a j_n cyI 12 kjn]) [0, 1, 2, 3, 4, 5, 6, 8, 9, 10, 11, 12] rfl
              have hKc := hK
              have hDc := hD.sub (ws' := [kx_2 q_t q_row q_joined q_from q_to q_size q_lossOf q_lessBy q_value q_number nodes here, kx_0 q_row q_cell len, kx_a q_cell cyI 160 f, kx_a q_from cyI 319 ff, kx_a q_to cyI 319 ft, kx_a q_size cyI 319 ks, kx_a q_lossOf cyI 319 ko, kx_a q_value cyI 1914 kv, kx_a q_number cyI 1914 kn, kx_3 q_joined j_v j_n kj kl kb, kx_a j_v cyI 12 kjv, kx_a j_n cyI 12 kjn]) [0, 1, 2, 3, 4, 5, 6, 8, 9, 10, 11, 12] (by decide) rfl
              have hFc := va_free (wc := [kx_2 q_t q_row q_joined q_from q_to q_size q_lossOf q_lessBy q_value q_number nodes here, kx_0 q_row q_cell len, kx_a q_cell cyI 160 f, kx_a q_from cyI 319 ff, kx_a q_to cyI 319 ft, kx_a q_size cyI 319 ks, kx_a q_lossOf cyI 319 ko, kx_a q_value cyI 1914 kv, kx_a q_number cyI 1914 kn, kx_3 q_joined j_v j_n kj kl kb, kx_a j_v cyI 12 kjv, kx_a j_n cyI 12 kjn]) hD hS hA [0, 1, 2, 3, 4, 5, 6, 8, 9, 10, 11, 12] rfl
              refine va_callv (va_runV (As := [.int i]) (rest := []) ⟨hx, hb, hml, hown, hts⟩ (c_X2_putTogether_x l dC dI q_t q_row q_joined q_from q_to q_size q_lossOf q_lessBy q_value q_number nodes here q_cell cyI len f ff ft ks ko kv kn ke j_v j_n kj kl kb kjv kjn i H.size i_2 LP1_h0 c0 c1 t0 k0 k1 hch) (cwV 1 hts gX2_renew_X2_putTogether rfl rfl rfl (by decide +kernel) ⟨Nat.le_of_ble_eq_true rfl, Nat.le_of_ble_eq_true rfl⟩) ⟨fun a U g mk q => by obtain ⟨q0, q1, qP, qK, qD⟩ := q; exact ⟨q0, q1, qP, va_K.moved (u := U) (U := U.calling g mk a) (Vm.Alike.refl U.vm) qK, qD⟩, va_recv hKc hPc (ci := 2) (q0 := 0) rfl rfl, fun U hU hW => ⟨rfl, by rw [hU], by rw [hU]; exact hPc, va_K.moved hW.alike hKc, hDc.weaken (fun _ _ _ _ => trivial)⟩⟩ rfl rfl hl.1 rfl (lv_room (Nat.le_of_ble_eq_true rfl)) dX2_renew_40 ⟨Nat.le_of_ble_eq_true rfl, Nat.le_of_ble_eq_true rfl⟩) hS (fun q _ h => hFc q h) hFc (fun u t H1 locs ht hvm w_9 hB hz1 hk1 hS => ?_)
              obtain ⟨o_10, o_11, o_12, o_13, o_14, o_15⟩ := u
              dsimp only at w_9 hB
              obtain ⟨hP1, hK1, hD1⟩ := hB
              rw [ht] at hP1
              have hK1 := va_K.moved hvm.symm hK1
              obtain ⟨hP, hD⟩ := va_join (wr := [kx_a q_lessBy cyI 319 ke]) (w1 := [kx_2 q_t q_row q_joined q_from q_to q_size q_lossOf q_lessBy q_value q_number nodes here, kx_0 q_row q_cell len, kx_a q_cell cyI 160 f, kx_a q_from cyI 319 ff, kx_a q_to cyI 319 ft, kx_a q_size cyI 319 ks, kx_a q_lossOf cyI 319 ko, kx_a q_value cyI 1914 kv, kx_a q_number cyI 1914 kn, kx_3 q_joined j_v j_n o_10 o_11 o_12, kx_a j_v cyI 12 o_13, kx_a j_n cyI 12 o_14]) hP hD [0, 1, 2, 3, 4, 5, 6, 8, 9, 10, 11, 12] [7] rfl rfl (by decide) (by decide) hk1 hFc hP1 hD1
              clear hP1 hD1 hK1 hk1 hz1 hFc hDc hPc hKc
              generalize H1 = H at hP hS ⊢
              have hP : va_P (dC, dI) vwCl [kx_a q_lessBy cyI 319 ke, kx_2 q_t q_row q_joined q_from q_to q_size q_lossOf q_lessBy q_value q_number nodes here, kx_0 q_row q_cell len, kx_a q_cell cyI 160 f, kx_a q_from cyI 319 ff, kx_a q_to cyI 319 ft, kx_a q_size cyI 319 ks, kx_a q_lossOf cyI 319 ko, kx_a q_value cyI 1914 kv, kx_a q_number cyI 1914 kn, kx_3 q_joined j_v j_n o_10 o_11 o_12, kx_a j_v cyI 12 o_13, kx_a j_n cyI 12 o_14] H := hP
              have hD : va_D A [kx_a q_lessBy cyI 319 ke, kx_2 q_t q_row q_joined q_from q_to q_size q_lossOf q_lessBy q_value q_number nodes here, kx_0 q_row q_cell len, kx_a q_cell cyI 160 f, kx_a q_from cyI 319 ff, kx_a q_to cyI 319 ft, kx_a q_size cyI 319 ks, kx_a q_lossOf cyI 319 ko, kx_a q_value cyI 1914 kv, kx_a q_number cyI 1914 kn, kx_3 q_joined j_v j_n o_10 o_11 o_12, kx_a j_v cyI 12 o_13, kx_a j_n cyI 12 o_14] := hD
              have w_9 : mj_jn here.toNatClampNeg f ff ft ks ko ke kv kn i.toNatClampNeg o_15 o_11 o_12 ∧ mj_vs o_13 o_14 0 o_10.toNatClampNeg o_15 ∧ mj_srt o_13 o_14 0 o_10.toNatClampNeg ∧ 0 ≤ o_10.toInt ∧ o_10.toInt ≤ here.toInt := w_9
              refine lv_aload_n hx hb dX2_renew_43 rfl (lv_at hl 2 rfl) ?_
              refine lv_iload hx hb dX2_renew_44 (lv_at hl 0 rfl) ?_
              have hPc := hP.sub (ws' := [kx_2 q_t q_row q_joined q_from q_to q_size q_lossOf q_lessBy q_value q_number nodes here, kx_a q_size cyI 319 ks, kx_a q_lossOf cyI 319 ko, kx_a q_value cyI 1914 kv, kx_a q_number cyI 1914 kn, kx_3 q_joined j_v j_n o_10 o_11 o_12, kx_a j_v cyI 12 o_13, kx_a j_n cyI 12 o_14]) [1, 6, 7, 8, 9, 10, 11, 12] rfl
              have hKc := hK
              refine vp_callSi (W.runV (As := [.int i]) (rest := []) ⟨hx, hb, hml, hown, hts⟩ (c_X2_isJoined_x l dC dI q_t q_row q_joined q_from q_to q_size q_lossOf q_lessBy q_value q_number nodes here cyI ks ko kv kn j_v j_n o_10 o_11 o_12 o_13 o_14 i i_2 (by omega) w_9.2.2.2.1 (by omega)) (cwV 1 hts gX2_renew_X2_isJoined rfl rfl rfl (by decide +kernel) ⟨Nat.le_of_ble_eq_true rfl, Nat.le_of_ble_eq_true rfl⟩) ⟨fun a U g mk q => by obtain ⟨q0, qP, qK⟩ := q; exact ⟨q0, qP, va_K.moved (u := U) (U := U.calling g mk a) (Vm.Alike.refl U.vm) qK⟩, va_recv hKc hPc (ci := 2) (q0 := 0) rfl rfl, fun U hU hW => ⟨rfl, by rw [hU]; exact hPc, va_K.moved hW.alike hKc⟩⟩ rfl rfl hl.1 rfl (lv_room (Nat.le_of_ble_eq_true rfl)) dX2_renew_46 ⟨Nat.le_of_ble_eq_true rfl, Nat.le_of_ble_eq_true rfl⟩) (fun r_16 w_16 => ?_)
              rcases w_16 with ⟨rfl, w_16⟩ | ⟨rfl, w_16⟩
              · have w_16 : mj_sj ks ko kv kn i.toNatClampNeg o_10 o_11 o_13 o_14 := w_16
                refine lv_if_ne (tgt := 55) hx hb dX2_renew_49 (by decide) (fun c_17 => ?_) (fun c_17 => ?_)
                · refine lv_aload_n hx hb dX2_renew_55 rfl (lv_at hl 2 rfl) ?_
                  refine lv_iload hx hb dX2_renew_56 (lv_at hl 0 rfl) ?_
                  have hPc := hP.sub (ws' := [kx_2 q_t q_row q_joined q_from q_to q_size q_lossOf q_lessBy q_value q_number nodes here, kx_a q_size cyI 319 ks, kx_a q_lossOf cyI 319 ko, kx_a q_lessBy cyI 319 ke, kx_a q_value cyI 1914 kv, kx_a q_number cyI 1914 kn, kx_3 q_joined j_v j_n o_10 o_11 o_12, kx_a j_v cyI 12 o_13, kx_a j_n cyI 12 o_14]) [1, 6, 7, 0, 8, 9, 10, 11, 12] rfl
                  have hKc := hK
                  have hDc := hD.sub (ws' := [kx_2 q_t q_row q_joined q_from q_to q_size q_lossOf q_lessBy q_value q_number nodes here, kx_a q_size cyI 319 ks, kx_a q_lossOf cyI 319 ko, kx_a q_lessBy cyI 319 ke, kx_a q_value cyI 1914 kv, kx_a q_number cyI 1914 kn, kx_3 q_joined j_v j_n o_10 o_11 o_12, kx_a j_v cyI 12 o_13, kx_a j_n cyI 12 o_14]) [1, 6, 7, 0, 8, 9, 10, 11, 12] (by decide) rfl
                  have hFc := va_free (wc := [kx_2 q_t q_row q_joined q_from q_to q_size q_lossOf q_lessBy q_value q_number nodes here, kx_a q_size cyI 319 ks, kx_a q_lossOf cyI 319 ko, kx_a q_lessBy cyI 319 ke, kx_a q_value cyI 1914 kv, kx_a q_number cyI 1914 kn, kx_3 q_joined j_v j_n o_10 o_11 o_12, kx_a j_v cyI 12 o_13, kx_a j_n cyI 12 o_14]) hD hS hA [1, 6, 7, 0, 8, 9, 10, 11, 12] rfl
                  refine va_callv (va_runV (As := [.int i]) (rest := []) ⟨hx, hb, hml, hown, hts⟩ (c_X2_keepJoined_x l dC dI q_t q_row q_joined q_from q_to q_size q_lossOf q_lessBy q_value q_number nodes here cyI ks ko kv kn ke j_v j_n o_10 o_11 o_12 o_13 o_14 i H.size i_2 (by omega) w_9.2.2.2.1 (by omega)) (cwV 1 hts gX2_renew_X2_keepJoined rfl rfl rfl (by decide +kernel) ⟨Nat.le_of_ble_eq_true rfl, Nat.le_of_ble_eq_true rfl⟩) ⟨fun a U g mk q => by obtain ⟨q0, q1, qP, qK, qD⟩ := q; exact ⟨q0, q1, qP, va_K.moved (u := U) (U := U.calling g mk a) (Vm.Alike.refl U.vm) qK, qD⟩, va_recv hKc hPc (ci := 2) (q0 := 0) rfl rfl, fun U hU hW => ⟨rfl, by rw [hU], by rw [hU]; exact hPc, va_K.moved hW.alike hKc, hDc.weaken (fun _ _ _ _ => trivial)⟩⟩ rfl rfl hl.1 rfl (lv_room (Nat.le_of_ble_eq_true rfl)) dX2_renew_58 ⟨Nat.le_of_ble_eq_true rfl, Nat.le_of_ble_eq_true rfl⟩) hS (fun q _ h => hFc q h) hFc (fun u t H1 locs ht hvm w_18 hB hz1 hk1 hS => ?_)
                  obtain ⟨o_19, o_20, o_21, o_22, o_23⟩ := u
                  dsimp only at w_18 hB
                  obtain ⟨hP1, hK1, hD1⟩ := hB
                  rw [ht] at hP1
                  have hK1 := va_K.moved hvm.symm hK1
                  obtain ⟨hP, hD⟩ := va_join (wr := [kx_0 q_row q_cell len, kx_a q_cell cyI 160 f, kx_a q_from cyI 319 ff, kx_a q_to cyI 319 ft]) (w1 := [kx_2 q_t q_row q_joined q_from q_to q_size q_lossOf q_lessBy q_value q_number nodes here, kx_a q_size cyI 319 o_19, kx_a q_lossOf cyI 319 o_20, kx_a q_lessBy cyI 319 o_21, kx_a q_value cyI 1914 o_22, kx_a q_number cyI 1914 o_23, kx_3 q_joined j_v j_n o_10 o_11 o_12, kx_a j_v cyI 12 o_13, kx_a j_n cyI 12 o_14]) hP hD [1, 6, 7, 0, 8, 9, 10, 11, 12] [2, 3, 4, 5] rfl rfl (by decide) (by decide) hk1 hFc hP1 hD1
                  clear hP1 hD1 hK1 hk1 hz1 hFc hDc hPc hKc
                  generalize H1 = H at hP hS ⊢
                  have hP : va_P (dC, dI) vwCl [kx_0 q_row q_cell len, kx_a q_cell cyI 160 f, kx_a q_from cyI 319 ff, kx_a q_to cyI 319 ft, kx_2 q_t q_row q_joined q_from q_to q_size q_lossOf q_lessBy q_value q_number nodes here, kx_a q_size cyI 319 o_19, kx_a q_lossOf cyI 319 o_20, kx_a q_lessBy cyI 319 o_21, kx_a q_value cyI 1914 o_22, kx_a q_number cyI 1914 o_23, kx_3 q_joined j_v j_n o_10 o_11 o_12, kx_a j_v cyI 12 o_13, kx_a j_n cyI 12 o_14] H := hP
                  have hD : va_D A [kx_0 q_row q_cell len, kx_a q_cell cyI 160 f, kx_a q_from cyI 319 ff, kx_a q_to cyI 319 ft, kx_2 q_t q_row q_joined q_from q_to q_size q_lossOf q_lessBy q_value q_number nodes here, kx_a q_size cyI 319 o_19, kx_a q_lossOf cyI 319 o_20, kx_a q_lessBy cyI 319 o_21, kx_a q_value cyI 1914 o_22, kx_a q_number cyI 1914 o_23, kx_3 q_joined j_v j_n o_10 o_11 o_12, kx_a j_v cyI 12 o_13, kx_a j_n cyI 12 o_14] := hD
                  have w_18 : o_19 = upd ks i.toNatClampNeg o_10 ∧ o_20 = upd ko i.toNatClampNeg o_11 ∧ o_21 = upd ke i.toNatClampNeg o_12 ∧ mj_kp o_13 o_14 kv kn o_22 o_23 i.toNatClampNeg o_10.toNatClampNeg := w_18
                  obtain ⟨x_24, ex_24⟩ : ∃ y : Int32, y = i + (-1) := ⟨_, rfl⟩
                  have i_24 : x_24.toInt = i.toInt + (-1) := ki_add ex_24 rfl rfl (by omega) (by omega)
                  refine lv_iinc (v := x_24) (lv' := [(4, .int x_24), (3, .int oth), (0, .ref q_t), (1, .int p0), (2, .int p1)]) hx hb dX2_renew_61 hl (k := 0) rfl (by rw [ex_24]; rfl) (by decide) rfl (fun ls hl => ?_)
                  refine lv_goto (tgt := 10) hx hb dX2_renew_64 (by decide) ?_
                  have hP : va_P (dC, dI) vwCl [kx_2 q_t q_row q_joined q_from q_to q_size q_lossOf q_lessBy q_value q_number nodes here, kx_0 q_row q_cell len, kx_a q_cell cyI 160 f, kx_a q_from cyI 319 ff, kx_a q_to cyI 319 ft, kx_a q_size cyI 319 o_19, kx_a q_lossOf cyI 319 o_20, kx_a q_lessBy cyI 319 o_21, kx_a q_value cyI 1914 o_22, kx_a q_number cyI 1914 o_23, kx_3 q_joined j_v j_n o_10 o_11 o_12, kx_a j_v cyI 12 o_13, kx_a j_n cyI 12 o_14] _ := hP.sub [4, 0, 1, 2, 3, 5, 6, 7, 8, 9, 10, 11, 12] rfl
                  have hD : va_D A [kx_2 q_t q_row q_joined q_from q_to q_size q_lossOf q_lessBy q_value q_number nodes here, kx_0 q_row q_cell len, kx_a q_cell cyI 160 f, kx_a q_from cyI 319 ff, kx_a q_to cyI 319 ft, kx_a q_size cyI 319 o_19, kx_a q_lossOf cyI 319 o_20, kx_a q_lessBy cyI 319 o_21, kx_a q_value cyI 1914 o_22, kx_a q_number cyI 1914 o_23, kx_3 q_joined j_v j_n o_10 o_11 o_12, kx_a j_v cyI 12 o_13, kx_a j_n cyI 12 o_14] := hD.sub [4, 0, 1, 2, 3, 5, 6, 7, 8, 9, 10, 11, 12] (by decide) rfl
                  have h_o : ∀ j : Nat, ¬ j = i.toNatClampNeg → o_19 j = ks j ∧ o_20 j = ko j ∧ o_21 j = ke j := fun j hj => ⟨by rw [w_18.1, upd_ne hj], by rw [w_18.2.1, upd_ne hj], by rw [w_18.2.2.1, upd_ne hj]⟩
                  have h_w := w_18.2.2.2.2
                  have hit_i : mj_hit ff ft p0.toInt p1.toInt i.toNatClampNeg := by unfold mj_hit; omega
                  have okk := mj_jn_ok w_9.1 (by omega) (by omega) w_9.2.1 w_9.2.2.1 (by omega) (by omega) (by omega) w_18.1 w_18.2.1 w_18.2.2.1 w_18.2.2.2.1 w_18.2.2.2.2
                  exact ih1 oth x_24 o_19 o_20 o_21 o_22 o_23 o_10 o_11 o_12 o_13 o_14 (by omega) (by omega) (by rw [w_18.1]; exact sixes_upd LP1_h2 (by omega) (by omega)) (fun k h1 h2 => by have hne : ¬ k = i.toNatClampNeg := fun e => h2 (by rw [e]; exact hit_i); obtain ⟨x1, x2, x3, x4⟩ := LP1_h3 k h1 h2; obtain ⟨y1, y2, y3⟩ := h_o k hne; exact ⟨y1.trans x1, y2.trans x2, y3.trans x3, fun q z1 z2 => by have a := h_w q (by omega); have b := x4 q z1 z2; exact ⟨a.1.trans b.1, a.2.trans b.2⟩⟩) (by rw [show (x_24.toInt + 1).toNat = i.toNatClampNeg by omega]; exact mj_ri_low LP1_h4 (by omega) h_o h_w (fun _ _ => okk)) (by omega) _ _ hP hD hS ls (lv_sub hl [0, 1, 2, 3, 4] rfl)
                · exact absurd c_17 (by decide)
              · have w_16 : ¬ mj_sj ks ko kv kn i.toNatClampNeg o_10 o_11 o_13 o_14 := w_16
                refine lv_if_ne (tgt := 55) hx hb dX2_renew_49 (by decide) (fun c_25 => ?_) (fun c_25 => ?_)
                · exact absurd c_25 (by decide)
                · obtain ⟨x_26, ex_26⟩ : ∃ y : Int32, y = oth + 1 := ⟨_, rfl⟩
                  refine lv_iinc (v := x_26) (lv' := [(3, .int x_26), (4, .int i), (0, .ref q_t), (1, .int p0), (2, .int p1)]) hx hb dX2_renew_52 hl (k := 1) rfl (by rw [ex_26]; rfl) (by decide) rfl (fun ls hl => ?_)
                  refine lv_aload_n hx hb dX2_renew_55 rfl (lv_at hl 2 rfl) ?_
                  refine lv_iload hx hb dX2_renew_56 (lv_at hl 1 rfl) ?_
                  have hPc := hP.sub (ws' := [kx_2 q_t q_row q_joined q_from q_to q_size q_lossOf q_lessBy q_value q_number nodes here, kx_a q_size cyI 319 ks, kx_a q_lossOf cyI 319 ko, kx_a q_lessBy cyI 319 ke, kx_a q_value cyI 1914 kv, kx_a q_number cyI 1914 kn, kx_3 q_joined j_v j_n o_10 o_11 o_12, kx_a j_v cyI 12 o_13, kx_a j_n cyI 12 o_14]) [1, 6, 7, 0, 8, 9, 10, 11, 12] rfl
                  have hKc := hK
                  have hDc := hD.sub (ws' := [kx_2 q_t q_row q_joined q_from q_to q_size q_lossOf q_lessBy q_value q_number nodes here, kx_a q_size cyI 319 ks, kx_a q_lossOf cyI 319 ko, kx_a q_lessBy cyI 319 ke, kx_a q_value cyI 1914 kv, kx_a q_number cyI 1914 kn, kx_3 q_joined j_v j_n o_10 o_11 o_12, kx_a j_v cyI 12 o_13, kx_a j_n cyI 12 o_14]) [1, 6, 7, 0, 8, 9, 10, 11, 12] (by decide) rfl
                  have hFc := va_free (wc := [kx_2 q_t q_row q_joined q_from q_to q_size q_lossOf q_lessBy q_value q_number nodes here, kx_a q_size cyI 319 ks, kx_a q_lossOf cyI 319 ko, kx_a q_lessBy cyI 319 ke, kx_a q_value cyI 1914 kv, kx_a q_number cyI 1914 kn, kx_3 q_joined j_v j_n o_10 o_11 o_12, kx_a j_v cyI 12 o_13, kx_a j_n cyI 12 o_14]) hD hS hA [1, 6, 7, 0, 8, 9, 10, 11, 12] rfl
                  refine va_callv (va_runV (As := [.int i]) (rest := []) ⟨hx, hb, hml, hown, hts⟩ (c_X2_keepJoined_x l dC dI q_t q_row q_joined q_from q_to q_size q_lossOf q_lessBy q_value q_number nodes here cyI ks ko kv kn ke j_v j_n o_10 o_11 o_12 o_13 o_14 i H.size i_2 (by omega) w_9.2.2.2.1 (by omega)) (cwV 1 hts gX2_renew_X2_keepJoined rfl rfl rfl (by decide +kernel) ⟨Nat.le_of_ble_eq_true rfl, Nat.le_of_ble_eq_true rfl⟩) ⟨fun a U g mk q => by obtain ⟨q0, q1, qP, qK, qD⟩ := q; exact ⟨q0, q1, qP, va_K.moved (u := U) (U := U.calling g mk a) (Vm.Alike.refl U.vm) qK, qD⟩, va_recv hKc hPc (ci := 2) (q0 := 0) rfl rfl, fun U hU hW => ⟨rfl, by rw [hU], by rw [hU]; exact hPc, va_K.moved hW.alike hKc, hDc.weaken (fun _ _ _ _ => trivial)⟩⟩ rfl rfl hl.1 rfl (lv_room (Nat.le_of_ble_eq_true rfl)) dX2_renew_58 ⟨Nat.le_of_ble_eq_true rfl, Nat.le_of_ble_eq_true rfl⟩) hS (fun q _ h => hFc q h) hFc (fun u t H1 locs ht hvm w_27 hB hz1 hk1 hS => ?_)
                  obtain ⟨o_28, o_29, o_30, o_31, o_32⟩ := u
                  dsimp only at w_27 hB
                  obtain ⟨hP1, hK1, hD1⟩ := hB
                  rw [ht] at hP1
                  have hK1 := va_K.moved hvm.symm hK1
                  obtain ⟨hP, hD⟩ := va_join (wr := [kx_0 q_row q_cell len, kx_a q_cell cyI 160 f, kx_a q_from cyI 319 ff, kx_a q_to cyI 319 ft]) (w1 := [kx_2 q_t q_row q_joined q_from q_to q_size q_lossOf q_lessBy q_value q_number nodes here, kx_a q_size cyI 319 o_28, kx_a q_lossOf cyI 319 o_29, kx_a q_lessBy cyI 319 o_30, kx_a q_value cyI 1914 o_31, kx_a q_number cyI 1914 o_32, kx_3 q_joined j_v j_n o_10 o_11 o_12, kx_a j_v cyI 12 o_13, kx_a j_n cyI 12 o_14]) hP hD [1, 6, 7, 0, 8, 9, 10, 11, 12] [2, 3, 4, 5] rfl rfl (by decide) (by decide) hk1 hFc hP1 hD1
                  clear hP1 hD1 hK1 hk1 hz1 hFc hDc hPc hKc
                  generalize H1 = H at hP hS ⊢
                  have hP : va_P (dC, dI) vwCl [kx_0 q_row q_cell len, kx_a q_cell cyI 160 f, kx_a q_from cyI 319 ff, kx_a q_to cyI 319 ft, kx_2 q_t q_row q_joined q_from q_to q_size q_lossOf q_lessBy q_value q_number nodes here, kx_a q_size cyI 319 o_28, kx_a q_lossOf cyI 319 o_29, kx_a q_lessBy cyI 319 o_30, kx_a q_value cyI 1914 o_31, kx_a q_number cyI 1914 o_32, kx_3 q_joined j_v j_n o_10 o_11 o_12, kx_a j_v cyI 12 o_13, kx_a j_n cyI 12 o_14] H := hP
                  have hD : va_D A [kx_0 q_row q_cell len, kx_a q_cell cyI 160 f, kx_a q_from cyI 319 ff, kx_a q_to cyI 319 ft, kx_2 q_t q_row q_joined q_from q_to q_size q_lossOf q_lessBy q_value q_number nodes here, kx_a q_size cyI 319 o_28, kx_a q_lossOf cyI 319 o_29, kx_a q_lessBy cyI 319 o_30, kx_a q_value cyI 1914 o_31, kx_a q_number cyI 1914 o_32, kx_3 q_joined j_v j_n o_10 o_11 o_12, kx_a j_v cyI 12 o_13, kx_a j_n cyI 12 o_14] := hD
                  have w_27 : o_28 = upd ks i.toNatClampNeg o_10 ∧ o_29 = upd ko i.toNatClampNeg o_11 ∧ o_30 = upd ke i.toNatClampNeg o_12 ∧ mj_kp o_13 o_14 kv kn o_31 o_32 i.toNatClampNeg o_10.toNatClampNeg := w_27
                  obtain ⟨x_33, ex_33⟩ : ∃ y : Int32, y = i + (-1) := ⟨_, rfl⟩
                  have i_33 : x_33.toInt = i.toInt + (-1) := ki_add ex_33 rfl rfl (by omega) (by omega)
                  refine lv_iinc (v := x_33) (lv' := [(4, .int x_33), (3, .int x_26), (0, .ref q_t), (1, .int p0), (2, .int p1)]) hx hb dX2_renew_61 hl (k := 1) rfl (by rw [ex_33]; rfl) (by decide) rfl (fun ls hl => ?_)
                  refine lv_goto (tgt := 10) hx hb dX2_renew_64 (by decide) ?_
                  have hP : va_P (dC, dI) vwCl [kx_2 q_t q_row q_joined q_from q_to q_size q_lossOf q_lessBy q_value q_number nodes here, kx_0 q_row q_cell len, kx_a q_cell cyI 160 f, kx_a q_from cyI 319 ff, kx_a q_to cyI 319 ft, kx_a q_size cyI 319 o_28, kx_a q_lossOf cyI 319 o_29, kx_a q_lessBy cyI 319 o_30, kx_a q_value cyI 1914 o_31, kx_a q_number cyI 1914 o_32, kx_3 q_joined j_v j_n o_10 o_11 o_12, kx_a j_v cyI 12 o_13, kx_a j_n cyI 12 o_14] _ := hP.sub [4, 0, 1, 2, 3, 5, 6, 7, 8, 9, 10, 11, 12] rfl
                  have hD : va_D A [kx_2 q_t q_row q_joined q_from q_to q_size q_lossOf q_lessBy q_value q_number nodes here, kx_0 q_row q_cell len, kx_a q_cell cyI 160 f, kx_a q_from cyI 319 ff, kx_a q_to cyI 319 ft, kx_a q_size cyI 319 o_28, kx_a q_lossOf cyI 319 o_29, kx_a q_lessBy cyI 319 o_30, kx_a q_value cyI 1914 o_31, kx_a q_number cyI 1914 o_32, kx_3 q_joined j_v j_n o_10 o_11 o_12, kx_a j_v cyI 12 o_13, kx_a j_n cyI 12 o_14] := hD.sub [4, 0, 1, 2, 3, 5, 6, 7, 8, 9, 10, 11, 12] (by decide) rfl
                  have h_o : ∀ j : Nat, ¬ j = i.toNatClampNeg → o_28 j = ks j ∧ o_29 j = ko j ∧ o_30 j = ke j := fun j hj => ⟨by rw [w_27.1, upd_ne hj], by rw [w_27.2.1, upd_ne hj], by rw [w_27.2.2.1, upd_ne hj]⟩
                  have h_w := w_27.2.2.2.2
                  have hit_i : mj_hit ff ft p0.toInt p1.toInt i.toNatClampNeg := by unfold mj_hit; omega
                  have okk := mj_jn_ok w_9.1 (by omega) (by omega) w_9.2.1 w_9.2.2.1 (by omega) (by omega) (by omega) w_27.1 w_27.2.1 w_27.2.2.1 w_27.2.2.2.1 w_27.2.2.2.2
                  exact ih1 x_26 x_33 o_28 o_29 o_30 o_31 o_32 o_10 o_11 o_12 o_13 o_14 (by omega) (by omega) (by rw [w_27.1]; exact sixes_upd LP1_h2 (by omega) (by omega)) (fun k h1 h2 => by have hne : ¬ k = i.toNatClampNeg := fun e => h2 (by rw [e]; exact hit_i); obtain ⟨x1, x2, x3, x4⟩ := LP1_h3 k h1 h2; obtain ⟨y1, y2, y3⟩ := h_o k hne; exact ⟨y1.trans x1, y2.trans x2, y3.trans x3, fun q z1 z2 => by have a := h_w q (by omega); have b := x4 q z1 z2; exact ⟨a.1.trans b.1, a.2.trans b.2⟩⟩) (by rw [show (x_33.toInt + 1).toNat = i.toNatClampNeg by omega]; exact mj_ri_low LP1_h4 (by omega) h_o h_w (fun _ _ => okk)) (by omega) _ _ hP hD hS ls (lv_sub hl [0, 1, 2, 3, 4] rfl)
            · refine lv_aload_n hx hb dX2_renew_37 rfl (lv_at hl 2 rfl) ?_
              refine lv_iload hx hb dX2_renew_38 (lv_at hl 0 rfl) ?_
              have hPc := hP.sub (ws' := [kx_2 q_t q_row q_joined q_from q_to q_size q_lossOf q_lessBy q_value q_number nodes here, kx_0 q_row q_cell len, kx_a q_cell cyI 160 f, kx_a q_from cyI 319 ff, kx_a q_to cyI 319 ft, kx_a q_size cyI 319 ks, kx_a q_lossOf cyI 319 ko, kx_a q_value cyI 1914 kv, kx_a q_number cyI 1914 kn, kx_3 q_joined j_v j_n kj kl kb, kx_a j_v cyI 12 kjv, kx_a j_n cyI 12 kjn]) [0, 1, 2, 3, 4, 5, 6, 8, 9, 10, 11, 12] rfl
              have hKc := hK
              have hDc := hD.sub (ws' := [kx_2 q_t q_row q_joined q_from q_to q_size q_lossOf q_lessBy q_value q_number nodes here, kx_0 q_row q_cell len, kx_a q_cell cyI 160 f, kx_a q_from cyI 319 ff, kx_a q_to cyI 319 ft, kx_a q_size cyI 319 ks, kx_a q_lossOf cyI 319 ko, kx_a q_value cyI 1914 kv, kx_a q_number cyI 1914 kn, kx_3 q_joined j_v j_n kj kl kb, kx_a j_v cyI 12 kjv, kx_a j_n cyI 12 kjn]) [0, 1, 2, 3, 4, 5, 6, 8, 9, 10, 11, 12] (by decide) rfl
              have hFc := va_free (wc := [kx_2 q_t q_row q_joined q_from q_to q_size q_lossOf q_lessBy q_value q_number nodes here, kx_0 q_row q_cell len, kx_a q_cell cyI 160 f, kx_a q_from cyI 319 ff, kx_a q_to cyI 319 ft, kx_a q_size cyI 319 ks, kx_a q_lossOf cyI 319 ko, kx_a q_value cyI 1914 kv, kx_a q_number cyI 1914 kn, kx_3 q_joined j_v j_n kj kl kb, kx_a j_v cyI 12 kjv, kx_a j_n cyI 12 kjn]) hD hS hA [0, 1, 2, 3, 4, 5, 6, 8, 9, 10, 11, 12] rfl
              refine va_callv (va_runV (As := [.int i]) (rest := []) ⟨hx, hb, hml, hown, hts⟩ (c_X2_putTogether l dC dI q_t q_row q_joined q_from q_to q_size q_lossOf q_lessBy q_value q_number nodes here q_cell cyI len f ff ft ks ko kv kn j_v j_n kj kl kb kjv kjn i H.size i_2 LP1_h0 c0 c1 LP1_h2 t0) (cwV 1 hts gX2_renew_X2_putTogether rfl rfl rfl (by decide +kernel) ⟨Nat.le_of_ble_eq_true rfl, Nat.le_of_ble_eq_true rfl⟩) ⟨fun a U g mk q => by obtain ⟨q0, q1, qP, qK, qD⟩ := q; exact ⟨q0, q1, qP, va_K.moved (u := U) (U := U.calling g mk a) (Vm.Alike.refl U.vm) qK, qD⟩, va_recv hKc hPc (ci := 2) (q0 := 0) rfl rfl, fun U hU hW => ⟨rfl, by rw [hU], by rw [hU]; exact hPc, va_K.moved hW.alike hKc, hDc.weaken (fun _ _ _ _ => trivial)⟩⟩ rfl rfl hl.1 rfl (lv_room (Nat.le_of_ble_eq_true rfl)) dX2_renew_40 ⟨Nat.le_of_ble_eq_true rfl, Nat.le_of_ble_eq_true rfl⟩) hS (fun q _ h => hFc q h) hFc (fun u t H1 locs ht hvm w_34 hB hz1 hk1 hS => ?_)
              obtain ⟨o_35, o_36, o_37, o_38, o_39⟩ := u
              dsimp only at w_34 hB
              obtain ⟨hP1, hK1, hD1⟩ := hB
              rw [ht] at hP1
              have hK1 := va_K.moved hvm.symm hK1
              obtain ⟨hP, hD⟩ := va_join (wr := [kx_a q_lessBy cyI 319 ke]) (w1 := [kx_2 q_t q_row q_joined q_from q_to q_size q_lossOf q_lessBy q_value q_number nodes here, kx_0 q_row q_cell len, kx_a q_cell cyI 160 f, kx_a q_from cyI 319 ff, kx_a q_to cyI 319 ft, kx_a q_size cyI 319 ks, kx_a q_lossOf cyI 319 ko, kx_a q_value cyI 1914 kv, kx_a q_number cyI 1914 kn, kx_3 q_joined j_v j_n o_35 o_36 o_37, kx_a j_v cyI 12 o_38, kx_a j_n cyI 12 o_39]) hP hD [0, 1, 2, 3, 4, 5, 6, 8, 9, 10, 11, 12] [7] rfl rfl (by decide) (by decide) hk1 hFc hP1 hD1
              clear hP1 hD1 hK1 hk1 hz1 hFc hDc hPc hKc
              generalize H1 = H at hP hS ⊢
              have hP : va_P (dC, dI) vwCl [kx_a q_lessBy cyI 319 ke, kx_2 q_t q_row q_joined q_from q_to q_size q_lossOf q_lessBy q_value q_number nodes here, kx_0 q_row q_cell len, kx_a q_cell cyI 160 f, kx_a q_from cyI 319 ff, kx_a q_to cyI 319 ft, kx_a q_size cyI 319 ks, kx_a q_lossOf cyI 319 ko, kx_a q_value cyI 1914 kv, kx_a q_number cyI 1914 kn, kx_3 q_joined j_v j_n o_35 o_36 o_37, kx_a j_v cyI 12 o_38, kx_a j_n cyI 12 o_39] H := hP
              have hD : va_D A [kx_a q_lessBy cyI 319 ke, kx_2 q_t q_row q_joined q_from q_to q_size q_lossOf q_lessBy q_value q_number nodes here, kx_0 q_row q_cell len, kx_a q_cell cyI 160 f, kx_a q_from cyI 319 ff, kx_a q_to cyI 319 ft, kx_a q_size cyI 319 ks, kx_a q_lossOf cyI 319 ko, kx_a q_value cyI 1914 kv, kx_a q_number cyI 1914 kn, kx_3 q_joined j_v j_n o_35 o_36 o_37, kx_a j_v cyI 12 o_38, kx_a j_n cyI 12 o_39] := hD
              have w_34 : 0 ≤ o_35.toInt ∧ o_35.toInt ≤ 12 := w_34
              refine lv_aload_n hx hb dX2_renew_43 rfl (lv_at hl 2 rfl) ?_
              refine lv_iload hx hb dX2_renew_44 (lv_at hl 0 rfl) ?_
              have hPc := hP.sub (ws' := [kx_2 q_t q_row q_joined q_from q_to q_size q_lossOf q_lessBy q_value q_number nodes here, kx_a q_size cyI 319 ks, kx_a q_lossOf cyI 319 ko, kx_a q_value cyI 1914 kv, kx_a q_number cyI 1914 kn, kx_3 q_joined j_v j_n o_35 o_36 o_37, kx_a j_v cyI 12 o_38, kx_a j_n cyI 12 o_39]) [1, 6, 7, 8, 9, 10, 11, 12] rfl
              have hKc := hK
              refine vp_callSi (W.runV (As := [.int i]) (rest := []) ⟨hx, hb, hml, hown, hts⟩ (c_X2_isJoined l dC dI q_t q_row q_joined q_from q_to q_size q_lossOf q_lessBy q_value q_number nodes here cyI ks ko kv kn j_v j_n o_35 o_36 o_37 o_38 o_39 i i_2 (by omega) w_34.1 w_34.2) (cwV 1 hts gX2_renew_X2_isJoined rfl rfl rfl (by decide +kernel) ⟨Nat.le_of_ble_eq_true rfl, Nat.le_of_ble_eq_true rfl⟩) ⟨fun a U g mk q => by obtain ⟨q0, qP, qK⟩ := q; exact ⟨q0, qP, va_K.moved (u := U) (U := U.calling g mk a) (Vm.Alike.refl U.vm) qK⟩, va_recv hKc hPc (ci := 2) (q0 := 0) rfl rfl, fun U hU hW => ⟨rfl, by rw [hU]; exact hPc, va_K.moved hW.alike hKc⟩⟩ rfl rfl hl.1 rfl (lv_room (Nat.le_of_ble_eq_true rfl)) dX2_renew_46 ⟨Nat.le_of_ble_eq_true rfl, Nat.le_of_ble_eq_true rfl⟩) (fun r_40 w_40 => ?_)
              rcases w_40 with ⟨rfl, w_40⟩ | ⟨rfl, w_40⟩
              · have w_40 : (0 : Int) ≤ 1 := w_40
                refine lv_if_ne (tgt := 55) hx hb dX2_renew_49 (by decide) (fun c_41 => ?_) (fun c_41 => ?_)
                · refine lv_aload_n hx hb dX2_renew_55 rfl (lv_at hl 2 rfl) ?_
                  refine lv_iload hx hb dX2_renew_56 (lv_at hl 0 rfl) ?_
                  have hPc := hP.sub (ws' := [kx_2 q_t q_row q_joined q_from q_to q_size q_lossOf q_lessBy q_value q_number nodes here, kx_a q_size cyI 319 ks, kx_a q_lossOf cyI 319 ko, kx_a q_lessBy cyI 319 ke, kx_a q_value cyI 1914 kv, kx_a q_number cyI 1914 kn, kx_3 q_joined j_v j_n o_35 o_36 o_37, kx_a j_v cyI 12 o_38, kx_a j_n cyI 12 o_39]) [1, 6, 7, 0, 8, 9, 10, 11, 12] rfl
                  have hKc := hK
                  have hDc := hD.sub (ws' := [kx_2 q_t q_row q_joined q_from q_to q_size q_lossOf q_lessBy q_value q_number nodes here, kx_a q_size cyI 319 ks, kx_a q_lossOf cyI 319 ko, kx_a q_lessBy cyI 319 ke, kx_a q_value cyI 1914 kv, kx_a q_number cyI 1914 kn, kx_3 q_joined j_v j_n o_35 o_36 o_37, kx_a j_v cyI 12 o_38, kx_a j_n cyI 12 o_39]) [1, 6, 7, 0, 8, 9, 10, 11, 12] (by decide) rfl
                  have hFc := va_free (wc := [kx_2 q_t q_row q_joined q_from q_to q_size q_lossOf q_lessBy q_value q_number nodes here, kx_a q_size cyI 319 ks, kx_a q_lossOf cyI 319 ko, kx_a q_lessBy cyI 319 ke, kx_a q_value cyI 1914 kv, kx_a q_number cyI 1914 kn, kx_3 q_joined j_v j_n o_35 o_36 o_37, kx_a j_v cyI 12 o_38, kx_a j_n cyI 12 o_39]) hD hS hA [1, 6, 7, 0, 8, 9, 10, 11, 12] rfl
                  refine va_callv (va_runV (As := [.int i]) (rest := []) ⟨hx, hb, hml, hown, hts⟩ (c_X2_keepJoined_s l dC dI q_t q_row q_joined q_from q_to q_size q_lossOf q_lessBy q_value q_number nodes here cyI ks ko kv kn ke j_v j_n o_35 o_36 o_37 o_38 o_39 i H.size i_2 (by omega) w_34.1 w_34.2 LP1_h2) (cwV 1 hts gX2_renew_X2_keepJoined rfl rfl rfl (by decide +kernel) ⟨Nat.le_of_ble_eq_true rfl, Nat.le_of_ble_eq_true rfl⟩) ⟨fun a U g mk q => by obtain ⟨q0, q1, qP, qK, qD⟩ := q; exact ⟨q0, q1, qP, va_K.moved (u := U) (U := U.calling g mk a) (Vm.Alike.refl U.vm) qK, qD⟩, va_recv hKc hPc (ci := 2) (q0 := 0) rfl rfl, fun U hU hW => ⟨rfl, by rw [hU], by rw [hU]; exact hPc, va_K.moved hW.alike hKc, hDc.weaken (fun _ _ _ _ => trivial)⟩⟩ rfl rfl hl.1 rfl (lv_room (Nat.le_of_ble_eq_true rfl)) dX2_renew_58 ⟨Nat.le_of_ble_eq_true rfl, Nat.le_of_ble_eq_true rfl⟩) hS (fun q _ h => hFc q h) hFc (fun u t H1 locs ht hvm w_42 hB hz1 hk1 hS => ?_)
                  obtain ⟨o_43, o_44, o_45, o_46, o_47⟩ := u
                  dsimp only at w_42 hB
                  obtain ⟨hP1, hK1, hD1⟩ := hB
                  rw [ht] at hP1
                  have hK1 := va_K.moved hvm.symm hK1
                  obtain ⟨hP, hD⟩ := va_join (wr := [kx_0 q_row q_cell len, kx_a q_cell cyI 160 f, kx_a q_from cyI 319 ff, kx_a q_to cyI 319 ft]) (w1 := [kx_2 q_t q_row q_joined q_from q_to q_size q_lossOf q_lessBy q_value q_number nodes here, kx_a q_size cyI 319 o_43, kx_a q_lossOf cyI 319 o_44, kx_a q_lessBy cyI 319 o_45, kx_a q_value cyI 1914 o_46, kx_a q_number cyI 1914 o_47, kx_3 q_joined j_v j_n o_35 o_36 o_37, kx_a j_v cyI 12 o_38, kx_a j_n cyI 12 o_39]) hP hD [1, 6, 7, 0, 8, 9, 10, 11, 12] [2, 3, 4, 5] rfl rfl (by decide) (by decide) hk1 hFc hP1 hD1
                  clear hP1 hD1 hK1 hk1 hz1 hFc hDc hPc hKc
                  generalize H1 = H at hP hS ⊢
                  have hP : va_P (dC, dI) vwCl [kx_0 q_row q_cell len, kx_a q_cell cyI 160 f, kx_a q_from cyI 319 ff, kx_a q_to cyI 319 ft, kx_2 q_t q_row q_joined q_from q_to q_size q_lossOf q_lessBy q_value q_number nodes here, kx_a q_size cyI 319 o_43, kx_a q_lossOf cyI 319 o_44, kx_a q_lessBy cyI 319 o_45, kx_a q_value cyI 1914 o_46, kx_a q_number cyI 1914 o_47, kx_3 q_joined j_v j_n o_35 o_36 o_37, kx_a j_v cyI 12 o_38, kx_a j_n cyI 12 o_39] H := hP
                  have hD : va_D A [kx_0 q_row q_cell len, kx_a q_cell cyI 160 f, kx_a q_from cyI 319 ff, kx_a q_to cyI 319 ft, kx_2 q_t q_row q_joined q_from q_to q_size q_lossOf q_lessBy q_value q_number nodes here, kx_a q_size cyI 319 o_43, kx_a q_lossOf cyI 319 o_44, kx_a q_lessBy cyI 319 o_45, kx_a q_value cyI 1914 o_46, kx_a q_number cyI 1914 o_47, kx_3 q_joined j_v j_n o_35 o_36 o_37, kx_a j_v cyI 12 o_38, kx_a j_n cyI 12 o_39] := hD
                  have w_42 : sixes o_43 ∧ (∀ j : Nat, ¬ j = i.toNatClampNeg → o_43 j = ks j ∧ o_44 j = ko j ∧ o_45 j = ke j) ∧ ∀ q : Nat, (q < 6 * i.toNatClampNeg ∨ 6 * i.toNatClampNeg + 6 ≤ q) → o_46 q = kv q ∧ o_47 q = kn q := w_42
                  obtain ⟨x_48, ex_48⟩ : ∃ y : Int32, y = i + (-1) := ⟨_, rfl⟩
                  have i_48 : x_48.toInt = i.toInt + (-1) := ki_add ex_48 rfl rfl (by omega) (by omega)
                  refine lv_iinc (v := x_48) (lv' := [(4, .int x_48), (3, .int oth), (0, .ref q_t), (1, .int p0), (2, .int p1)]) hx hb dX2_renew_61 hl (k := 0) rfl (by rw [ex_48]; rfl) (by decide) rfl (fun ls hl => ?_)
                  refine lv_goto (tgt := 10) hx hb dX2_renew_64 (by decide) ?_
                  have hP : va_P (dC, dI) vwCl [kx_2 q_t q_row q_joined q_from q_to q_size q_lossOf q_lessBy q_value q_number nodes here, kx_0 q_row q_cell len, kx_a q_cell cyI 160 f, kx_a q_from cyI 319 ff, kx_a q_to cyI 319 ft, kx_a q_size cyI 319 o_43, kx_a q_lossOf cyI 319 o_44, kx_a q_lessBy cyI 319 o_45, kx_a q_value cyI 1914 o_46, kx_a q_number cyI 1914 o_47, kx_3 q_joined j_v j_n o_35 o_36 o_37, kx_a j_v cyI 12 o_38, kx_a j_n cyI 12 o_39] _ := hP.sub [4, 0, 1, 2, 3, 5, 6, 7, 8, 9, 10, 11, 12] rfl
                  have hD : va_D A [kx_2 q_t q_row q_joined q_from q_to q_size q_lossOf q_lessBy q_value q_number nodes here, kx_0 q_row q_cell len, kx_a q_cell cyI 160 f, kx_a q_from cyI 319 ff, kx_a q_to cyI 319 ft, kx_a q_size cyI 319 o_43, kx_a q_lossOf cyI 319 o_44, kx_a q_lessBy cyI 319 o_45, kx_a q_value cyI 1914 o_46, kx_a q_number cyI 1914 o_47, kx_3 q_joined j_v j_n o_35 o_36 o_37, kx_a j_v cyI 12 o_38, kx_a j_n cyI 12 o_39] := hD.sub [4, 0, 1, 2, 3, 5, 6, 7, 8, 9, 10, 11, 12] (by decide) rfl
                  have h_o := w_42.2.1
                  have h_w := w_42.2.2
                  have hit_i : mj_hit ff ft p0.toInt p1.toInt i.toNatClampNeg := by unfold mj_hit; omega
                  exact ih1 oth x_48 o_43 o_44 o_45 o_46 o_47 o_35 o_36 o_37 o_38 o_39 (by omega) (by omega) w_42.1 (fun k h1 h2 => by have hne : ¬ k = i.toNatClampNeg := fun e => h2 (by rw [e]; exact hit_i); obtain ⟨x1, x2, x3, x4⟩ := LP1_h3 k h1 h2; obtain ⟨y1, y2, y3⟩ := h_o k hne; exact ⟨y1.trans x1, y2.trans x2, y3.trans x3, fun q z1 z2 => by have a := h_w q (by omega); have b := x4 q z1 z2; exact ⟨a.1.trans b.1, a.2.trans b.2⟩⟩) (by rw [show (x_48.toInt + 1).toNat = i.toNatClampNeg by omega]; exact mj_ri_low LP1_h4 (by omega) h_o h_w (fun a b => absurd ⟨a, b⟩ h_in)) (by omega) _ _ hP hD hS ls (lv_sub hl [0, 1, 2, 3, 4] rfl)
                · exact absurd c_41 (by decide)
              · have w_40 : (0 : Int) ≤ 1 := w_40
                refine lv_if_ne (tgt := 55) hx hb dX2_renew_49 (by decide) (fun c_49 => ?_) (fun c_49 => ?_)
                · exact absurd c_49 (by decide)
                · obtain ⟨x_50, ex_50⟩ : ∃ y : Int32, y = oth + 1 := ⟨_, rfl⟩
                  refine lv_iinc (v := x_50) (lv' := [(3, .int x_50), (4, .int i), (0, .ref q_t), (1, .int p0), (2, .int p1)]) hx hb dX2_renew_52 hl (k := 1) rfl (by rw [ex_50]; rfl) (by decide) rfl (fun ls hl => ?_)
                  refine lv_aload_n hx hb dX2_renew_55 rfl (lv_at hl 2 rfl) ?_
                  refine lv_iload hx hb dX2_renew_56 (lv_at hl 1 rfl) ?_
                  have hPc := hP.sub (ws' := [kx_2 q_t q_row q_joined q_from q_to q_size q_lossOf q_lessBy q_value q_number nodes here, kx_a q_size cyI 319 ks, kx_a q_lossOf cyI 319 ko, kx_a q_lessBy cyI 319 ke, kx_a q_value cyI 1914 kv, kx_a q_number cyI 1914 kn, kx_3 q_joined j_v j_n o_35 o_36 o_37, kx_a j_v cyI 12 o_38, kx_a j_n cyI 12 o_39]) [1, 6, 7, 0, 8, 9, 10, 11, 12] rfl
                  have hKc := hK
                  have hDc := hD.sub (ws' := [kx_2 q_t q_row q_joined q_from q_to q_size q_lossOf q_lessBy q_value q_number nodes here, kx_a q_size cyI 319 ks, kx_a q_lossOf cyI 319 ko, kx_a q_lessBy cyI 319 ke, kx_a q_value cyI 1914 kv, kx_a q_number cyI 1914 kn, kx_3 q_joined j_v j_n o_35 o_36 o_37, kx_a j_v cyI 12 o_38, kx_a j_n cyI 12 o_39]) [1, 6, 7, 0, 8, 9, 10, 11, 12] (by decide) rfl
                  have hFc := va_free (wc := [kx_2 q_t q_row q_joined q_from q_to q_size q_lossOf q_lessBy q_value q_number nodes here, kx_a q_size cyI 319 ks, kx_a q_lossOf cyI 319 ko, kx_a q_lessBy cyI 319 ke, kx_a q_value cyI 1914 kv, kx_a q_number cyI 1914 kn, kx_3 q_joined j_v j_n o_35 o_36 o_37, kx_a j_v cyI 12 o_38, kx_a j_n cyI 12 o_39]) hD hS hA [1, 6, 7, 0, 8, 9, 10, 11, 12] rfl
                  refine va_callv (va_runV (As := [.int i]) (rest := []) ⟨hx, hb, hml, hown, hts⟩ (c_X2_keepJoined_s l dC dI q_t q_row q_joined q_from q_to q_size q_lossOf q_lessBy q_value q_number nodes here cyI ks ko kv kn ke j_v j_n o_35 o_36 o_37 o_38 o_39 i H.size i_2 (by omega) w_34.1 w_34.2 LP1_h2) (cwV 1 hts gX2_renew_X2_keepJoined rfl rfl rfl (by decide +kernel) ⟨Nat.le_of_ble_eq_true rfl, Nat.le_of_ble_eq_true rfl⟩) ⟨fun a U g mk q => by obtain ⟨q0, q1, qP, qK, qD⟩ := q; exact ⟨q0, q1, qP, va_K.moved (u := U) (U := U.calling g mk a) (Vm.Alike.refl U.vm) qK, qD⟩, va_recv hKc hPc (ci := 2) (q0 := 0) rfl rfl, fun U hU hW => ⟨rfl, by rw [hU], by rw [hU]; exact hPc, va_K.moved hW.alike hKc, hDc.weaken (fun _ _ _ _ => trivial)⟩⟩ rfl rfl hl.1 rfl (lv_room (Nat.le_of_ble_eq_true rfl)) dX2_renew_58 ⟨Nat.le_of_ble_eq_true rfl, Nat.le_of_ble_eq_true rfl⟩) hS (fun q _ h => hFc q h) hFc (fun u t H1 locs ht hvm w_51 hB hz1 hk1 hS => ?_)
                  obtain ⟨o_52, o_53, o_54, o_55, o_56⟩ := u
                  dsimp only at w_51 hB
                  obtain ⟨hP1, hK1, hD1⟩ := hB
                  rw [ht] at hP1
                  have hK1 := va_K.moved hvm.symm hK1
                  obtain ⟨hP, hD⟩ := va_join (wr := [kx_0 q_row q_cell len, kx_a q_cell cyI 160 f, kx_a q_from cyI 319 ff, kx_a q_to cyI 319 ft]) (w1 := [kx_2 q_t q_row q_joined q_from q_to q_size q_lossOf q_lessBy q_value q_number nodes here, kx_a q_size cyI 319 o_52, kx_a q_lossOf cyI 319 o_53, kx_a q_lessBy cyI 319 o_54, kx_a q_value cyI 1914 o_55, kx_a q_number cyI 1914 o_56, kx_3 q_joined j_v j_n o_35 o_36 o_37, kx_a j_v cyI 12 o_38, kx_a j_n cyI 12 o_39]) hP hD [1, 6, 7, 0, 8, 9, 10, 11, 12] [2, 3, 4, 5] rfl rfl (by decide) (by decide) hk1 hFc hP1 hD1
                  clear hP1 hD1 hK1 hk1 hz1 hFc hDc hPc hKc
                  generalize H1 = H at hP hS ⊢
                  have hP : va_P (dC, dI) vwCl [kx_0 q_row q_cell len, kx_a q_cell cyI 160 f, kx_a q_from cyI 319 ff, kx_a q_to cyI 319 ft, kx_2 q_t q_row q_joined q_from q_to q_size q_lossOf q_lessBy q_value q_number nodes here, kx_a q_size cyI 319 o_52, kx_a q_lossOf cyI 319 o_53, kx_a q_lessBy cyI 319 o_54, kx_a q_value cyI 1914 o_55, kx_a q_number cyI 1914 o_56, kx_3 q_joined j_v j_n o_35 o_36 o_37, kx_a j_v cyI 12 o_38, kx_a j_n cyI 12 o_39] H := hP
                  have hD : va_D A [kx_0 q_row q_cell len, kx_a q_cell cyI 160 f, kx_a q_from cyI 319 ff, kx_a q_to cyI 319 ft, kx_2 q_t q_row q_joined q_from q_to q_size q_lossOf q_lessBy q_value q_number nodes here, kx_a q_size cyI 319 o_52, kx_a q_lossOf cyI 319 o_53, kx_a q_lessBy cyI 319 o_54, kx_a q_value cyI 1914 o_55, kx_a q_number cyI 1914 o_56, kx_3 q_joined j_v j_n o_35 o_36 o_37, kx_a j_v cyI 12 o_38, kx_a j_n cyI 12 o_39] := hD
                  have w_51 : sixes o_52 ∧ (∀ j : Nat, ¬ j = i.toNatClampNeg → o_52 j = ks j ∧ o_53 j = ko j ∧ o_54 j = ke j) ∧ ∀ q : Nat, (q < 6 * i.toNatClampNeg ∨ 6 * i.toNatClampNeg + 6 ≤ q) → o_55 q = kv q ∧ o_56 q = kn q := w_51
                  obtain ⟨x_57, ex_57⟩ : ∃ y : Int32, y = i + (-1) := ⟨_, rfl⟩
                  have i_57 : x_57.toInt = i.toInt + (-1) := ki_add ex_57 rfl rfl (by omega) (by omega)
                  refine lv_iinc (v := x_57) (lv' := [(4, .int x_57), (3, .int x_50), (0, .ref q_t), (1, .int p0), (2, .int p1)]) hx hb dX2_renew_61 hl (k := 1) rfl (by rw [ex_57]; rfl) (by decide) rfl (fun ls hl => ?_)
                  refine lv_goto (tgt := 10) hx hb dX2_renew_64 (by decide) ?_
                  have hP : va_P (dC, dI) vwCl [kx_2 q_t q_row q_joined q_from q_to q_size q_lossOf q_lessBy q_value q_number nodes here, kx_0 q_row q_cell len, kx_a q_cell cyI 160 f, kx_a q_from cyI 319 ff, kx_a q_to cyI 319 ft, kx_a q_size cyI 319 o_52, kx_a q_lossOf cyI 319 o_53, kx_a q_lessBy cyI 319 o_54, kx_a q_value cyI 1914 o_55, kx_a q_number cyI 1914 o_56, kx_3 q_joined j_v j_n o_35 o_36 o_37, kx_a j_v cyI 12 o_38, kx_a j_n cyI 12 o_39] _ := hP.sub [4, 0, 1, 2, 3, 5, 6, 7, 8, 9, 10, 11, 12] rfl
                  have hD : va_D A [kx_2 q_t q_row q_joined q_from q_to q_size q_lossOf q_lessBy q_value q_number nodes here, kx_0 q_row q_cell len, kx_a q_cell cyI 160 f, kx_a q_from cyI 319 ff, kx_a q_to cyI 319 ft, kx_a q_size cyI 319 o_52, kx_a q_lossOf cyI 319 o_53, kx_a q_lessBy cyI 319 o_54, kx_a q_value cyI 1914 o_55, kx_a q_number cyI 1914 o_56, kx_3 q_joined j_v j_n o_35 o_36 o_37, kx_a j_v cyI 12 o_38, kx_a j_n cyI 12 o_39] := hD.sub [4, 0, 1, 2, 3, 5, 6, 7, 8, 9, 10, 11, 12] (by decide) rfl
                  have h_o := w_51.2.1
                  have h_w := w_51.2.2
                  have hit_i : mj_hit ff ft p0.toInt p1.toInt i.toNatClampNeg := by unfold mj_hit; omega
                  exact ih1 x_50 x_57 o_52 o_53 o_54 o_55 o_56 o_35 o_36 o_37 o_38 o_39 (by omega) (by omega) w_51.1 (fun k h1 h2 => by have hne : ¬ k = i.toNatClampNeg := fun e => h2 (by rw [e]; exact hit_i); obtain ⟨x1, x2, x3, x4⟩ := LP1_h3 k h1 h2; obtain ⟨y1, y2, y3⟩ := h_o k hne; exact ⟨y1.trans x1, y2.trans x2, y3.trans x3, fun q z1 z2 => by have a := h_w q (by omega); have b := x4 q z1 z2; exact ⟨a.1.trans b.1, a.2.trans b.2⟩⟩) (by rw [show (x_57.toInt + 1).toNat = i.toNatClampNeg by omega]; exact mj_ri_low LP1_h4 (by omega) h_o h_w (fun a b => absurd ⟨a, b⟩ h_in)) (by omega) _ _ hP hD hS ls (lv_sub hl [0, 1, 2, 3, 4] rfl)
  have k_58 : (0 : Int32).toInt = 0 := rfl
  exact LP1 ((y_1.toInt + 1 : Int).toNat + 1) 0 y_1 fs fo fe uv un js jl je jv jn (by omega) (by omega) s0 (fun k _ _ => ⟨rfl, rfl, rfl, fun q _ _ => ⟨rfl, rfl⟩⟩) (fun k h1 h2 _ _ => absurd h1 (by omega)) (Nat.lt_succ_self _) _ _ hP hD hS ls (lv_sub hl [0, 1, 2, 3, 4] rfl)

set_option maxHeartbeats 4000000 in
set_option maxRecDepth 100000 in
theorem c_X2_gather_i (l : Launch) (dC : Nat → ClassId) (dI : Nat → Nat → Nat) (q_t : Nat) (q_row : Nat) (q_joined : Nat) (q_from : Nat) (q_to : Nat) (q_size : Nat) (q_lossOf : Nat) (q_lessBy : Nat) (q_value : Nat) (q_number : Nat) (nodes : Int32) (here : Int32) (h0 : Nat) (a_v : Nat) (a_n : Nat) (cyI : ClassId) (vs : Int32) (lo : Int32) (le : Int32) (fv : Nat → Int32) (fn : Nat → Int32) (len : Int32) (f : Nat → Int32) (ff : Nat → Int32) (ft : Nat → Int32) (fs : Nat → Int32) (fo : Nat → Int32) (uv : Nat → Int32) (un : Nat → Int32) (fe : Nat → Int32) (p0 : Int32) (p1 : Int32) (sz : Nat) (b0 : 0 ≤ nodes.toInt) (c0 : nodes.toInt ≤ 319) (s0 : sixes fs) (c1 : len.toInt ≤ 160) (k0 : 1 ≤ here.toInt) (k1 : here.toInt ≤ 6) (t0 : treeOk ff ft nodes.toInt len.toInt) (hok : ∀ k : Nat, (k : Int) < nodes.toInt → p0.toInt ≤ (ff k).toInt → (ft k).toInt ≤ p1.toInt → mj_ok here.toNatClampNeg f ff ft fs fo fe uv un k) : Met l yX2_gather wsX2_gather ({ frames := 3, cells := 0, slots := 0, locals := 135 }) (va_Pc [.ref q_t, .ref h0, .int p0, .int p1] (fun U => U.heap.size = sz ∧ va_P (dC, dI) vwCl [kx_2 q_t q_row q_joined q_from q_to q_size q_lossOf q_lessBy q_value q_number nodes here, kx_a q_from cyI 319 ff, kx_a q_to cyI 319 ft, kx_a q_size cyI 319 fs, kx_a q_lossOf cyI 319 fo, kx_a q_value cyI 1914 uv, kx_a q_number cyI 1914 un, kx_3 h0 a_v a_n vs lo le, kx_a a_v cyI 12 fv, kx_a a_n cyI 12 fn] U.heap ∧ va_K (dC, dI) vwCl [(cyI, .int)] U ∧ va_D (fun _ => True) [kx_2 q_t q_row q_joined q_from q_to q_size q_lossOf q_lessBy q_value q_number nodes here, kx_a q_from cyI 319 ff, kx_a q_to cyI 319 ft, kx_a q_size cyI 319 fs, kx_a q_lossOf cyI 319 fo, kx_a q_value cyI 1914 uv, kx_a q_number cyI 1914 un, kx_3 h0 a_v a_n vs lo le, kx_a a_v cyI 12 fv, kx_a a_n cyI 12 fn])) (va_Qv (fun u : Int32 × Int32 × Int32 × (Nat → Int32) × (Nat → Int32) => mj_GA here.toNatClampNeg ff ft fs fo uv un p0.toInt p1.toInt (mj_pq ff ft p0.toInt p1.toInt nodes.toNatClampNeg) u.1 u.2.1 u.2.2.2.1 u.2.2.2.2 ∧ 0 ≤ u.1.toInt ∧ u.1.toInt ≤ here.toInt) (fun (u : Int32 × Int32 × Int32 × (Nat → Int32) × (Nat → Int32)) (t : State) => va_P (dC, dI) vwCl [kx_2 q_t q_row q_joined q_from q_to q_size q_lossOf q_lessBy q_value q_number nodes here, kx_a q_from cyI 319 ff, kx_a q_to cyI 319 ft, kx_a q_size cyI 319 fs, kx_a q_lossOf cyI 319 fo, kx_a q_value cyI 1914 uv, kx_a q_number cyI 1914 un, kx_3 h0 a_v a_n u.1 u.2.1 u.2.2.1, kx_a a_v cyI 12 u.2.2.2.1, kx_a a_n cyI 12 u.2.2.2.2] t.heap ∧ va_K (dC, dI) vwCl [(cyI, .int)] t ∧ va_D (va_A [kx_2 q_t q_row q_joined q_from q_to q_size q_lossOf q_lessBy q_value q_number nodes here, kx_a q_from cyI 319 ff, kx_a q_to cyI 319 ft, kx_a q_size cyI 319 fs, kx_a q_lossOf cyI 319 fo, kx_a q_value cyI 1914 uv, kx_a q_number cyI 1914 un, kx_3 h0 a_v a_n vs lo le, kx_a a_v cyI 12 fv, kx_a a_n cyI 12 fn] sz) [kx_2 q_t q_row q_joined q_from q_to q_size q_lossOf q_lessBy q_value q_number nodes here, kx_a q_from cyI 319 ff, kx_a q_to cyI 319 ft, kx_a q_size cyI 319 fs, kx_a q_lossOf cyI 319 fo, kx_a q_value cyI 1914 uv, kx_a q_number cyI 1914 un, kx_3 h0 a_v a_n u.1 u.2.1 u.2.2.1, kx_a a_v cyI 12 u.2.2.2.1, kx_a a_n cyI 12 u.2.2.2.2]) (va_A [kx_2 q_t q_row q_joined q_from q_to q_size q_lossOf q_lessBy q_value q_number nodes here, kx_a q_from cyI 319 ff, kx_a q_to cyI 319 ft, kx_a q_size cyI 319 fs, kx_a q_lossOf cyI 319 fo, kx_a q_value cyI 1914 uv, kx_a q_number cyI 1914 un, kx_3 h0 a_v a_n vs lo le, kx_a a_v cyI 12 fv, kx_a a_n cyI 12 fn] sz)) 0 0 (va_A [kx_2 q_t q_row q_joined q_from q_to q_size q_lossOf q_lessBy q_value q_number nodes here, kx_a q_from cyI 319 ff, kx_a q_to cyI 319 ft, kx_a q_size cyI 319 fs, kx_a q_lossOf cyI 319 fo, kx_a q_value cyI 1914 uv, kx_a q_number cyI 1914 un, kx_3 h0 a_v a_n vs lo le, kx_a a_v cyI 12 fv, kx_a a_n cyI 12 fn] sz) := by
  refine Met.ofW (cc := cX2_gather) (maxL := 6) (ret := none) (by decide) rfl ?_
  intro p e s m args below meth c s₁ B hml hv
  obtain ⟨rfl, hsz, hP, hK, hD0⟩ := hv
  have hx := B.exec
  have hb := B.bytes
  have hr := B.returns
  have hts := atoms_spec (ws := wsX2_gather) B.pre
  have hown : s.vm.findClass RX2 = some m.cls := findClass_of_methodNamed B.named
  have hlocks := B.notSynchronized
  subst hsz
  have hD := hD0.self (sz := s.heap.size)
  generalize hAe : va_A [kx_2 q_t q_row q_joined q_from q_to q_size q_lossOf q_lessBy q_value q_number nodes here, kx_a q_from cyI 319 ff, kx_a q_to cyI 319 ft, kx_a q_size cyI 319 fs, kx_a q_lossOf cyI 319 fo, kx_a q_value cyI 1914 uv, kx_a q_number cyI 1914 un, kx_3 h0 a_v a_n vs lo le, kx_a a_v cyI 12 fv, kx_a a_n cyI 12 fn] s.heap.size = A at hD ⊢
  have hA : ∀ q : Nat, s.heap.size ≤ q → A q := fun q h => by rw [← hAe]; exact Or.inr h
  have hS : va_S A s.heap s.heap [] := va_S.rf
  have hP : va_P (dC, dI) vwCl [kx_2 q_t q_row q_joined q_from q_to q_size q_lossOf q_lessBy q_value q_number nodes here, kx_a q_from cyI 319 ff, kx_a q_to cyI 319 ft, kx_a q_size cyI 319 fs, kx_a q_lossOf cyI 319 fo, kx_a q_value cyI 1914 uv, kx_a q_number cyI 1914 un, kx_3 h0 a_v a_n vs lo le, kx_a a_v cyI 12 fv, kx_a a_n cyI 12 fn] s.heap := hP
  have hl := lv_entry ([.ref q_t, .ref h0, .int p0, .int p1]) (n := 6) (Nat.le_of_ble_eq_true rfl)
  rw [lg_entry_eq]
  generalize (lg_sl ([.ref q_t, .ref h0, .int p0, .int p1]) ++ List.replicate (6 - (lg_sl ([.ref q_t, .ref h0, .int p0, .int p1])).length) Slot.unset).toArray = ls at hl ⊢
  have hl : lv_has ls 6 [(0, .ref q_t), (1, .ref h0), (2, .int p0), (3, .int p1)] := hl
  have hf_50 := hts (.fieldLink RX2 50 "MajorityIndex$Tree" "nodes" "I") (List.mem_of_getElem? (i := 1) rfl)
  have hi_2 : ∀ w ∈ u_ws RX2 TX2 11, w ∈ wsX2_gather := fun w h => List.mem_cons_of_mem _ (List.mem_append_left _ (List.mem_append_right _ h))
  have hf_22 := hts (.fieldLink RX2 22 "MajorityIndex$Tree" "to" "[I") (List.mem_of_getElem? (i := 2) rfl)
  have hf_85 := hts (.fieldLink RX2 85 "MajorityIndex$Tree" "slotsHere" "I") (List.mem_of_getElem? (i := 3) rfl)
  have n_nd := ki_nat nodes rfl (by omega)
  have n_h := ki_nat here rfl (by omega)
  refine lv_aload_n hx hb dX2_gather_0 rfl (lv_at hl 1 rfl) ?_
  have hPc := hP.sub (ws' := [kx_3 h0 a_v a_n vs lo le]) [7] rfl
  have hKc := hK.sub (tys' := []) [] rfl
  have hDc := hD.sub (ws' := [kx_3 h0 a_v a_n vs lo le]) [7] (by decide) rfl
  have hFc := va_free (wc := [kx_3 h0 a_v a_n vs lo le]) hD hS hA [7] rfl
  refine va_callv (va_runV (As := []) (rest := []) ⟨hx, hb, hml, hown, hts⟩ (c_X3_clear l dC dI h0 a_v a_n vs lo le s.heap.size) (cwV 0 hts gX2_gather_X3_clear rfl rfl rfl (by decide +kernel) ⟨Nat.le_of_ble_eq_true rfl, Nat.le_of_ble_eq_true rfl⟩) ⟨fun a U g mk q => by obtain ⟨q0, q1, qP, qK, qD⟩ := q; exact ⟨q0, q1, qP, va_K.moved (u := U) (U := U.calling g mk a) (Vm.Alike.refl U.vm) qK, qD⟩, va_recv hKc hPc (ci := 3) (q0 := 0) rfl rfl, fun U hU hW => ⟨rfl, by rw [hU], by rw [hU]; exact hPc, va_K.moved hW.alike hKc, hDc.weaken (fun _ _ _ _ => trivial)⟩⟩ rfl rfl hl.1 rfl (lv_room (Nat.le_of_ble_eq_true rfl)) dX2_gather_1 ⟨Nat.le_of_ble_eq_true rfl, Nat.le_of_ble_eq_true rfl⟩) hS (fun q _ h => hFc q h) hFc (fun u t H1 locs ht hvm w_1 hB hz1 hk1 hS => ?_)
  obtain ⟨hP1, hK1, hD1⟩ := hB
  rw [ht] at hP1
  have hK1 := va_K.moved hvm.symm hK1
  obtain ⟨hP, hD⟩ := va_join (wr := [kx_2 q_t q_row q_joined q_from q_to q_size q_lossOf q_lessBy q_value q_number nodes here, kx_a q_from cyI 319 ff, kx_a q_to cyI 319 ft, kx_a q_size cyI 319 fs, kx_a q_lossOf cyI 319 fo, kx_a q_value cyI 1914 uv, kx_a q_number cyI 1914 un, kx_a a_v cyI 12 fv, kx_a a_n cyI 12 fn]) (w1 := [kx_3 h0 a_v a_n 0 0 0]) hP hD [7] [0, 1, 2, 3, 4, 5, 6, 8, 9] rfl rfl (by decide) (by decide) hk1 hFc hP1 hD1
  clear hP1 hD1 hK1 hk1 hz1 hFc hDc hPc hKc
  generalize H1 = H at hP hS ⊢
  have hP : va_P (dC, dI) vwCl [kx_2 q_t q_row q_joined q_from q_to q_size q_lossOf q_lessBy q_value q_number nodes here, kx_a q_from cyI 319 ff, kx_a q_to cyI 319 ft, kx_a q_size cyI 319 fs, kx_a q_lossOf cyI 319 fo, kx_a q_value cyI 1914 uv, kx_a q_number cyI 1914 un, kx_a a_v cyI 12 fv, kx_a a_n cyI 12 fn, kx_3 h0 a_v a_n 0 0 0] H := hP
  have hD : va_D A [kx_2 q_t q_row q_joined q_from q_to q_size q_lossOf q_lessBy q_value q_number nodes here, kx_a q_from cyI 319 ff, kx_a q_to cyI 319 ft, kx_a q_size cyI 319 fs, kx_a q_lossOf cyI 319 fo, kx_a q_value cyI 1914 uv, kx_a q_number cyI 1914 un, kx_a a_v cyI 12 fv, kx_a a_n cyI 12 fn, kx_3 h0 a_v a_n 0 0 0] := hD
  refine lv_iload_n hx hb dX2_gather_4 rfl (lv_at hl 2 rfl) ?_
  refine lv_istore (lv' := [(4, .int p0), (0, .ref q_t), (1, .ref h0), (2, .int p0), (3, .int p1)]) hx hb dX2_gather_5 hl (by decide) rfl (fun ls hl => ?_)
  refine lv_iconst (v := 0) hx hb dX2_gather_7 (by decide) ?_
  refine lv_istore (lv' := [(5, .int 0), (4, .int p0), (0, .ref q_t), (1, .ref h0), (2, .int p0), (3, .int p1)]) hx hb dX2_gather_8 hl (by decide) rfl (fun ls hl => ?_)
  have LP1 : ∀ (n : Nat) (i : Int32) (nxt : Int32) (zz : Int32) (zl : Int32) (zb : Int32) (yv : Nat → Int32) (yn : Nat → Int32), (0 ≤ i.toInt) → (i.toInt ≤ nodes.toInt) → (nxt.toInt = mj_pb ff ft p0.toInt p1.toInt i.toNatClampNeg) → (mj_GA here.toNatClampNeg ff ft fs fo uv un p0.toInt p1.toInt (mj_pq ff ft p0.toInt p1.toInt i.toNatClampNeg) zz zl yv yn) → (0 ≤ zz.toInt) → (zz.toInt ≤ 6) → (p0.toInt ≤ nxt.toInt) → (nodes.toInt - i.toInt).toNat < n → ∀ (H : Heap) (locs : List Loc), va_P (dC, dI) vwCl [kx_2 q_t q_row q_joined q_from q_to q_size q_lossOf q_lessBy q_value q_number nodes here, kx_a q_from cyI 319 ff, kx_a q_to cyI 319 ft, kx_a q_size cyI 319 fs, kx_a q_lossOf cyI 319 fo, kx_a q_value cyI 1914 uv, kx_a q_number cyI 1914 un, kx_a a_v cyI 12 yv, kx_a a_n cyI 12 yn, kx_3 h0 a_v a_n zz zl zb] H → va_D A [kx_2 q_t q_row q_joined q_from q_to q_size q_lossOf q_lessBy q_value q_number nodes here, kx_a q_from cyI 319 ff, kx_a q_to cyI 319 ft, kx_a q_size cyI 319 fs, kx_a q_lossOf cyI 319 fo, kx_a q_value cyI 1914 uv, kx_a q_number cyI 1914 un, kx_a a_v cyI 12 yv, kx_a a_n cyI 12 yn, kx_3 h0 a_v a_n zz zl zb] → va_S A s.heap H locs → ∀ (ls : Array Slot), lv_has ls 6 [(5, .int i), (4, .int nxt), (0, .ref q_t), (1, .ref h0), (2, .int p0), (3, .int p1)] → W p l e (headSpec wsX2_gather ({ frames := 3, cells := 0, slots := 0, locals := 135 })).room s m ([.ref q_t, .ref h0, .int p0, .int p1] : List Value).toArray below meth c H locs 0 0 (MQ below (va_Qv (fun u : Int32 × Int32 × Int32 × (Nat → Int32) × (Nat → Int32) => mj_GA here.toNatClampNeg ff ft fs fo uv un p0.toInt p1.toInt (mj_pq ff ft p0.toInt p1.toInt nodes.toNatClampNeg) u.1 u.2.1 u.2.2.2.1 u.2.2.2.2 ∧ 0 ≤ u.1.toInt ∧ u.1.toInt ≤ here.toInt) (fun (u : Int32 × Int32 × Int32 × (Nat → Int32) × (Nat → Int32)) (t : State) => va_P (dC, dI) vwCl [kx_2 q_t q_row q_joined q_from q_to q_size q_lossOf q_lessBy q_value q_number nodes here, kx_a q_from cyI 319 ff, kx_a q_to cyI 319 ft, kx_a q_size cyI 319 fs, kx_a q_lossOf cyI 319 fo, kx_a q_value cyI 1914 uv, kx_a q_number cyI 1914 un, kx_3 h0 a_v a_n u.1 u.2.1 u.2.2.1, kx_a a_v cyI 12 u.2.2.2.1, kx_a a_n cyI 12 u.2.2.2.2] t.heap ∧ va_K (dC, dI) vwCl [(cyI, .int)] t ∧ va_D A [kx_2 q_t q_row q_joined q_from q_to q_size q_lossOf q_lessBy q_value q_number nodes here, kx_a q_from cyI 319 ff, kx_a q_to cyI 319 ft, kx_a q_size cyI 319 fs, kx_a q_lossOf cyI 319 fo, kx_a q_value cyI 1914 uv, kx_a q_number cyI 1914 un, kx_3 h0 a_v a_n u.1 u.2.1 u.2.2.1, kx_a a_v cyI 12 u.2.2.2.1, kx_a a_n cyI 12 u.2.2.2.2]) A) ([.ref q_t, .ref h0, .int p0, .int p1] : List Value).toArray s 0 0 A) (F0 m 10 ls []) := by
    intro n
    induction n with
    | zero => intro i nxt zz zl zb yv yn LP1_h0 LP1_h1 LP1_h2 LP1_h3 LP1_h4 LP1_h5 LP1_h6 hn; exact absurd hn (Nat.not_lt_zero _)
    | succ n ih1 =>
      intro i nxt zz zl zb yv yn LP1_h0 LP1_h1 LP1_h2 LP1_h3 LP1_h4 LP1_h5 LP1_h6 hn1 H locs hP hD hS ls hl
      have n_i := ki_nat i rfl (by omega)
      refine lv_iload hx hb dX2_gather_10 (lv_at hl 0 rfl) ?_
      refine lv_aload_n hx hb dX2_gather_12 rfl (lv_at hl 2 rfl) ?_
      refine va_get (D := (dC, dI)) (ci := 2) (v := .int nodes) (C := RX2) (T := TX2) (N := 11) hx hb hts hi_2 hown hK hP 0 rfl rfl 9 (by decide) hf_50 (fun _ h9 => h9) rfl dX2_gather_13 ?_
      refine lv_icmp_ge (tgt := 61) hx hb dX2_gather_16 (by decide) (fun c_2 => ?_) (fun c_2 => ?_)
      · have i_2 : nodes.toInt ≤ i.toInt := kc_le c_2
        have hP9 := hP.sub (ws' := [kx_2 q_t q_row q_joined q_from q_to q_size q_lossOf q_lessBy q_value q_number nodes here, kx_a q_from cyI 319 ff, kx_a q_to cyI 319 ft, kx_a q_size cyI 319 fs, kx_a q_lossOf cyI 319 fo, kx_a q_value cyI 1914 uv, kx_a q_number cyI 1914 un, kx_3 h0 a_v a_n zz zl zb, kx_a a_v cyI 12 yv, kx_a a_n cyI 12 yn]) [0, 1, 2, 3, 4, 5, 6, 9, 7, 8] rfl
        have hD9 := hD.sub (ws' := [kx_2 q_t q_row q_joined q_from q_to q_size q_lossOf q_lessBy q_value q_number nodes here, kx_a q_from cyI 319 ff, kx_a q_to cyI 319 ft, kx_a q_size cyI 319 fs, kx_a q_lossOf cyI 319 fo, kx_a q_value cyI 1914 uv, kx_a q_number cyI 1914 un, kx_3 h0 a_v a_n zz zl zb, kx_a a_v cyI 12 yv, kx_a a_n cyI 12 yn]) [0, 1, 2, 3, 4, 5, 6, 9, 7, 8] (by decide) rfl
        have hK9 := hK
        have q_i : i.toNatClampNeg = nodes.toNatClampNeg := by omega
        have h_g := LP1_h3
        rw [q_i] at h_g
        have h_k : zz.toInt ≤ here.toInt := by obtain ⟨_, _, _, _, _, _, h9, _⟩ := h_g; omega
        exact W.vret hx hb hr (fun t ht hW => ⟨⟨(zz, zl, zb, yv, yn), rfl, ⟨h_g, (by (try dsimp only); omega), (by (try dsimp only); omega)⟩, by rw [ht]; exact hP9, va_K.moved hW.alike hK9, hD9⟩, hS.F ht⟩) hS.2.2 dX2_gather_61
      · have i_2 : i.toInt < nodes.toInt := kc_nle c_2
        refine lv_aload_n hx hb dX2_gather_19 rfl (lv_at hl 2 rfl) ?_
        refine lv_iload hx hb dX2_gather_20 (lv_at hl 0 rfl) ?_
        refine lv_iload hx hb dX2_gather_22 (lv_at hl 1 rfl) ?_
        refine lv_iload_n hx hb dX2_gather_24 rfl (lv_at hl 5 rfl) ?_
        have hPc := hP.sub (ws' := [kx_2 q_t q_row q_joined q_from q_to q_size q_lossOf q_lessBy q_value q_number nodes here, kx_a q_from cyI 319 ff, kx_a q_to cyI 319 ft]) [0, 1, 2] rfl
        have hKc := hK
        refine vp_callSi (W.runV (As := [.int i, .int nxt, .int p1]) (rest := []) ⟨hx, hb, hml, hown, hts⟩ (c_X2_isPart l dC dI q_t q_row q_joined q_from q_to q_size q_lossOf q_lessBy q_value q_number nodes here cyI ff ft i nxt p1 LP1_h0 (by omega)) (cwV 3 hts gX2_gather_X2_isPart rfl rfl rfl (by decide +kernel) ⟨Nat.le_of_ble_eq_true rfl, Nat.le_of_ble_eq_true rfl⟩) ⟨fun a U g mk q => by obtain ⟨q0, qP, qK⟩ := q; exact ⟨q0, qP, va_K.moved (u := U) (U := U.calling g mk a) (Vm.Alike.refl U.vm) qK⟩, va_recv hKc hPc (ci := 2) (q0 := 0) rfl rfl, fun U hU hW => ⟨rfl, by rw [hU]; exact hPc, va_K.moved hW.alike hKc⟩⟩ rfl rfl hl.1 rfl (lv_room (Nat.le_of_ble_eq_true rfl)) dX2_gather_25 ⟨Nat.le_of_ble_eq_true rfl, Nat.le_of_ble_eq_true rfl⟩) (fun r_3 w_3 => ?_)
        rcases w_3 with ⟨rfl, w_3⟩ | ⟨rfl, w_3⟩
        · have w_3 : ((ff i.toNatClampNeg).toInt = nxt.toInt ∧ (ft i.toNatClampNeg).toInt ≤ p1.toInt) := w_3
          refine lv_if_eq (tgt := 55) hx hb dX2_gather_28 (by decide) (fun c_4 => ?_) (fun c_4 => ?_)
          · exact absurd c_4 (by decide)
          · refine lv_aload_n hx hb dX2_gather_31 rfl (lv_at hl 2 rfl) ?_
            refine va_get (D := (dC, dI)) (ci := 2) (v := .ref q_to) (C := RX2) (T := TX2) (N := 11) hx hb hts hi_2 hown hK hP 0 rfl rfl 3 (by decide) hf_22 (fun _ h9 => h9) rfl dX2_gather_32 ?_
            refine lv_iload hx hb dX2_gather_35 (lv_at hl 0 rfl) ?_
            refine va_iald hx hb hK hP 2 0 rfl rfl (ki_in (by omega) (by omega)) dX2_gather_37 ?_
            refine lv_topi (fun y_5 ey_5 => ?_)
            have j_5 : y_5.toInt = (ft i.toNatClampNeg).toInt := congrArg Int32.toInt ey_5
            refine lv_istore (lv' := [(4, .int y_5), (5, .int i), (0, .ref q_t), (1, .ref h0), (2, .int p0), (3, .int p1)]) hx hb dX2_gather_38 hl (by decide) rfl (fun ls hl => ?_)
            refine lv_aload_n hx hb dX2_gather_40 rfl (lv_at hl 2 rfl) ?_
            refine lv_aload_n hx hb dX2_gather_41 rfl (lv_at hl 3 rfl) ?_
            refine lv_iload hx hb dX2_gather_42 (lv_at hl 1 rfl) ?_
            have hti := t0 i.toNatClampNeg (by omega)
            unfold okAt at hti
            obtain ⟨mua, L0, hH, hva, hsa, c0, cK, eL, hba⟩ := LP1_h3
            obtain ⟨w0, w6, wK, mub, hvb, hsb, hbb⟩ := mj_ok_vs (hok i.toNatClampNeg (by omega) (by omega) (by omega)) t0 (by omega) c1
            have hpq := mj_pq_le ff ft p0.toInt p1.toInt i.toNatClampNeg
            have hPc := hP.sub (ws' := [kx_2 q_t q_row q_joined q_from q_to q_size q_lossOf q_lessBy q_value q_number nodes here, kx_a q_size cyI 319 fs, kx_a q_lossOf cyI 319 fo, kx_a q_value cyI 1914 uv, kx_a q_number cyI 1914 un, kx_3 h0 a_v a_n zz zl zb, kx_a a_v cyI 12 yv, kx_a a_n cyI 12 yn]) [0, 3, 4, 5, 6, 9, 7, 8] rfl
            have hKc := hK
            have hDc := hD.sub (ws' := [kx_2 q_t q_row q_joined q_from q_to q_size q_lossOf q_lessBy q_value q_number nodes here, kx_a q_size cyI 319 fs, kx_a q_lossOf cyI 319 fo, kx_a q_value cyI 1914 uv, kx_a q_number cyI 1914 un, kx_3 h0 a_v a_n zz zl zb, kx_a a_v cyI 12 yv, kx_a a_n cyI 12 yn]) [0, 3, 4, 5, 6, 9, 7, 8] (by decide) rfl
            have hFc := va_free (wc := [kx_2 q_t q_row q_joined q_from q_to q_size q_lossOf q_lessBy q_value q_number nodes here, kx_a q_size cyI 319 fs, kx_a q_lossOf cyI 319 fo, kx_a q_value cyI 1914 uv, kx_a q_number cyI 1914 un, kx_3 h0 a_v a_n zz zl zb, kx_a a_v cyI 12 yv, kx_a a_n cyI 12 yn]) hD hS hA [0, 3, 4, 5, 6, 9, 7, 8] rfl
            refine va_callv (va_runV (As := [.ref h0, .int i]) (rest := []) ⟨hx, hb, hml, hown, hts⟩ (c_X2_joinNode_x l dC dI q_t q_row q_joined q_from q_to q_size q_lossOf q_lessBy q_value q_number nodes here h0 a_v a_n cyI zz zl zb yv yn fs fo uv un mua mub i H.size (by omega) (by omega) (by omega) (by omega) w0 w6 hva hvb (fun v => by have h1 := hba v; have h2 := hbb v; omega)) (cwV 2 hts gX2_gather_X2_joinNode rfl rfl rfl (by decide +kernel) ⟨Nat.le_of_ble_eq_true rfl, Nat.le_of_ble_eq_true rfl⟩) ⟨fun a U g mk q => by obtain ⟨q0, q1, qP, qK, qD⟩ := q; exact ⟨q0, q1, qP, va_K.moved (u := U) (U := U.calling g mk a) (Vm.Alike.refl U.vm) qK, qD⟩, va_recv hKc hPc (ci := 2) (q0 := 0) rfl rfl, fun U hU hW => ⟨rfl, by rw [hU], by rw [hU]; exact hPc, va_K.moved hW.alike hKc, hDc.weaken (fun _ _ _ _ => trivial)⟩⟩ rfl rfl hl.1 rfl (lv_room (Nat.le_of_ble_eq_true rfl)) dX2_gather_44 ⟨Nat.le_of_ble_eq_true rfl, Nat.le_of_ble_eq_true rfl⟩) hS (fun q _ h => hFc q h) hFc (fun u t H1 locs ht hvm w_6 hB hz1 hk1 hS => ?_)
            obtain ⟨o_7, o_8, o_9, o_10⟩ := u
            dsimp only at w_6 hB
            obtain ⟨hP1, hK1, hD1⟩ := hB
            rw [ht] at hP1
            have hK1 := va_K.moved hvm.symm hK1
            obtain ⟨hP, hD⟩ := va_join (wr := [kx_a q_from cyI 319 ff, kx_a q_to cyI 319 ft]) (w1 := [kx_2 q_t q_row q_joined q_from q_to q_size q_lossOf q_lessBy q_value q_number nodes here, kx_a q_size cyI 319 fs, kx_a q_lossOf cyI 319 fo, kx_a q_value cyI 1914 uv, kx_a q_number cyI 1914 un, kx_3 h0 a_v a_n o_7 o_8 zb, kx_a a_v cyI 12 o_9, kx_a a_n cyI 12 o_10]) hP hD [0, 3, 4, 5, 6, 9, 7, 8] [1, 2] rfl rfl (by decide) (by decide) hk1 hFc hP1 hD1
            clear hP1 hD1 hK1 hk1 hz1 hFc hDc hPc hKc
            generalize H1 = H at hP hS ⊢
            have hP : va_P (dC, dI) vwCl [kx_a q_from cyI 319 ff, kx_a q_to cyI 319 ft, kx_2 q_t q_row q_joined q_from q_to q_size q_lossOf q_lessBy q_value q_number nodes here, kx_a q_size cyI 319 fs, kx_a q_lossOf cyI 319 fo, kx_a q_value cyI 1914 uv, kx_a q_number cyI 1914 un, kx_3 h0 a_v a_n o_7 o_8 zb, kx_a a_v cyI 12 o_9, kx_a a_n cyI 12 o_10] H := hP
            have hD : va_D A [kx_a q_from cyI 319 ff, kx_a q_to cyI 319 ft, kx_2 q_t q_row q_joined q_from q_to q_size q_lossOf q_lessBy q_value q_number nodes here, kx_a q_size cyI 319 fs, kx_a q_lossOf cyI 319 fo, kx_a q_value cyI 1914 uv, kx_a q_number cyI 1914 un, kx_3 h0 a_v a_n o_7 o_8 zb, kx_a a_v cyI 12 o_9, kx_a a_n cyI 12 o_10] := hD
            have w_6 : mj_vs o_9 o_10 0 o_7.toNatClampNeg (fun w => mua w + mub w) ∧ o_8 = zl + fo i.toNatClampNeg ∧ 0 ≤ o_7.toInt ∧ o_7.toInt ≤ zz.toInt + (fs i.toNatClampNeg).toInt := w_6
            refine lv_aload_n hx hb dX2_gather_47 rfl (lv_at hl 3 rfl) ?_
            refine lv_aload_n hx hb dX2_gather_48 rfl (lv_at hl 2 rfl) ?_
            refine va_get (D := (dC, dI)) (ci := 2) (v := .int here) (C := RX2) (T := TX2) (N := 11) hx hb hts hi_2 hown hK hP 2 rfl rfl 10 (by decide) hf_85 (fun _ h9 => h9) rfl dX2_gather_49 ?_
            have hPc := hP.sub (ws' := [kx_3 h0 a_v a_n o_7 o_8 zb, kx_a a_v cyI 12 o_9, kx_a a_n cyI 12 o_10]) [7, 8, 9] rfl
            have hKc := hK
            have hDc := hD.sub (ws' := [kx_3 h0 a_v a_n o_7 o_8 zb, kx_a a_v cyI 12 o_9, kx_a a_n cyI 12 o_10]) [7, 8, 9] (by decide) rfl
            have hFc := va_free (wc := [kx_3 h0 a_v a_n o_7 o_8 zb, kx_a a_v cyI 12 o_9, kx_a a_n cyI 12 o_10]) hD hS hA [7, 8, 9] rfl
            refine va_callv (va_runV (As := [.int here]) (rest := []) ⟨hx, hb, hml, hown, hts⟩ (c_X3_cancel_x l dC dI h0 a_v a_n cyI o_7 o_8 zb o_9 o_10 (fun w => mua w + mub w) here H.size (by omega) (by omega) (by omega) (by omega) w_6.1 (fun v => by have h1 := hba v; have h2 := hbb v; (try dsimp only); omega)) (cwV 1 hts gX2_gather_X3_cancel rfl rfl rfl (by decide +kernel) ⟨Nat.le_of_ble_eq_true rfl, Nat.le_of_ble_eq_true rfl⟩) ⟨fun a U g mk q => by obtain ⟨q0, q1, qP, qK, qD⟩ := q; exact ⟨q0, q1, qP, va_K.moved (u := U) (U := U.calling g mk a) (Vm.Alike.refl U.vm) qK, qD⟩, va_recv hKc hPc (ci := 3) (q0 := 0) rfl rfl, fun U hU hW => ⟨rfl, by rw [hU], by rw [hU]; exact hPc, va_K.moved hW.alike hKc, hDc.weaken (fun _ _ _ _ => trivial)⟩⟩ rfl rfl hl.1 rfl (lv_room (Nat.le_of_ble_eq_true rfl)) dX2_gather_52 ⟨Nat.le_of_ble_eq_true rfl, Nat.le_of_ble_eq_true rfl⟩) hS (fun q _ h => hFc q h) hFc (fun u t H1 locs ht hvm w_11 hB hz1 hk1 hS => ?_)
            obtain ⟨o_12, o_13, o_14, o_15, o_16, o_17⟩ := u
            dsimp only at w_11 hB
            obtain ⟨hP1, hK1, hD1⟩ := hB
            rw [ht] at hP1
            have hK1 := va_K.moved hvm.symm hK1
            obtain ⟨hP, hD⟩ := va_join (wr := [kx_a q_from cyI 319 ff, kx_a q_to cyI 319 ft, kx_2 q_t q_row q_joined q_from q_to q_size q_lossOf q_lessBy q_value q_number nodes here, kx_a q_size cyI 319 fs, kx_a q_lossOf cyI 319 fo, kx_a q_value cyI 1914 uv, kx_a q_number cyI 1914 un]) (w1 := [kx_3 h0 a_v a_n o_12 o_13 o_14, kx_a a_v cyI 12 o_15, kx_a a_n cyI 12 o_16]) hP hD [7, 8, 9] [0, 1, 2, 3, 4, 5, 6] rfl rfl (by decide) (by decide) hk1 hFc hP1 hD1
            clear hP1 hD1 hK1 hk1 hz1 hFc hDc hPc hKc
            generalize H1 = H at hP hS ⊢
            have hP : va_P (dC, dI) vwCl [kx_a q_from cyI 319 ff, kx_a q_to cyI 319 ft, kx_2 q_t q_row q_joined q_from q_to q_size q_lossOf q_lessBy q_value q_number nodes here, kx_a q_size cyI 319 fs, kx_a q_lossOf cyI 319 fo, kx_a q_value cyI 1914 uv, kx_a q_number cyI 1914 un, kx_3 h0 a_v a_n o_12 o_13 o_14, kx_a a_v cyI 12 o_15, kx_a a_n cyI 12 o_16] H := hP
            have hD : va_D A [kx_a q_from cyI 319 ff, kx_a q_to cyI 319 ft, kx_2 q_t q_row q_joined q_from q_to q_size q_lossOf q_lessBy q_value q_number nodes here, kx_a q_size cyI 319 fs, kx_a q_lossOf cyI 319 fo, kx_a q_value cyI 1914 uv, kx_a q_number cyI 1914 un, kx_3 h0 a_v a_n o_12 o_13 o_14, kx_a a_v cyI 12 o_15, kx_a a_n cyI 12 o_16] := hD
            have w_11 : mj_can here.toNatClampNeg (fun w => mua w + mub w) o_17 o_14 ∧ o_13 = o_8 + o_14 ∧ 0 ≤ o_12.toInt ∧ o_12.toInt ≤ here.toInt ∧ mj_vs o_15 o_16 0 o_12.toNatClampNeg o_17 ∧ mj_srt o_15 o_16 0 o_12.toNatClampNeg ∧ 0 ≤ o_14.toInt := w_11
            obtain ⟨x_18, ex_18⟩ : ∃ y : Int32, y = i + 1 := ⟨_, rfl⟩
            have i_18 : x_18.toInt = i.toInt + 1 := ki_add ex_18 rfl rfl (by omega) (by omega)
            refine lv_iinc (v := x_18) (lv' := [(5, .int x_18), (4, .int y_5), (0, .ref q_t), (1, .ref h0), (2, .int p0), (3, .int p1)]) hx hb dX2_gather_55 hl (k := 1) rfl (by rw [ex_18]; rfl) (by decide) rfl (fun ls hl => ?_)
            refine lv_goto (tgt := 10) hx hb dX2_gather_58 (by decide) ?_
            have hP : va_P (dC, dI) vwCl [kx_2 q_t q_row q_joined q_from q_to q_size q_lossOf q_lessBy q_value q_number nodes here, kx_a q_from cyI 319 ff, kx_a q_to cyI 319 ft, kx_a q_size cyI 319 fs, kx_a q_lossOf cyI 319 fo, kx_a q_value cyI 1914 uv, kx_a q_number cyI 1914 un, kx_a a_v cyI 12 o_15, kx_a a_n cyI 12 o_16, kx_3 h0 a_v a_n o_12 o_13 o_14] _ := hP.sub [2, 0, 1, 3, 4, 5, 6, 8, 9, 7] rfl
            have hD : va_D A [kx_2 q_t q_row q_joined q_from q_to q_size q_lossOf q_lessBy q_value q_number nodes here, kx_a q_from cyI 319 ff, kx_a q_to cyI 319 ft, kx_a q_size cyI 319 fs, kx_a q_lossOf cyI 319 fo, kx_a q_value cyI 1914 uv, kx_a q_number cyI 1914 un, kx_a a_v cyI 12 o_15, kx_a a_n cyI 12 o_16, kx_3 h0 a_v a_n o_12 o_13 o_14] := hD.sub [2, 0, 1, 3, 4, 5, 6, 8, 9, 7] (by decide) rfl
            have n_19 := ki_nat x_18 rfl (by omega)
            have isp : mj_isp ff ft p0.toInt p1.toInt i.toNatClampNeg := by unfold mj_isp; omega
            have st2 : mj_pb ff ft p0.toInt p1.toInt x_18.toNatClampNeg = (ft i.toNatClampNeg).toInt ∧ mj_pq ff ft p0.toInt p1.toInt x_18.toNatClampNeg = mj_pq ff ft p0.toInt p1.toInt i.toNatClampNeg + 1 := mj_pbq_yes isp (by omega)
            exact ih1 x_18 y_5 o_12 o_13 o_14 o_15 o_16 (by omega) (by omega) (by rw [st2.1]; omega) (mj_GA_step hH (by omega) isp rfl w0 w6 hvb w_11.1 eL w_6.2.1 w_11.2.1 w_11.2.2.2.2.1 w_11.2.2.2.2.2.1 (by omega) (by omega) hba hbb st2.2) (by omega) (by omega) (by omega) (by omega) _ _ hP hD hS ls (lv_sub hl [0, 1, 2, 3, 4, 5] rfl)
        · have w_3 : (¬ (ff i.toNatClampNeg).toInt = nxt.toInt ∨ p1.toInt < (ft i.toNatClampNeg).toInt) := w_3
          refine lv_if_eq (tgt := 55) hx hb dX2_gather_28 (by decide) (fun c_20 => ?_) (fun c_20 => ?_)
          · obtain ⟨x_21, ex_21⟩ : ∃ y : Int32, y = i + 1 := ⟨_, rfl⟩
            have i_21 : x_21.toInt = i.toInt + 1 := ki_add ex_21 rfl rfl (by omega) (by omega)
            refine lv_iinc (v := x_21) (lv' := [(5, .int x_21), (4, .int nxt), (0, .ref q_t), (1, .ref h0), (2, .int p0), (3, .int p1)]) hx hb dX2_gather_55 hl (k := 0) rfl (by rw [ex_21]; rfl) (by decide) rfl (fun ls hl => ?_)
            refine lv_goto (tgt := 10) hx hb dX2_gather_58 (by decide) ?_
            have n_22 := ki_nat x_21 rfl (by omega)
            have st2 : mj_pb ff ft p0.toInt p1.toInt x_21.toNatClampNeg = mj_pb ff ft p0.toInt p1.toInt i.toNatClampNeg ∧ mj_pq ff ft p0.toInt p1.toInt x_21.toNatClampNeg = mj_pq ff ft p0.toInt p1.toInt i.toNatClampNeg := mj_pbq_no (fun h => by unfold mj_isp at h; omega) (by omega)
            exact ih1 x_21 nxt zz zl zb yv yn (by omega) (by omega) (by rw [st2.1]; omega) (by rw [st2.2]; exact LP1_h3) (by omega) (by omega) (by omega) (by omega) _ _ hP hD hS ls (lv_sub hl [0, 1, 2, 3, 4, 5] rfl)
          · exact absurd c_20 (by decide)
  have k_23 : (0 : Int32).toInt = 0 := rfl
  have k_24 : (0 : Int32).toInt = 0 := rfl
  have k_25 : (0 : Int32).toInt = 0 := rfl
  have k_26 : (0 : Int32).toInt = 0 := rfl
  exact LP1 ((nodes.toInt - 0 : Int).toNat + 1) 0 p0 0 0 0 fv fn (by omega) (by omega) rfl (mj_GA_0 _ _ _ _ _ _ _ _ _ _ _ rfl) (by omega) (by omega) (by omega) (Nat.lt_succ_self _) _ _ hP hD hS ls (lv_sub hl [0, 1, 2, 3, 4, 5] rfl)


