def mj_sm (fs fo uv un fs2 fo2 uv2 un2 : Nat → Int32) (k : Nat) : Prop := fs2 k = fs k ∧ fo2 k = fo k ∧ ∀ i : Nat, i < (fs2 k).toNatClampNeg → uv2 (6 * k + i) = uv (6 * k + i) ∧ un2 (6 * k + i) = un (6 * k + i)
noncomputable def mj_dN (P : Nat → Prop) (k : Nat) : Nat := @ite Nat (P k) (Classical.propDecidable _) 0 1
theorem mj_dN_yes {P : Nat → Prop} {k : Nat} (h : P k) : mj_dN P k = 0 := by unfold mj_dN; exact if_pos h
theorem mj_dN_no {P : Nat → Prop} {k : Nat} (h : ¬ P k) : mj_dN P k = 1 := by unfold mj_dN; exact if_neg h
theorem mj_dN_eq {P Q : Nat → Prop} {k : Nat} (h : P k ↔ Q k) : mj_dN P k = mj_dN Q k := by
  by_cases c : P k
  · rw [mj_dN_yes c, mj_dN_yes (h.mp c)]
  · rw [mj_dN_no c, mj_dN_no (fun q => c (h.mpr q))]
theorem mj_dN_le (P : Nat → Prop) (k : Nat) : mj_dN P k ≤ 1 := by
  by_cases c : P k
  · rw [mj_dN_yes c]; omega
  · rw [mj_dN_no c]; omega
noncomputable def mj_up (P : Nat → Prop) : Nat → Nat → Nat
  | _, 0 => 0
  | b, n + 1 => mj_up P (b + 1) n + mj_dN P b
noncomputable def mj_dn (P : Nat → Prop) : Nat → Nat
  | 0 => 0
  | n + 1 => mj_dn P n + mj_dN P n
theorem mj_dn_z {P : Nat → Prop} : (0 : Int32).toInt = ((mj_dn P (0 : Int32).toNatClampNeg : Nat) : Int) := by
  have e : (0 : Int32).toNatClampNeg = 0 := rfl
  have z : (0 : Int32).toInt = 0 := rfl
  have d : mj_dn P 0 = 0 := rfl
  rw [e, z, d]
  rfl
theorem mj_up_dn (P : Nat → Prop) : ∀ (n b : Nat), mj_up P b n + mj_dn P b = mj_dn P (b + n)
  | 0, b => by
    simp only [mj_up]
    rw [Nat.zero_add, Nat.add_zero]
  | n + 1, b => by
    have h := mj_up_dn P n (b + 1)
    have e : mj_dn P (b + 1) = mj_dn P b + mj_dN P b := rfl
    rw [e] at h
    rw [show b + (n + 1) = b + 1 + n by omega, ← h]
    simp only [mj_up]
    omega
theorem mj_up_eq {P Q : Nat → Prop} : ∀ (n b : Nat), (∀ k : Nat, b ≤ k → k < b + n → (P k ↔ Q k)) → mj_up P b n = mj_up Q b n
  | 0, _, _ => rfl
  | n + 1, b, h => by
    simp only [mj_up]
    rw [mj_up_eq n (b + 1) (fun k h1 h2 => h k (by omega) (by omega)), mj_dN_eq (h b (Nat.le_refl b) (by omega))]
theorem mj_dn_eq {P Q : Nat → Prop} : ∀ (n : Nat), (∀ k : Nat, k < n → (P k ↔ Q k)) → mj_dn P n = mj_dn Q n
  | 0, _ => rfl
  | n + 1, h => by
    simp only [mj_dn]
    rw [mj_dn_eq n (fun k h1 => h k (by omega)), mj_dN_eq (h n (by omega))]
theorem mj_up_le (P : Nat → Prop) : ∀ (b n : Nat), mj_up P b n ≤ n
  | _, 0 => Nat.le_refl 0
  | b, n + 1 => by
    have h := mj_up_le P (b + 1) n
    have h2 := mj_dN_le P b
    simp only [mj_up]
    omega
theorem mj_dn_le (P : Nat → Prop) : ∀ (n : Nat), mj_dn P n ≤ n
  | 0 => Nat.le_refl 0
  | n + 1 => by
    have h := mj_dn_le P n
    have h2 := mj_dN_le P n
    simp only [mj_dn]
    omega
theorem mj_dn_yes {P : Nat → Prop} {k k2 : Nat} (e : k2 = k + 1) (h : P k) : mj_dn P k2 = mj_dn P k := by
  subst e
  simp only [mj_dn]
  rw [mj_dN_yes h, Nat.add_zero]
theorem mj_dn_no {P : Nat → Prop} {k k2 : Nat} (e : k2 = k + 1) (h : ¬ P k) : mj_dn P k2 = mj_dn P k + 1 := by
  subst e
  simp only [mj_dn]
  rw [mj_dN_no h]
theorem mj_up_skip {P : Nat → Prop} {b k n n2 : Nat} (hb : b = k + 1) (hn : n2 = n + 1) (h : P k) : mj_up P k n2 = mj_up P b n := by
  subst hb; subst hn
  simp only [mj_up]
  rw [mj_dN_yes h, Nat.add_zero]
theorem mj_up_put {P Q : Nat → Prop} {b k n n2 : Nat} (hb : b = k + 1) (hn : n2 = n + 1) (hq : ∀ j : Nat, b ≤ j → j < b + n → (P j ↔ Q j)) : mj_up Q k n2 = mj_up P b n + mj_dN Q k := by
  subst hb; subst hn
  simp only [mj_up]
  rw [mj_up_eq n (k + 1) hq]
theorem mj_sm_e1 {fs fo fe uv un fs2 fo2 fe2 uv2 un2 : Nat → Int32} {k : Nat} (h : mj_e1 fs fo fe uv un fs2 fo2 fe2 uv2 un2 k) (h6 : (fs2 k).toNatClampNeg ≤ 6) : mj_sm fs fo uv un fs2 fo2 uv2 un2 k := ⟨h.1, h.2.1, fun i hi => h.2.2.2 (6 * k + i) (by omega) (by omega)⟩
theorem mj_sm_ne {fs fo uv un fs2 fo2 uv2 un2 fs3 fo3 uv3 un3 : Nat → Int32} {j k : Nat} {js jl : Int32} (hne : ¬ j = k) (e1 : fs3 = upd fs2 k js) (e2 : fo3 = upd fo2 k jl) (w2 : ∀ q : Nat, (q < 6 * k ∨ 6 * k + 6 ≤ q) → uv3 q = uv2 q ∧ un3 q = un2 q) (h6 : (fs2 j).toNatClampNeg ≤ 6) : mj_sm fs fo uv un fs2 fo2 uv2 un2 j ↔ mj_sm fs fo uv un fs3 fo3 uv3 un3 j := by
  unfold mj_sm
  rw [e1, e2, upd_ne hne, upd_ne hne]
  constructor
  · rintro ⟨a, b, c⟩
    refine ⟨a, b, fun i hi => ?_⟩
    have x := w2 (6 * j + i) (by omega)
    rw [x.1, x.2]
    exact c i hi
  · rintro ⟨a, b, c⟩
    refine ⟨a, b, fun i hi => ?_⟩
    have x := w2 (6 * j + i) (by omega)
    rw [← x.1, ← x.2]
    exact c i hi
theorem mj_sm_at {fs fo fe uv un fs2 fo2 fe2 uv2 un2 fs3 fo3 uv3 un3 jv jn : Nat → Int32} {k : Nat} {js jl : Int32} (h1 : mj_e1 fs fo fe uv un fs2 fo2 fe2 uv2 un2 k) (e1 : fs3 = upd fs2 k js) (e2 : fo3 = upd fo2 k jl) (w : ∀ i : Nat, i < js.toNatClampNeg → uv3 (6 * k + i) = jv i ∧ un3 (6 * k + i) = jn i) (h6 : js.toNatClampNeg ≤ 6) : mj_sm fs fo uv un fs3 fo3 uv3 un3 k ↔ mj_sj fs2 fo2 uv2 un2 k js jl jv jn := by
  obtain ⟨a1, a2, -, a4⟩ := h1
  unfold mj_sm mj_sj
  rw [e1, e2, upd_at, upd_at]
  constructor
  · rintro ⟨b1, b2, b3⟩
    refine ⟨a1.trans b1.symm, a2.trans b2.symm, fun i hi => ?_⟩
    have x := a4 (6 * k + i) (by omega) (by omega)
    have y := w i hi
    have z := b3 i hi
    exact ⟨x.1.trans (z.1.symm.trans y.1), x.2.trans (z.2.symm.trans y.2)⟩
  · rintro ⟨b1, b2, b3⟩
    refine ⟨b1.symm.trans a1, b2.symm.trans a2, fun i hi => ?_⟩
    have x := a4 (6 * k + i) (by omega) (by omega)
    have y := w i hi
    have z := b3 i hi
    exact ⟨y.1.trans (z.1.symm.trans x.1), y.2.trans (z.2.symm.trans x.2)⟩
def mj_ks (wm wl wv wn fm fl vv vn : Nat → Int32) (k : Nat) : Prop := wm k = fm k ∧ wl k = fl k ∧ ∀ i : Nat, i < (fm k).toNatClampNeg → wv (6 * k + i) = vv (6 * k + i) ∧ wn (6 * k + i) = vn (6 * k + i)
theorem mj_sm_eqv {ff ft fs1 fo1 fe1 uv1 un1 nl1 nr1 fm1 fl1 ge1 vv1 vn1 fs2 fo2 fe2 uv2 un2 nl2 nr2 fm2 fl2 ge2 vv2 vn2 wm wl wv wn : Nat → Int32} {nd : Int} {k : Nat} (h1 : mj_eqv ff ft fs1 fo1 fe1 uv1 un1 nl1 nr1 fm1 fl1 ge1 vv1 vn1 nd) (h2 : mj_eqv ff ft fs2 fo2 fe2 uv2 un2 nl2 nr2 fm2 fl2 ge2 vv2 vn2 nd) (hw : mj_ks wm wl wv wn fm1 fl1 vv1 vn1 k) (hk : (k : Int) < nd) : mj_sm fs1 fo1 uv1 un1 fs2 fo2 uv2 un2 k ↔ mj_sm wm wl wv wn fm2 fl2 vv2 vn2 k := by
  obtain ⟨-, -, a3, a4, -, a6⟩ := h1 k hk
  obtain ⟨-, -, b3, b4, -, b6⟩ := h2 k hk
  obtain ⟨c1, c2, c3⟩ := hw
  unfold mj_sm
  constructor
  · rintro ⟨d1, d2, d3⟩
    refine ⟨by rw [← b3, d1, a3, c1], by rw [← b4, d2, a4, c2], fun i hi => ?_⟩
    have i1 : i < (fs2 k).toNatClampNeg := by rw [b3]; exact hi
    have i2 : i < (fs1 k).toNatClampNeg := by rw [← d1]; exact i1
    have x := a6 i i2
    have y := b6 i i1
    have z := c3 i (by rw [← a3]; exact i2)
    have u := d3 i i1
    exact ⟨by rw [← y.1, u.1, x.1, z.1], by rw [← y.2, u.2, x.2, z.2]⟩
  · rintro ⟨d1, d2, d3⟩
    refine ⟨by rw [b3, d1, c1, a3], by rw [b4, d2, c2, a4], fun i hi => ?_⟩
    have i1 : i < (fm2 k).toNatClampNeg := by rw [← b3]; exact hi
    have i2 : i < (fm1 k).toNatClampNeg := by rw [← c1, ← d1]; exact i1
    have x := a6 i (by rw [a3]; exact i2)
    have y := b6 i hi
    have z := c3 i i2
    have u := d3 i i1
    exact ⟨by rw [y.1, u.1, z.1, x.1], by rw [y.2, u.2, z.2, x.2]⟩

set_option maxHeartbeats 4000000 in
set_option maxRecDepth 100000 in
theorem c_X2_renew_y (l : Launch) (dC : Nat → ClassId) (dI : Nat → Nat → Nat) (q_t : Nat) (q_row : Nat) (q_joined : Nat) (q_from : Nat) (q_to : Nat) (q_size : Nat) (q_lossOf : Nat) (q_lessBy : Nat) (q_value : Nat) (q_number : Nat) (nodes : Int32) (here : Int32) (q_cell : Nat) (cyI : ClassId) (len : Int32) (f : Nat → Int32) (ff : Nat → Int32) (ft : Nat → Int32) (fs : Nat → Int32) (fo : Nat → Int32) (uv : Nat → Int32) (un : Nat → Int32) (fe : Nat → Int32) (j_v : Nat) (j_n : Nat) (js : Int32) (jl : Int32) (je : Int32) (jv : Nat → Int32) (jn : Nat → Int32) (p0 : Int32) (p1 : Int32) (sz : Nat) (b0 : 0 ≤ nodes.toInt) (c0 : nodes.toInt ≤ 319) (c1 : len.toInt ≤ 160) (s0 : sixes fs) (t0 : treeOk ff ft nodes.toInt len.toInt) (k0 : 1 ≤ here.toInt) (k1 : here.toInt ≤ 6) (hcr : mj_cr ff ft nodes.toInt) (hOld : ∀ k : Nat, (k : Int) < nodes.toInt → ¬ mj_hit ff ft p0.toInt p1.toInt k → mj_ok here.toNatClampNeg f ff ft fs fo fe uv un k) : Met l yX2_renew wsX2_renew ({ frames := 4, cells := 0, slots := 0, locals := 180 }) (va_Pc [.ref q_t, .int p0, .int p1] (fun U => U.heap.size = sz ∧ va_P (dC, dI) vwCl [kx_2 q_t q_row q_joined q_from q_to q_size q_lossOf q_lessBy q_value q_number nodes here, kx_0 q_row q_cell len, kx_a q_cell cyI 160 f, kx_a q_from cyI 319 ff, kx_a q_to cyI 319 ft, kx_a q_size cyI 319 fs, kx_a q_lossOf cyI 319 fo, kx_a q_lessBy cyI 319 fe, kx_a q_value cyI 1914 uv, kx_a q_number cyI 1914 un, kx_3 q_joined j_v j_n js jl je, kx_a j_v cyI 12 jv, kx_a j_n cyI 12 jn] U.heap ∧ va_K (dC, dI) vwCl [(cyI, .int)] U ∧ va_D (fun _ => True) [kx_2 q_t q_row q_joined q_from q_to q_size q_lossOf q_lessBy q_value q_number nodes here, kx_0 q_row q_cell len, kx_a q_cell cyI 160 f, kx_a q_from cyI 319 ff, kx_a q_to cyI 319 ft, kx_a q_size cyI 319 fs, kx_a q_lossOf cyI 319 fo, kx_a q_lessBy cyI 319 fe, kx_a q_value cyI 1914 uv, kx_a q_number cyI 1914 un, kx_3 q_joined j_v j_n js jl je, kx_a j_v cyI 12 jv, kx_a j_n cyI 12 jn])) (va_Qi (fun (r : Int32) (u : (Nat → Int32) × (Nat → Int32) × (Nat → Int32) × (Nat → Int32) × (Nat → Int32) × Int32 × Int32 × Int32 × (Nat → Int32) × (Nat → Int32)) => sixes u.1 ∧ (∀ k : Nat, (k : Int) < nodes.toInt → mj_ok here.toNatClampNeg f ff ft u.1 u.2.1 u.2.2.1 u.2.2.2.1 u.2.2.2.2.1 k) ∧ r.toInt = (mj_dn (mj_sm fs fo uv un u.1 u.2.1 u.2.2.2.1 u.2.2.2.2.1) nodes.toNatClampNeg : Int)) (fun (u : (Nat → Int32) × (Nat → Int32) × (Nat → Int32) × (Nat → Int32) × (Nat → Int32) × Int32 × Int32 × Int32 × (Nat → Int32) × (Nat → Int32)) (t : State) => va_P (dC, dI) vwCl [kx_2 q_t q_row q_joined q_from q_to q_size q_lossOf q_lessBy q_value q_number nodes here, kx_0 q_row q_cell len, kx_a q_cell cyI 160 f, kx_a q_from cyI 319 ff, kx_a q_to cyI 319 ft, kx_a q_size cyI 319 u.1, kx_a q_lossOf cyI 319 u.2.1, kx_a q_lessBy cyI 319 u.2.2.1, kx_a q_value cyI 1914 u.2.2.2.1, kx_a q_number cyI 1914 u.2.2.2.2.1, kx_3 q_joined j_v j_n u.2.2.2.2.2.1 u.2.2.2.2.2.2.1 u.2.2.2.2.2.2.2.1, kx_a j_v cyI 12 u.2.2.2.2.2.2.2.2.1, kx_a j_n cyI 12 u.2.2.2.2.2.2.2.2.2] t.heap ∧ va_K (dC, dI) vwCl [(cyI, .int)] t ∧ va_D (va_A [kx_2 q_t q_row q_joined q_from q_to q_size q_lossOf q_lessBy q_value q_number nodes here, kx_0 q_row q_cell len, kx_a q_cell cyI 160 f, kx_a q_from cyI 319 ff, kx_a q_to cyI 319 ft, kx_a q_size cyI 319 fs, kx_a q_lossOf cyI 319 fo, kx_a q_lessBy cyI 319 fe, kx_a q_value cyI 1914 uv, kx_a q_number cyI 1914 un, kx_3 q_joined j_v j_n js jl je, kx_a j_v cyI 12 jv, kx_a j_n cyI 12 jn] sz) [kx_2 q_t q_row q_joined q_from q_to q_size q_lossOf q_lessBy q_value q_number nodes here, kx_0 q_row q_cell len, kx_a q_cell cyI 160 f, kx_a q_from cyI 319 ff, kx_a q_to cyI 319 ft, kx_a q_size cyI 319 u.1, kx_a q_lossOf cyI 319 u.2.1, kx_a q_lessBy cyI 319 u.2.2.1, kx_a q_value cyI 1914 u.2.2.2.1, kx_a q_number cyI 1914 u.2.2.2.2.1, kx_3 q_joined j_v j_n u.2.2.2.2.2.1 u.2.2.2.2.2.2.1 u.2.2.2.2.2.2.2.1, kx_a j_v cyI 12 u.2.2.2.2.2.2.2.2.1, kx_a j_n cyI 12 u.2.2.2.2.2.2.2.2.2]) (va_A [kx_2 q_t q_row q_joined q_from q_to q_size q_lossOf q_lessBy q_value q_number nodes here, kx_0 q_row q_cell len, kx_a q_cell cyI 160 f, kx_a q_from cyI 319 ff, kx_a q_to cyI 319 ft, kx_a q_size cyI 319 fs, kx_a q_lossOf cyI 319 fo, kx_a q_lessBy cyI 319 fe, kx_a q_value cyI 1914 uv, kx_a q_number cyI 1914 un, kx_3 q_joined j_v j_n js jl je, kx_a j_v cyI 12 jv, kx_a j_n cyI 12 jn] sz)) 0 0 (va_A [kx_2 q_t q_row q_joined q_from q_to q_size q_lossOf q_lessBy q_value q_number nodes here, kx_0 q_row q_cell len, kx_a q_cell cyI 160 f, kx_a q_from cyI 319 ff, kx_a q_to cyI 319 ft, kx_a q_size cyI 319 fs, kx_a q_lossOf cyI 319 fo, kx_a q_lessBy cyI 319 fe, kx_a q_value cyI 1914 uv, kx_a q_number cyI 1914 un, kx_3 q_joined j_v j_n js jl je, kx_a j_v cyI 12 jv, kx_a j_n cyI 12 jn] sz) := by
  refine Met.ofW (cc := cX2_renew) (maxL := 5) (ret := (some .int)) (by decide) rfl ?_
  intro p e s m args below meth c s₁ B hml hv
  obtain ⟨rfl, hsz, hP, hK, hD0⟩ := hv
  have hx := B.exec
  have hb := B.bytes
  have hr := B.returns
  have hts := atoms_spec (ws := wsX2_renew) B.pre
  have hown : s.vm.findClass RX2 = some m.cls := findClass_of_methodNamed B.named
  have hlocks := B.notSynchronized
  subst hsz
  have hD := hD0.self (sz := s.heap.size)
  generalize hAe : va_A [kx_2 q_t q_row q_joined q_from q_to q_size q_lossOf q_lessBy q_value q_number nodes here, kx_0 q_row q_cell len, kx_a q_cell cyI 160 f, kx_a q_from cyI 319 ff, kx_a q_to cyI 319 ft, kx_a q_size cyI 319 fs, kx_a q_lossOf cyI 319 fo, kx_a q_lessBy cyI 319 fe, kx_a q_value cyI 1914 uv, kx_a q_number cyI 1914 un, kx_3 q_joined j_v j_n js jl je, kx_a j_v cyI 12 jv, kx_a j_n cyI 12 jn] s.heap.size = A at hD ⊢
  have hA : ∀ q : Nat, s.heap.size ≤ q → A q := fun q h => by rw [← hAe]; exact Or.inr h
  have hS : va_S A s.heap s.heap [] := va_S.rf
  have hP : va_P (dC, dI) vwCl [kx_2 q_t q_row q_joined q_from q_to q_size q_lossOf q_lessBy q_value q_number nodes here, kx_0 q_row q_cell len, kx_a q_cell cyI 160 f, kx_a q_from cyI 319 ff, kx_a q_to cyI 319 ft, kx_a q_size cyI 319 fs, kx_a q_lossOf cyI 319 fo, kx_a q_lessBy cyI 319 fe, kx_a q_value cyI 1914 uv, kx_a q_number cyI 1914 un, kx_3 q_joined j_v j_n js jl je, kx_a j_v cyI 12 jv, kx_a j_n cyI 12 jn] s.heap := hP
  have hl := lv_entry ([.ref q_t, .int p0, .int p1]) (n := 5) (Nat.le_of_ble_eq_true rfl)
  rw [lg_entry_eq]
  generalize (lg_sl ([.ref q_t, .int p0, .int p1]) ++ List.replicate (5 - (lg_sl ([.ref q_t, .int p0, .int p1])).length) Slot.unset).toArray = ls at hl ⊢
  have hl : lv_has ls 5 [(0, .ref q_t), (1, .int p0), (2, .int p1)] := hl
  have hf_50 := hts (.fieldLink RX2 50 "MajorityIndex$Tree" "nodes" "I") (List.mem_of_getElem? (i := 1) rfl)
  have hi_2 : ∀ w ∈ u_ws RX2 TX2 11, w ∈ wsX2_renew := fun w h => List.mem_cons_of_mem _ (List.mem_append_left _ (List.mem_append_left _ (List.mem_append_right _ h)))
  have hf_18 := hts (.fieldLink RX2 18 "MajorityIndex$Tree" "from" "[I") (List.mem_of_getElem? (i := 2) rfl)
  have hf_22 := hts (.fieldLink RX2 22 "MajorityIndex$Tree" "to" "[I") (List.mem_of_getElem? (i := 3) rfl)
  refine lv_iconst (v := 0) hx hb dX2_renew_0 (by decide) ?_
  refine lv_istore_n (lv' := [(3, .int 0), (0, .ref q_t), (1, .int p0), (2, .int p1)]) hx hb dX2_renew_1 rfl hl (by decide) rfl (fun ls hl => ?_)
  refine lv_aload_n hx hb dX2_renew_2 rfl (lv_at hl 1 rfl) ?_
  refine va_get (D := (dC, dI)) (ci := 2) (v := .int nodes) (C := RX2) (T := TX2) (N := 11) hx hb hts hi_2 hown hK hP 0 rfl rfl 9 (by decide) hf_50 (fun _ h9 => h9) rfl dX2_renew_3 ?_
  refine lv_iconst (v := 1) hx hb dX2_renew_6 (by decide) ?_
  refine lv_isub hx hb dX2_renew_7 ?_
  refine lv_topi (fun y_1 ey_1 => ?_)
  have i_1 : y_1.toInt = nodes.toInt - 1 := ki_sub ey_1 rfl rfl (om_90 b0) (om_91 c0)
  refine lv_istore (lv' := [(4, .int y_1), (3, .int 0), (0, .ref q_t), (1, .int p0), (2, .int p1)]) hx hb dX2_renew_8 hl (by decide) rfl (fun ls hl => ?_)
  have LP1 : ∀ (n : Nat) (oth : Int32) (i : Int32) (ks : Nat → Int32) (ko : Nat → Int32) (ke : Nat → Int32) (kv : Nat → Int32) (kn : Nat → Int32) (kj : Int32) (kl : Int32) (kb : Int32) (kjv : Nat → Int32) (kjn : Nat → Int32), (i.toInt < nodes.toInt) → (-1 ≤ i.toInt) → (mj_rn here.toNatClampNeg f ff ft fs fo fe uv un ks ko ke kv kn p0.toInt p1.toInt nodes.toInt (i.toInt + 1).toNat) → (sixes ks) → (oth.toInt = (mj_up (mj_sm fs fo uv un ks ko kv kn) (i.toInt + 1).toNat (nodes.toInt - 1 - i.toInt).toNat : Int)) → (i.toInt + 1).toNat < n → ∀ (H : Heap) (locs : List Loc), va_P (dC, dI) vwCl [kx_2 q_t q_row q_joined q_from q_to q_size q_lossOf q_lessBy q_value q_number nodes here, kx_0 q_row q_cell len, kx_a q_cell cyI 160 f, kx_a q_from cyI 319 ff, kx_a q_to cyI 319 ft, kx_a q_size cyI 319 ks, kx_a q_lossOf cyI 319 ko, kx_a q_lessBy cyI 319 ke, kx_a q_value cyI 1914 kv, kx_a q_number cyI 1914 kn, kx_3 q_joined j_v j_n kj kl kb, kx_a j_v cyI 12 kjv, kx_a j_n cyI 12 kjn] H → va_D A [kx_2 q_t q_row q_joined q_from q_to q_size q_lossOf q_lessBy q_value q_number nodes here, kx_0 q_row q_cell len, kx_a q_cell cyI 160 f, kx_a q_from cyI 319 ff, kx_a q_to cyI 319 ft, kx_a q_size cyI 319 ks, kx_a q_lossOf cyI 319 ko, kx_a q_lessBy cyI 319 ke, kx_a q_value cyI 1914 kv, kx_a q_number cyI 1914 kn, kx_3 q_joined j_v j_n kj kl kb, kx_a j_v cyI 12 kjv, kx_a j_n cyI 12 kjn] → va_S A s.heap H locs → ∀ (ls : Array Slot), lv_has ls 5 [(4, .int i), (3, .int oth), (0, .ref q_t), (1, .int p0), (2, .int p1)] → W p l e (headSpec wsX2_renew ({ frames := 4, cells := 0, slots := 0, locals := 180 })).room s m ([.ref q_t, .int p0, .int p1] : List Value).toArray below meth c H locs 0 0 (MQ below (va_Qi (fun (r : Int32) (u : (Nat → Int32) × (Nat → Int32) × (Nat → Int32) × (Nat → Int32) × (Nat → Int32) × Int32 × Int32 × Int32 × (Nat → Int32) × (Nat → Int32)) => sixes u.1 ∧ (∀ k : Nat, (k : Int) < nodes.toInt → mj_ok here.toNatClampNeg f ff ft u.1 u.2.1 u.2.2.1 u.2.2.2.1 u.2.2.2.2.1 k) ∧ r.toInt = (mj_dn (mj_sm fs fo uv un u.1 u.2.1 u.2.2.2.1 u.2.2.2.2.1) nodes.toNatClampNeg : Int)) (fun (u : (Nat → Int32) × (Nat → Int32) × (Nat → Int32) × (Nat → Int32) × (Nat → Int32) × Int32 × Int32 × Int32 × (Nat → Int32) × (Nat → Int32)) (t : State) => va_P (dC, dI) vwCl [kx_2 q_t q_row q_joined q_from q_to q_size q_lossOf q_lessBy q_value q_number nodes here, kx_0 q_row q_cell len, kx_a q_cell cyI 160 f, kx_a q_from cyI 319 ff, kx_a q_to cyI 319 ft, kx_a q_size cyI 319 u.1, kx_a q_lossOf cyI 319 u.2.1, kx_a q_lessBy cyI 319 u.2.2.1, kx_a q_value cyI 1914 u.2.2.2.1, kx_a q_number cyI 1914 u.2.2.2.2.1, kx_3 q_joined j_v j_n u.2.2.2.2.2.1 u.2.2.2.2.2.2.1 u.2.2.2.2.2.2.2.1, kx_a j_v cyI 12 u.2.2.2.2.2.2.2.2.1, kx_a j_n cyI 12 u.2.2.2.2.2.2.2.2.2] t.heap ∧ va_K (dC, dI) vwCl [(cyI, .int)] t ∧ va_D A [kx_2 q_t q_row q_joined q_from q_to q_size q_lossOf q_lessBy q_value q_number nodes here, kx_0 q_row q_cell len, kx_a q_cell cyI 160 f, kx_a q_from cyI 319 ff, kx_a q_to cyI 319 ft, kx_a q_size cyI 319 u.1, kx_a q_lossOf cyI 319 u.2.1, kx_a q_lessBy cyI 319 u.2.2.1, kx_a q_value cyI 1914 u.2.2.2.1, kx_a q_number cyI 1914 u.2.2.2.2.1, kx_3 q_joined j_v j_n u.2.2.2.2.2.1 u.2.2.2.2.2.2.1 u.2.2.2.2.2.2.2.1, kx_a j_v cyI 12 u.2.2.2.2.2.2.2.2.1, kx_a j_n cyI 12 u.2.2.2.2.2.2.2.2.2]) A) ([.ref q_t, .int p0, .int p1] : List Value).toArray s 0 0 A) (F0 m 10 ls []) := by
    intro n
    induction n with
    | zero => intro oth i ks ko ke kv kn kj kl kb kjv kjn LP1_h0 LP1_h1 LP1_h2 LP1_h3 LP1_h4 hn; exact absurd hn (Nat.not_lt_zero _)
    | succ n ih1 =>
      intro oth i ks ko ke kv kn kj kl kb kjv kjn LP1_h0 LP1_h1 LP1_h2 LP1_h3 LP1_h4 hn1 H locs hP hD hS ls hl
      have hle := mj_up_le (mj_sm fs fo uv un ks ko kv kn) (i.toInt + 1).toNat (nodes.toInt - 1 - i.toInt).toNat
      refine lv_iload hx hb dX2_renew_10 (lv_at hl 0 rfl) ?_
      refine lv_if_lt (tgt := 67) hx hb dX2_renew_12 (by decide) (fun c_2 => ?_) (fun c_2 => ?_)
      · have i_2 : i.toInt < 0 := kc_lt c_2
        refine lv_iload_n hx hb dX2_renew_67 rfl (lv_at hl 1 rfl) ?_
        have hP9 := hP
        have hD9 := hD
        have hK9 := hK
        have n_nd := ki_nat nodes rfl b0
        have h_u := mj_up_dn (mj_sm fs fo uv un ks ko kv kn) nodes.toNatClampNeg 0
        have h_z : mj_dn (mj_sm fs fo uv un ks ko kv kn) 0 = 0 := rfl
        rw [Nat.zero_add] at h_u
        have h_4 := LP1_h4
        rw [show (i.toInt + 1).toNat = 0 by omega, show (nodes.toInt - 1 - i.toInt).toNat = nodes.toNatClampNeg by omega] at h_4
        exact W.iret (v := oth) hx hb hr (fun t ht hW => ⟨⟨oth, (ks, ko, ke, kv, kn, kj, kl, kb, kjv, kjn), rfl, ⟨LP1_h3, (fun k hk => LP1_h2.1 k (by omega) hk), (by (try dsimp only); omega)⟩, by rw [ht]; exact hP9, va_K.moved hW.alike hK9, hD9⟩, hS.F ht⟩) hS.2.2 dX2_renew_68
      · have i_2 : 0 ≤ i.toInt := kc_nlt c_2
        have n_i := ki_nat i rfl (om_8 i_2)
        have n_h := ki_nat here rfl (om_44 k0)
        have hti := t0 i.toNatClampNeg (by omega)
        unfold okAt at hti
        refine lv_aload_n hx hb dX2_renew_15 rfl (lv_at hl 2 rfl) ?_
        refine va_get (D := (dC, dI)) (ci := 2) (v := .ref q_from) (C := RX2) (T := TX2) (N := 11) hx hb hts hi_2 hown hK hP 0 rfl rfl 2 (by decide) hf_18 (fun _ h9 => h9) rfl dX2_renew_16 ?_
        refine lv_iload hx hb dX2_renew_19 (lv_at hl 0 rfl) ?_
        refine va_iald hx hb hK hP 3 0 rfl rfl (ki_in (om_8 i_2) (om_92 c0 LP1_h0)) dX2_renew_21 ?_
        refine lv_topi (fun y_3 ey_3 => ?_)
        have j_3 : y_3.toInt = (ff i.toNatClampNeg).toInt := congrArg Int32.toInt ey_3
        refine lv_iload_n hx hb dX2_renew_22 rfl (lv_at hl 4 rfl) ?_
        refine lv_icmp_ge (tgt := 61) hx hb dX2_renew_23 (by decide) (fun c_4 => ?_) (fun c_4 => ?_)
        · have i_4 : p1.toInt ≤ y_3.toInt := kc_le c_4
          obtain ⟨x_5, ex_5⟩ : ∃ y : Int32, y = i + (-1) := ⟨_, rfl⟩
          have i_5 : x_5.toInt = i.toInt + (-1) := ki_add ex_5 rfl rfl (om_93 i_2) (om_94 c0 LP1_h0)
          refine lv_iinc (v := x_5) (lv' := [(4, .int x_5), (3, .int oth), (0, .ref q_t), (1, .int p0), (2, .int p1)]) hx hb dX2_renew_61 hl (k := 0) rfl (by rw [ex_5]; rfl) (by decide) rfl (fun ls hl => ?_)
          refine lv_goto (tgt := 10) hx hb dX2_renew_64 (by decide) ?_
          have h_6 := LP1_h3 i.toNatClampNeg (by omega)
          have n_6 := ki_nat (ks i.toNatClampNeg) rfl h_6.1
          exact ih1 oth x_5 ks ko ke kv kn kj kl kb kjv kjn (om_95 LP1_h0 i_5) (om_96 i_2 i_5) (by rw [show (x_5.toInt + 1).toNat = i.toNatClampNeg by omega]; exact mj_rn_skip LP1_h2 t0 hOld (by omega) (by omega) (fun h => by unfold mj_hit at h; omega)) LP1_h3 (by rw [show (x_5.toInt + 1).toNat = i.toNatClampNeg by omega, mj_up_skip (P := (mj_sm fs fo uv un ks ko kv kn)) (k := i.toNatClampNeg) (b := (i.toInt + 1).toNat) (n := (nodes.toInt - 1 - i.toInt).toNat) (by omega) (by omega) (mj_sm_e1 (LP1_h2.2 i.toNatClampNeg (by omega) (Or.inl (by omega))) (by omega))]; exact LP1_h4) (om_mu hn1 (om_97 i_5) (om_98 i_2)) _ _ hP hD hS ls (lv_sub hl [0, 1, 2, 3, 4] rfl)
        · have i_4 : y_3.toInt < p1.toInt := kc_nle c_4
          refine lv_iload_n hx hb dX2_renew_26 rfl (lv_at hl 3 rfl) ?_
          refine lv_aload_n hx hb dX2_renew_27 rfl (lv_at hl 2 rfl) ?_
          refine va_get (D := (dC, dI)) (ci := 2) (v := .ref q_to) (C := RX2) (T := TX2) (N := 11) hx hb hts hi_2 hown hK hP 0 rfl rfl 3 (by decide) hf_22 (fun _ h9 => h9) rfl dX2_renew_28 ?_
          refine lv_iload hx hb dX2_renew_31 (lv_at hl 0 rfl) ?_
          refine va_iald hx hb hK hP 4 0 rfl rfl (ki_in (om_8 i_2) (om_92 c0 LP1_h0)) dX2_renew_33 ?_
          refine lv_topi (fun y_6 ey_6 => ?_)
          have j_6 : y_6.toInt = (ft i.toNatClampNeg).toInt := congrArg Int32.toInt ey_6
          refine lv_icmp_ge (tgt := 61) hx hb dX2_renew_34 (by decide) (fun c_7 => ?_) (fun c_7 => ?_)
          · have i_7 : y_6.toInt ≤ p0.toInt := kc_le c_7
            obtain ⟨x_8, ex_8⟩ : ∃ y : Int32, y = i + (-1) := ⟨_, rfl⟩
            have i_8 : x_8.toInt = i.toInt + (-1) := ki_add ex_8 rfl rfl (om_93 i_2) (om_94 c0 LP1_h0)
            refine lv_iinc (v := x_8) (lv' := [(4, .int x_8), (3, .int oth), (0, .ref q_t), (1, .int p0), (2, .int p1)]) hx hb dX2_renew_61 hl (k := 0) rfl (by rw [ex_8]; rfl) (by decide) rfl (fun ls hl => ?_)
            refine lv_goto (tgt := 10) hx hb dX2_renew_64 (by decide) ?_
            have h_6 := LP1_h3 i.toNatClampNeg (by omega)
            have n_6 := ki_nat (ks i.toNatClampNeg) rfl h_6.1
            exact ih1 oth x_8 ks ko ke kv kn kj kl kb kjv kjn (om_95 LP1_h0 i_8) (om_96 i_2 i_8) (by rw [show (x_8.toInt + 1).toNat = i.toNatClampNeg by omega]; exact mj_rn_skip LP1_h2 t0 hOld (by omega) (by omega) (fun h => by unfold mj_hit at h; omega)) LP1_h3 (by rw [show (x_8.toInt + 1).toNat = i.toNatClampNeg by omega, mj_up_skip (P := (mj_sm fs fo uv un ks ko kv kn)) (k := i.toNatClampNeg) (b := (i.toInt + 1).toNat) (n := (nodes.toInt - 1 - i.toInt).toNat) (by omega) (by omega) (mj_sm_e1 (LP1_h2.2 i.toNatClampNeg (by omega) (Or.inl (by omega))) (by omega))]; exact LP1_h4) (om_mu hn1 (om_97 i_8) (om_98 i_2)) _ _ hP hD hS ls (lv_sub hl [0, 1, 2, 3, 4] rfl)
          · have i_7 : p0.toInt < y_6.toInt := kc_nle c_7
            have hch := mj_ch_of (K := here.toNatClampNeg) (f := f) (fs := ks) (fo := ko) (fe := ke) (uv := kv) (un := kn) t0 hcr (k := i.toNatClampNeg) (by omega) (fun j h1 h2 => LP1_h2.1 j (by omega) h2)
            refine lv_aload_n hx hb dX2_renew_37 rfl (lv_at hl 2 rfl) ?_
            refine lv_iload hx hb dX2_renew_38 (lv_at hl 0 rfl) ?_
            have hPc := hP.sub (ws' := [kx_2 q_t q_row q_joined q_from q_to q_size q_lossOf q_lessBy q_value q_number nodes here, kx_0 q_row q_cell len, kx_a q_cell cyI 160 f, kx_a q_from cyI 319 ff, kx_a q_to cyI 319 ft, kx_a q_size cyI 319 ks, kx_a q_lossOf cyI 319 ko, kx_a q_value cyI 1914 kv, kx_a q_number cyI 1914 kn, kx_3 q_joined j_v j_n kj kl kb, kx_a j_v cyI 12 kjv, kx_a j_n cyI 12 kjn]) [0, 1, 2, 3, 4, 5, 6, 8, 9, 10, 11, 12] rfl
            have hKc := hK
            have hDc := hD.sub (ws' := [kx_2 q_t q_row q_joined q_from q_to q_size q_lossOf q_lessBy q_value q_number nodes here, kx_0 q_row q_cell len, kx_a q_cell cyI 160 f, kx_a q_from cyI 319 ff, kx_a q_to cyI 319 ft, kx_a q_size cyI 319 ks, kx_a q_lossOf cyI 319 ko, kx_a q_value cyI 1914 kv, kx_a q_number cyI 1914 kn, kx_3 q_joined j_v j_n kj kl kb, kx_a j_v cyI 12 kjv, kx_a j_n cyI 12 kjn]) [0, 1, 2, 3, 4, 5, 6, 8, 9, 10, 11, 12] (by decide) rfl
            have hFc := va_free (wc := [kx_2 q_t q_row q_joined q_from q_to q_size q_lossOf q_lessBy q_value q_number nodes here, kx_0 q_row q_cell len, kx_a q_cell cyI 160 f, kx_a q_from cyI 319 ff, kx_a q_to cyI 319 ft, kx_a q_size cyI 319 ks, kx_a q_lossOf cyI 319 ko, kx_a q_value cyI 1914 kv, kx_a q_number cyI 1914 kn, kx_3 q_joined j_v j_n kj kl kb, kx_a j_v cyI 12 kjv, kx_a j_n cyI 12 kjn]) hD hS hA [0, 1, 2, 3, 4, 5, 6, 8, 9, 10, 11, 12] rfl
            refine va_callv (va_runV (As := [.int i]) (rest := []) ⟨hx, hb, hml, hown, hts⟩ (c_X2_putTogether_x l dC dI q_t q_row q_joined q_from q_to q_size q_lossOf q_lessBy q_value q_number nodes here q_cell cyI len f ff ft ks ko kv kn ke j_v j_n kj kl kb kjv kjn i H.size i_2 LP1_h0 c0 c1 t0 k0 k1 hch) (cwV 1 hts gX2_renew_X2_putTogether rfl rfl rfl (by decide +kernel) ⟨Nat.le_of_ble_eq_true rfl, Nat.le_of_ble_eq_true rfl⟩) ⟨fun a U g mk q => by obtain ⟨q0, q1, qP, qK, qD⟩ := q; exact ⟨q0, q1, qP, va_K.moved (u := U) (U := U.calling g mk a) (Vm.Alike.refl U.vm) qK, qD⟩, va_recv hKc hPc (ci := 2) (q0 := 0) rfl rfl, fun U hU hW => ⟨rfl, by rw [hU], by rw [hU]; exact hPc, va_K.moved hW.alike hKc, hDc.weaken (fun _ _ _ _ => trivial)⟩⟩ rfl rfl hl.1 rfl (lv_room (Nat.le_of_ble_eq_true rfl)) dX2_renew_40 ⟨Nat.le_of_ble_eq_true rfl, Nat.le_of_ble_eq_true rfl⟩) hS (fun q _ h => hFc q h) hFc (fun u t H1 locs ht hvm w_9 hB hz1 hk1 hS => ?_)
            obtain ⟨o_10, o_11, o_12, o_13, o_14, o_15⟩ := u
            dsimp only at w_9 hB
            obtain ⟨hP1, hK1, hD1⟩ := hB
            rw [ht] at hP1
            have hK1 := va_K.moved hvm.symm hK1
            obtain ⟨hP, hD⟩ := va_join (wr := [kx_a q_lessBy cyI 319 ke]) (w1 := [kx_2 q_t q_row q_joined q_from q_to q_size q_lossOf q_lessBy q_value q_number nodes here, kx_0 q_row q_cell len, kx_a q_cell cyI 160 f, kx_a q_from cyI 319 ff, kx_a q_to cyI 319 ft, kx_a q_size cyI 319 ks, kx_a q_lossOf cyI 319 ko, kx_a q_value cyI 1914 kv, kx_a q_number cyI 1914 kn, kx_3 q_joined j_v j_n o_10 o_11 o_12, kx_a j_v cyI 12 o_13, kx_a j_n cyI 12 o_14]) hP hD [0, 1, 2, 3, 4, 5, 6, 8, 9, 10, 11, 12] [7] rfl rfl (by decide) (by decide) hk1 hFc hP1 hD1
            clear hP1 hD1 hK1 hk1 hz1 hFc hDc hPc hKc
            generalize H1 = H at hP hS ⊢
            have hP : va_P (dC, dI) vwCl [kx_a q_lessBy cyI 319 ke, kx_2 q_t q_row q_joined q_from q_to q_size q_lossOf q_lessBy q_value q_number nodes here, kx_0 q_row q_cell len, kx_a q_cell cyI 160 f, kx_a q_from cyI 319 ff, kx_a q_to cyI 319 ft, kx_a q_size cyI 319 ks, kx_a q_lossOf cyI 319 ko, kx_a q_value cyI 1914 kv, kx_a q_number cyI 1914 kn, kx_3 q_joined j_v j_n o_10 o_11 o_12, kx_a j_v cyI 12 o_13, kx_a j_n cyI 12 o_14] H := hP
            have hD : va_D A [kx_a q_lessBy cyI 319 ke, kx_2 q_t q_row q_joined q_from q_to q_size q_lossOf q_lessBy q_value q_number nodes here, kx_0 q_row q_cell len, kx_a q_cell cyI 160 f, kx_a q_from cyI 319 ff, kx_a q_to cyI 319 ft, kx_a q_size cyI 319 ks, kx_a q_lossOf cyI 319 ko, kx_a q_value cyI 1914 kv, kx_a q_number cyI 1914 kn, kx_3 q_joined j_v j_n o_10 o_11 o_12, kx_a j_v cyI 12 o_13, kx_a j_n cyI 12 o_14] := hD
            have w_9 : mj_jn here.toNatClampNeg f ff ft ks ko ke kv kn i.toNatClampNeg o_15 o_11 o_12 ∧ mj_vs o_13 o_14 0 o_10.toNatClampNeg o_15 ∧ mj_srt o_13 o_14 0 o_10.toNatClampNeg ∧ 0 ≤ o_10.toInt ∧ o_10.toInt ≤ here.toInt := w_9
            refine lv_aload_n hx hb dX2_renew_43 rfl (lv_at hl 2 rfl) ?_
            refine lv_iload hx hb dX2_renew_44 (lv_at hl 0 rfl) ?_
            have hPc := hP.sub (ws' := [kx_2 q_t q_row q_joined q_from q_to q_size q_lossOf q_lessBy q_value q_number nodes here, kx_a q_size cyI 319 ks, kx_a q_lossOf cyI 319 ko, kx_a q_value cyI 1914 kv, kx_a q_number cyI 1914 kn, kx_3 q_joined j_v j_n o_10 o_11 o_12, kx_a j_v cyI 12 o_13, kx_a j_n cyI 12 o_14]) [1, 6, 7, 8, 9, 10, 11, 12] rfl
            have hKc := hK
            refine vp_callSi (W.runV (As := [.int i]) (rest := []) ⟨hx, hb, hml, hown, hts⟩ (c_X2_isJoined_x l dC dI q_t q_row q_joined q_from q_to q_size q_lossOf q_lessBy q_value q_number nodes here cyI ks ko kv kn j_v j_n o_10 o_11 o_12 o_13 o_14 i i_2 (om_99 c0 LP1_h0) w_9.2.2.2.1 (om_332 k1 w_9.2.2.2.2)) (cwV 1 hts gX2_renew_X2_isJoined rfl rfl rfl (by decide +kernel) ⟨Nat.le_of_ble_eq_true rfl, Nat.le_of_ble_eq_true rfl⟩) ⟨fun a U g mk q => by obtain ⟨q0, qP, qK⟩ := q; exact ⟨q0, qP, va_K.moved (u := U) (U := U.calling g mk a) (Vm.Alike.refl U.vm) qK⟩, va_recv hKc hPc (ci := 2) (q0 := 0) rfl rfl, fun U hU hW => ⟨rfl, by rw [hU]; exact hPc, va_K.moved hW.alike hKc⟩⟩ rfl rfl hl.1 rfl (lv_room (Nat.le_of_ble_eq_true rfl)) dX2_renew_46 ⟨Nat.le_of_ble_eq_true rfl, Nat.le_of_ble_eq_true rfl⟩) (fun r_16 w_16 => ?_)
            rcases w_16 with ⟨rfl, w_16⟩ | ⟨rfl, w_16⟩
            · have w_16 : mj_sj ks ko kv kn i.toNatClampNeg o_10 o_11 o_13 o_14 := w_16
              refine lv_if_ne (tgt := 55) hx hb dX2_renew_49 (by decide) (fun c_17 => ?_) (fun c_17 => ?_)
              · refine lv_aload_n hx hb dX2_renew_55 rfl (lv_at hl 2 rfl) ?_
                refine lv_iload hx hb dX2_renew_56 (lv_at hl 0 rfl) ?_
                have hPc := hP.sub (ws' := [kx_2 q_t q_row q_joined q_from q_to q_size q_lossOf q_lessBy q_value q_number nodes here, kx_a q_size cyI 319 ks, kx_a q_lossOf cyI 319 ko, kx_a q_lessBy cyI 319 ke, kx_a q_value cyI 1914 kv, kx_a q_number cyI 1914 kn, kx_3 q_joined j_v j_n o_10 o_11 o_12, kx_a j_v cyI 12 o_13, kx_a j_n cyI 12 o_14]) [1, 6, 7, 0, 8, 9, 10, 11, 12] rfl
                have hKc := hK
                have hDc := hD.sub (ws' := [kx_2 q_t q_row q_joined q_from q_to q_size q_lossOf q_lessBy q_value q_number nodes here, kx_a q_size cyI 319 ks, kx_a q_lossOf cyI 319 ko, kx_a q_lessBy cyI 319 ke, kx_a q_value cyI 1914 kv, kx_a q_number cyI 1914 kn, kx_3 q_joined j_v j_n o_10 o_11 o_12, kx_a j_v cyI 12 o_13, kx_a j_n cyI 12 o_14]) [1, 6, 7, 0, 8, 9, 10, 11, 12] (by decide) rfl
                have hFc := va_free (wc := [kx_2 q_t q_row q_joined q_from q_to q_size q_lossOf q_lessBy q_value q_number nodes here, kx_a q_size cyI 319 ks, kx_a q_lossOf cyI 319 ko, kx_a q_lessBy cyI 319 ke, kx_a q_value cyI 1914 kv, kx_a q_number cyI 1914 kn, kx_3 q_joined j_v j_n o_10 o_11 o_12, kx_a j_v cyI 12 o_13, kx_a j_n cyI 12 o_14]) hD hS hA [1, 6, 7, 0, 8, 9, 10, 11, 12] rfl
                refine va_callv (va_runV (As := [.int i]) (rest := []) ⟨hx, hb, hml, hown, hts⟩ (c_X2_keepJoined_x l dC dI q_t q_row q_joined q_from q_to q_size q_lossOf q_lessBy q_value q_number nodes here cyI ks ko kv kn ke j_v j_n o_10 o_11 o_12 o_13 o_14 i H.size i_2 (om_99 c0 LP1_h0) w_9.2.2.2.1 (om_332 k1 w_9.2.2.2.2)) (cwV 1 hts gX2_renew_X2_keepJoined rfl rfl rfl (by decide +kernel) ⟨Nat.le_of_ble_eq_true rfl, Nat.le_of_ble_eq_true rfl⟩) ⟨fun a U g mk q => by obtain ⟨q0, q1, qP, qK, qD⟩ := q; exact ⟨q0, q1, qP, va_K.moved (u := U) (U := U.calling g mk a) (Vm.Alike.refl U.vm) qK, qD⟩, va_recv hKc hPc (ci := 2) (q0 := 0) rfl rfl, fun U hU hW => ⟨rfl, by rw [hU], by rw [hU]; exact hPc, va_K.moved hW.alike hKc, hDc.weaken (fun _ _ _ _ => trivial)⟩⟩ rfl rfl hl.1 rfl (lv_room (Nat.le_of_ble_eq_true rfl)) dX2_renew_58 ⟨Nat.le_of_ble_eq_true rfl, Nat.le_of_ble_eq_true rfl⟩) hS (fun q _ h => hFc q h) hFc (fun u t H1 locs ht hvm w_18 hB hz1 hk1 hS => ?_)
                obtain ⟨o_19, o_20, o_21, o_22, o_23⟩ := u
                dsimp only at w_18 hB
                obtain ⟨hP1, hK1, hD1⟩ := hB
                rw [ht] at hP1
                have hK1 := va_K.moved hvm.symm hK1
                obtain ⟨hP, hD⟩ := va_join (wr := [kx_0 q_row q_cell len, kx_a q_cell cyI 160 f, kx_a q_from cyI 319 ff, kx_a q_to cyI 319 ft]) (w1 := [kx_2 q_t q_row q_joined q_from q_to q_size q_lossOf q_lessBy q_value q_number nodes here, kx_a q_size cyI 319 o_19, kx_a q_lossOf cyI 319 o_20, kx_a q_lessBy cyI 319 o_21, kx_a q_value cyI 1914 o_22, kx_a q_number cyI 1914 o_23, kx_3 q_joined j_v j_n o_10 o_11 o_12, kx_a j_v cyI 12 o_13, kx_a j_n cyI 12 o_14]) hP hD [1, 6, 7, 0, 8, 9, 10, 11, 12] [2, 3, 4, 5] rfl rfl (by decide) (by decide) hk1 hFc hP1 hD1
                clear hP1 hD1 hK1 hk1 hz1 hFc hDc hPc hKc
                generalize H1 = H at hP hS ⊢
                have hP : va_P (dC, dI) vwCl [kx_0 q_row q_cell len, kx_a q_cell cyI 160 f, kx_a q_from cyI 319 ff, kx_a q_to cyI 319 ft, kx_2 q_t q_row q_joined q_from q_to q_size q_lossOf q_lessBy q_value q_number nodes here, kx_a q_size cyI 319 o_19, kx_a q_lossOf cyI 319 o_20, kx_a q_lessBy cyI 319 o_21, kx_a q_value cyI 1914 o_22, kx_a q_number cyI 1914 o_23, kx_3 q_joined j_v j_n o_10 o_11 o_12, kx_a j_v cyI 12 o_13, kx_a j_n cyI 12 o_14] H := hP
                have hD : va_D A [kx_0 q_row q_cell len, kx_a q_cell cyI 160 f, kx_a q_from cyI 319 ff, kx_a q_to cyI 319 ft, kx_2 q_t q_row q_joined q_from q_to q_size q_lossOf q_lessBy q_value q_number nodes here, kx_a q_size cyI 319 o_19, kx_a q_lossOf cyI 319 o_20, kx_a q_lessBy cyI 319 o_21, kx_a q_value cyI 1914 o_22, kx_a q_number cyI 1914 o_23, kx_3 q_joined j_v j_n o_10 o_11 o_12, kx_a j_v cyI 12 o_13, kx_a j_n cyI 12 o_14] := hD
                have w_18 : o_19 = upd ks i.toNatClampNeg o_10 ∧ o_20 = upd ko i.toNatClampNeg o_11 ∧ o_21 = upd ke i.toNatClampNeg o_12 ∧ mj_kp o_13 o_14 kv kn o_22 o_23 i.toNatClampNeg o_10.toNatClampNeg := w_18
                obtain ⟨x_24, ex_24⟩ : ∃ y : Int32, y = i + (-1) := ⟨_, rfl⟩
                have i_24 : x_24.toInt = i.toInt + (-1) := ki_add ex_24 rfl rfl (om_93 i_2) (om_94 c0 LP1_h0)
                refine lv_iinc (v := x_24) (lv' := [(4, .int x_24), (3, .int oth), (0, .ref q_t), (1, .int p0), (2, .int p1)]) hx hb dX2_renew_61 hl (k := 0) rfl (by rw [ex_24]; rfl) (by decide) rfl (fun ls hl => ?_)
                refine lv_goto (tgt := 10) hx hb dX2_renew_64 (by decide) ?_
                have hP : va_P (dC, dI) vwCl [kx_2 q_t q_row q_joined q_from q_to q_size q_lossOf q_lessBy q_value q_number nodes here, kx_0 q_row q_cell len, kx_a q_cell cyI 160 f, kx_a q_from cyI 319 ff, kx_a q_to cyI 319 ft, kx_a q_size cyI 319 o_19, kx_a q_lossOf cyI 319 o_20, kx_a q_lessBy cyI 319 o_21, kx_a q_value cyI 1914 o_22, kx_a q_number cyI 1914 o_23, kx_3 q_joined j_v j_n o_10 o_11 o_12, kx_a j_v cyI 12 o_13, kx_a j_n cyI 12 o_14] _ := hP.sub [4, 0, 1, 2, 3, 5, 6, 7, 8, 9, 10, 11, 12] rfl
                have hD : va_D A [kx_2 q_t q_row q_joined q_from q_to q_size q_lossOf q_lessBy q_value q_number nodes here, kx_0 q_row q_cell len, kx_a q_cell cyI 160 f, kx_a q_from cyI 319 ff, kx_a q_to cyI 319 ft, kx_a q_size cyI 319 o_19, kx_a q_lossOf cyI 319 o_20, kx_a q_lessBy cyI 319 o_21, kx_a q_value cyI 1914 o_22, kx_a q_number cyI 1914 o_23, kx_3 q_joined j_v j_n o_10 o_11 o_12, kx_a j_v cyI 12 o_13, kx_a j_n cyI 12 o_14] := hD.sub [4, 0, 1, 2, 3, 5, 6, 7, 8, 9, 10, 11, 12] (by decide) rfl
                have okk := mj_jn_ok w_9.1 (by omega) (by omega) w_9.2.1 w_9.2.2.1 (by omega) (by omega) (by omega) w_18.1 w_18.2.1 w_18.2.2.1 w_18.2.2.2.1 w_18.2.2.2.2
                have n_js := ki_nat o_10 rfl (om_8 w_9.2.2.2.1)
                have h_if := mj_sm_at (LP1_h2.2 i.toNatClampNeg (by omega) (Or.inl (by omega))) w_18.1 w_18.2.1 w_18.2.2.2.1 (by omega)
                have st := mj_up_put (P := (mj_sm fs fo uv un ks ko kv kn)) (Q := (mj_sm fs fo uv un o_19 o_20 o_22 o_23)) (b := (i.toInt + 1).toNat) (k := i.toNatClampNeg) (n := (nodes.toInt - 1 - i.toInt).toNat) (n2 := (nodes.toInt - 1 - x_24.toInt).toNat) (by omega) (by omega) (fun j h1 h2 => mj_sm_ne (by omega) w_18.1 w_18.2.1 w_18.2.2.2.2 (by have h_6 := LP1_h3 j (by omega); have n_6 := ki_nat (ks j) rfl h_6.1; omega))
                exact ih1 oth x_24 o_19 o_20 o_21 o_22 o_23 o_10 o_11 o_12 o_13 o_14 (om_95 LP1_h0 i_24) (om_96 i_2 i_24) (by rw [show (x_24.toInt + 1).toNat = i.toNatClampNeg by omega]; exact mj_rn_put LP1_h2 (by omega) (by unfold mj_hit; omega) okk w_18.1 w_18.2.1 w_18.2.2.1 w_18.2.2.2.2) (by rw [w_18.1]; exact sixes_upd LP1_h3 (by omega) (by omega)) (by rw [show (x_24.toInt + 1).toNat = i.toNatClampNeg by omega, st, mj_dN_yes (P := (mj_sm fs fo uv un o_19 o_20 o_22 o_23)) (k := i.toNatClampNeg) (h_if.mpr w_16)]; omega) (om_mu hn1 (om_97 i_24) (om_98 i_2)) _ _ hP hD hS ls (lv_sub hl [0, 1, 2, 3, 4] rfl)
              · exact absurd c_17 (by decide)
            · have w_16 : ¬ mj_sj ks ko kv kn i.toNatClampNeg o_10 o_11 o_13 o_14 := w_16
              refine lv_if_ne (tgt := 55) hx hb dX2_renew_49 (by decide) (fun c_25 => ?_) (fun c_25 => ?_)
              · exact absurd c_25 (by decide)
              · obtain ⟨x_26, ex_26⟩ : ∃ y : Int32, y = oth + 1 := ⟨_, rfl⟩
                have i_26 : x_26.toInt = oth.toInt + 1 := ki_add ex_26 rfl rfl (by omega) (by omega)
                refine lv_iinc (v := x_26) (lv' := [(3, .int x_26), (4, .int i), (0, .ref q_t), (1, .int p0), (2, .int p1)]) hx hb dX2_renew_52 hl (k := 1) rfl (by rw [ex_26]; rfl) (by decide) rfl (fun ls hl => ?_)
                refine lv_aload_n hx hb dX2_renew_55 rfl (lv_at hl 2 rfl) ?_
                refine lv_iload hx hb dX2_renew_56 (lv_at hl 1 rfl) ?_
                have hPc := hP.sub (ws' := [kx_2 q_t q_row q_joined q_from q_to q_size q_lossOf q_lessBy q_value q_number nodes here, kx_a q_size cyI 319 ks, kx_a q_lossOf cyI 319 ko, kx_a q_lessBy cyI 319 ke, kx_a q_value cyI 1914 kv, kx_a q_number cyI 1914 kn, kx_3 q_joined j_v j_n o_10 o_11 o_12, kx_a j_v cyI 12 o_13, kx_a j_n cyI 12 o_14]) [1, 6, 7, 0, 8, 9, 10, 11, 12] rfl
                have hKc := hK
                have hDc := hD.sub (ws' := [kx_2 q_t q_row q_joined q_from q_to q_size q_lossOf q_lessBy q_value q_number nodes here, kx_a q_size cyI 319 ks, kx_a q_lossOf cyI 319 ko, kx_a q_lessBy cyI 319 ke, kx_a q_value cyI 1914 kv, kx_a q_number cyI 1914 kn, kx_3 q_joined j_v j_n o_10 o_11 o_12, kx_a j_v cyI 12 o_13, kx_a j_n cyI 12 o_14]) [1, 6, 7, 0, 8, 9, 10, 11, 12] (by decide) rfl
                have hFc := va_free (wc := [kx_2 q_t q_row q_joined q_from q_to q_size q_lossOf q_lessBy q_value q_number nodes here, kx_a q_size cyI 319 ks, kx_a q_lossOf cyI 319 ko, kx_a q_lessBy cyI 319 ke, kx_a q_value cyI 1914 kv, kx_a q_number cyI 1914 kn, kx_3 q_joined j_v j_n o_10 o_11 o_12, kx_a j_v cyI 12 o_13, kx_a j_n cyI 12 o_14]) hD hS hA [1, 6, 7, 0, 8, 9, 10, 11, 12] rfl
                refine va_callv (va_runV (As := [.int i]) (rest := []) ⟨hx, hb, hml, hown, hts⟩ (c_X2_keepJoined_x l dC dI q_t q_row q_joined q_from q_to q_size q_lossOf q_lessBy q_value q_number nodes here cyI ks ko kv kn ke j_v j_n o_10 o_11 o_12 o_13 o_14 i H.size i_2 (om_99 c0 LP1_h0) w_9.2.2.2.1 (om_332 k1 w_9.2.2.2.2)) (cwV 1 hts gX2_renew_X2_keepJoined rfl rfl rfl (by decide +kernel) ⟨Nat.le_of_ble_eq_true rfl, Nat.le_of_ble_eq_true rfl⟩) ⟨fun a U g mk q => by obtain ⟨q0, q1, qP, qK, qD⟩ := q; exact ⟨q0, q1, qP, va_K.moved (u := U) (U := U.calling g mk a) (Vm.Alike.refl U.vm) qK, qD⟩, va_recv hKc hPc (ci := 2) (q0 := 0) rfl rfl, fun U hU hW => ⟨rfl, by rw [hU], by rw [hU]; exact hPc, va_K.moved hW.alike hKc, hDc.weaken (fun _ _ _ _ => trivial)⟩⟩ rfl rfl hl.1 rfl (lv_room (Nat.le_of_ble_eq_true rfl)) dX2_renew_58 ⟨Nat.le_of_ble_eq_true rfl, Nat.le_of_ble_eq_true rfl⟩) hS (fun q _ h => hFc q h) hFc (fun u t H1 locs ht hvm w_27 hB hz1 hk1 hS => ?_)
                obtain ⟨o_28, o_29, o_30, o_31, o_32⟩ := u
                dsimp only at w_27 hB
                obtain ⟨hP1, hK1, hD1⟩ := hB
                rw [ht] at hP1
                have hK1 := va_K.moved hvm.symm hK1
                obtain ⟨hP, hD⟩ := va_join (wr := [kx_0 q_row q_cell len, kx_a q_cell cyI 160 f, kx_a q_from cyI 319 ff, kx_a q_to cyI 319 ft]) (w1 := [kx_2 q_t q_row q_joined q_from q_to q_size q_lossOf q_lessBy q_value q_number nodes here, kx_a q_size cyI 319 o_28, kx_a q_lossOf cyI 319 o_29, kx_a q_lessBy cyI 319 o_30, kx_a q_value cyI 1914 o_31, kx_a q_number cyI 1914 o_32, kx_3 q_joined j_v j_n o_10 o_11 o_12, kx_a j_v cyI 12 o_13, kx_a j_n cyI 12 o_14]) hP hD [1, 6, 7, 0, 8, 9, 10, 11, 12] [2, 3, 4, 5] rfl rfl (by decide) (by decide) hk1 hFc hP1 hD1
                clear hP1 hD1 hK1 hk1 hz1 hFc hDc hPc hKc
                generalize H1 = H at hP hS ⊢
                have hP : va_P (dC, dI) vwCl [kx_0 q_row q_cell len, kx_a q_cell cyI 160 f, kx_a q_from cyI 319 ff, kx_a q_to cyI 319 ft, kx_2 q_t q_row q_joined q_from q_to q_size q_lossOf q_lessBy q_value q_number nodes here, kx_a q_size cyI 319 o_28, kx_a q_lossOf cyI 319 o_29, kx_a q_lessBy cyI 319 o_30, kx_a q_value cyI 1914 o_31, kx_a q_number cyI 1914 o_32, kx_3 q_joined j_v j_n o_10 o_11 o_12, kx_a j_v cyI 12 o_13, kx_a j_n cyI 12 o_14] H := hP
                have hD : va_D A [kx_0 q_row q_cell len, kx_a q_cell cyI 160 f, kx_a q_from cyI 319 ff, kx_a q_to cyI 319 ft, kx_2 q_t q_row q_joined q_from q_to q_size q_lossOf q_lessBy q_value q_number nodes here, kx_a q_size cyI 319 o_28, kx_a q_lossOf cyI 319 o_29, kx_a q_lessBy cyI 319 o_30, kx_a q_value cyI 1914 o_31, kx_a q_number cyI 1914 o_32, kx_3 q_joined j_v j_n o_10 o_11 o_12, kx_a j_v cyI 12 o_13, kx_a j_n cyI 12 o_14] := hD
                have w_27 : o_28 = upd ks i.toNatClampNeg o_10 ∧ o_29 = upd ko i.toNatClampNeg o_11 ∧ o_30 = upd ke i.toNatClampNeg o_12 ∧ mj_kp o_13 o_14 kv kn o_31 o_32 i.toNatClampNeg o_10.toNatClampNeg := w_27
                obtain ⟨x_33, ex_33⟩ : ∃ y : Int32, y = i + (-1) := ⟨_, rfl⟩
                have i_33 : x_33.toInt = i.toInt + (-1) := ki_add ex_33 rfl rfl (om_93 i_2) (om_94 c0 LP1_h0)
                refine lv_iinc (v := x_33) (lv' := [(4, .int x_33), (3, .int x_26), (0, .ref q_t), (1, .int p0), (2, .int p1)]) hx hb dX2_renew_61 hl (k := 1) rfl (by rw [ex_33]; rfl) (by decide) rfl (fun ls hl => ?_)
                refine lv_goto (tgt := 10) hx hb dX2_renew_64 (by decide) ?_
                have hP : va_P (dC, dI) vwCl [kx_2 q_t q_row q_joined q_from q_to q_size q_lossOf q_lessBy q_value q_number nodes here, kx_0 q_row q_cell len, kx_a q_cell cyI 160 f, kx_a q_from cyI 319 ff, kx_a q_to cyI 319 ft, kx_a q_size cyI 319 o_28, kx_a q_lossOf cyI 319 o_29, kx_a q_lessBy cyI 319 o_30, kx_a q_value cyI 1914 o_31, kx_a q_number cyI 1914 o_32, kx_3 q_joined j_v j_n o_10 o_11 o_12, kx_a j_v cyI 12 o_13, kx_a j_n cyI 12 o_14] _ := hP.sub [4, 0, 1, 2, 3, 5, 6, 7, 8, 9, 10, 11, 12] rfl
                have hD : va_D A [kx_2 q_t q_row q_joined q_from q_to q_size q_lossOf q_lessBy q_value q_number nodes here, kx_0 q_row q_cell len, kx_a q_cell cyI 160 f, kx_a q_from cyI 319 ff, kx_a q_to cyI 319 ft, kx_a q_size cyI 319 o_28, kx_a q_lossOf cyI 319 o_29, kx_a q_lessBy cyI 319 o_30, kx_a q_value cyI 1914 o_31, kx_a q_number cyI 1914 o_32, kx_3 q_joined j_v j_n o_10 o_11 o_12, kx_a j_v cyI 12 o_13, kx_a j_n cyI 12 o_14] := hD.sub [4, 0, 1, 2, 3, 5, 6, 7, 8, 9, 10, 11, 12] (by decide) rfl
                have okk := mj_jn_ok w_9.1 (by omega) (by omega) w_9.2.1 w_9.2.2.1 (by omega) (by omega) (by omega) w_27.1 w_27.2.1 w_27.2.2.1 w_27.2.2.2.1 w_27.2.2.2.2
                have n_js := ki_nat o_10 rfl (om_8 w_9.2.2.2.1)
                have h_if := mj_sm_at (LP1_h2.2 i.toNatClampNeg (by omega) (Or.inl (by omega))) w_27.1 w_27.2.1 w_27.2.2.2.1 (by omega)
                have st := mj_up_put (P := (mj_sm fs fo uv un ks ko kv kn)) (Q := (mj_sm fs fo uv un o_28 o_29 o_31 o_32)) (b := (i.toInt + 1).toNat) (k := i.toNatClampNeg) (n := (nodes.toInt - 1 - i.toInt).toNat) (n2 := (nodes.toInt - 1 - x_33.toInt).toNat) (by omega) (by omega) (fun j h1 h2 => mj_sm_ne (by omega) w_27.1 w_27.2.1 w_27.2.2.2.2 (by have h_6 := LP1_h3 j (by omega); have n_6 := ki_nat (ks j) rfl h_6.1; omega))
                exact ih1 x_26 x_33 o_28 o_29 o_30 o_31 o_32 o_10 o_11 o_12 o_13 o_14 (om_95 LP1_h0 i_33) (om_96 i_2 i_33) (by rw [show (x_33.toInt + 1).toNat = i.toNatClampNeg by omega]; exact mj_rn_put LP1_h2 (by omega) (by unfold mj_hit; omega) okk w_27.1 w_27.2.1 w_27.2.2.1 w_27.2.2.2.2) (by rw [w_27.1]; exact sixes_upd LP1_h3 (by omega) (by omega)) (by rw [show (x_33.toInt + 1).toNat = i.toNatClampNeg by omega, st, mj_dN_no (P := (mj_sm fs fo uv un o_28 o_29 o_31 o_32)) (k := i.toNatClampNeg) (fun h => w_16 (h_if.mp h))]; omega) (om_mu hn1 (om_97 i_33) (om_98 i_2)) _ _ hP hD hS ls (lv_sub hl [0, 1, 2, 3, 4] rfl)
  have k_34 : (0 : Int32).toInt = 0 := rfl
  exact LP1 ((y_1.toInt + 1 : Int).toNat + 1) 0 y_1 fs fo fe uv un js jl je jv jn (om_100 i_1) (om_101 b0 i_1) (mj_rn_0 _ _ _ _ _ _ _ _ _ _ _ (by omega)) s0 (by rw [show (nodes.toInt - 1 - y_1.toInt).toNat = 0 by omega]; rfl) (Nat.lt_succ_self _) _ _ hP hD hS ls (lv_sub hl [0, 1, 2, 3, 4] rfl)

set_option maxHeartbeats 4000000 in
set_option maxRecDepth 100000 in
theorem c_X4_overwrite_y (l : Launch) (dC : Nat → ClassId) (dI : Nat → Nat → Nat) (m_ : Nat) (q_row : Nat) (q_t : Nat) (t_ : Nat) (h0 : Nat) (k0 : Nat) (w_ : Nat) (z_ : Nat) (slots : Int32) (old : Int32) (q_joined : Nat) (q_from : Nat) (q_to : Nat) (q_size : Nat) (q_lossOf : Nat) (q_lessBy : Nat) (q_value : Nat) (q_number : Nat) (nodes : Int32) (here : Int32) (q_cell : Nat) (cyI : ClassId) (len : Int32) (f : Nat → Int32) (ff : Nat → Int32) (ft : Nat → Int32) (fs : Nat → Int32) (fo : Nat → Int32) (uv : Nat → Int32) (un : Nat → Int32) (fe : Nat → Int32) (j_v : Nat) (j_n : Nat) (js : Int32) (jl : Int32) (je : Int32) (jv : Nat → Int32) (jn : Nat → Int32) (p0 : Int32) (p1 : Int32) (p2 : Int32) (sz : Nat) (b0 : 0 ≤ nodes.toInt) (c0 : nodes.toInt ≤ 319) (c1 : len.toInt ≤ 160) (s0 : sixes fs) (t0 : treeOk ff ft nodes.toInt len.toInt) (d0 : 0 ≤ p0.toInt) (d1 : p1.toInt ≤ 160) (d2 : p0.toInt < p1.toInt) (kh0 : 1 ≤ here.toInt) (kh1 : here.toInt ≤ 6) (hC : mj_C here.toNatClampNeg f ff ft fs fo fe uv un nodes.toInt len.toInt) : Met l yX4_overwrite wsX4_overwrite ({ frames := 5, cells := 0, slots := 0, locals := 225 }) (va_Pc [.ref m_, .ref q_t, .int p0, .int p1, .int p2] (fun U => U.heap.size = sz ∧ va_P (dC, dI) vwCl [kx_4 m_ q_row q_t t_ h0 k0 w_ z_ slots old, kx_2 q_t q_row q_joined q_from q_to q_size q_lossOf q_lessBy q_value q_number nodes here, kx_0 q_row q_cell len, kx_a q_cell cyI 160 f, kx_a q_from cyI 319 ff, kx_a q_to cyI 319 ft, kx_a q_size cyI 319 fs, kx_a q_lossOf cyI 319 fo, kx_a q_lessBy cyI 319 fe, kx_a q_value cyI 1914 uv, kx_a q_number cyI 1914 un, kx_3 q_joined j_v j_n js jl je, kx_a j_v cyI 12 jv, kx_a j_n cyI 12 jn] U.heap ∧ va_K (dC, dI) vwCl [(cyI, .int)] U ∧ va_D (fun _ => True) [kx_4 m_ q_row q_t t_ h0 k0 w_ z_ slots old, kx_2 q_t q_row q_joined q_from q_to q_size q_lossOf q_lessBy q_value q_number nodes here, kx_0 q_row q_cell len, kx_a q_cell cyI 160 f, kx_a q_from cyI 319 ff, kx_a q_to cyI 319 ft, kx_a q_size cyI 319 fs, kx_a q_lossOf cyI 319 fo, kx_a q_lessBy cyI 319 fe, kx_a q_value cyI 1914 uv, kx_a q_number cyI 1914 un, kx_3 q_joined j_v j_n js jl je, kx_a j_v cyI 12 jv, kx_a j_n cyI 12 jn])) (va_Qi (fun (r : Int32) (u : (Nat → Int32) × (Nat → Int32) × (Nat → Int32) × (Nat → Int32) × (Nat → Int32) × (Nat → Int32) × Int32 × Int32 × Int32 × (Nat → Int32) × (Nat → Int32)) => u.1 = mj_fill f p0.toNatClampNeg p1.toNatClampNeg p2 ∧ sixes u.2.1 ∧ mj_C here.toNatClampNeg u.1 ff ft u.2.1 u.2.2.1 u.2.2.2.1 u.2.2.2.2.1 u.2.2.2.2.2.1 nodes.toInt len.toInt ∧ r.toInt = (mj_dn (mj_sm fs fo uv un u.2.1 u.2.2.1 u.2.2.2.2.1 u.2.2.2.2.2.1) nodes.toNatClampNeg : Int)) (fun (u : (Nat → Int32) × (Nat → Int32) × (Nat → Int32) × (Nat → Int32) × (Nat → Int32) × (Nat → Int32) × Int32 × Int32 × Int32 × (Nat → Int32) × (Nat → Int32)) (t : State) => va_P (dC, dI) vwCl [kx_4 m_ q_row q_t t_ h0 k0 w_ z_ slots old, kx_2 q_t q_row q_joined q_from q_to q_size q_lossOf q_lessBy q_value q_number nodes here, kx_0 q_row q_cell len, kx_a q_cell cyI 160 u.1, kx_a q_from cyI 319 ff, kx_a q_to cyI 319 ft, kx_a q_size cyI 319 u.2.1, kx_a q_lossOf cyI 319 u.2.2.1, kx_a q_lessBy cyI 319 u.2.2.2.1, kx_a q_value cyI 1914 u.2.2.2.2.1, kx_a q_number cyI 1914 u.2.2.2.2.2.1, kx_3 q_joined j_v j_n u.2.2.2.2.2.2.1 u.2.2.2.2.2.2.2.1 u.2.2.2.2.2.2.2.2.1, kx_a j_v cyI 12 u.2.2.2.2.2.2.2.2.2.1, kx_a j_n cyI 12 u.2.2.2.2.2.2.2.2.2.2] t.heap ∧ va_K (dC, dI) vwCl [(cyI, .int)] t ∧ va_D (va_A [kx_4 m_ q_row q_t t_ h0 k0 w_ z_ slots old, kx_2 q_t q_row q_joined q_from q_to q_size q_lossOf q_lessBy q_value q_number nodes here, kx_0 q_row q_cell len, kx_a q_cell cyI 160 f, kx_a q_from cyI 319 ff, kx_a q_to cyI 319 ft, kx_a q_size cyI 319 fs, kx_a q_lossOf cyI 319 fo, kx_a q_lessBy cyI 319 fe, kx_a q_value cyI 1914 uv, kx_a q_number cyI 1914 un, kx_3 q_joined j_v j_n js jl je, kx_a j_v cyI 12 jv, kx_a j_n cyI 12 jn] sz) [kx_4 m_ q_row q_t t_ h0 k0 w_ z_ slots old, kx_2 q_t q_row q_joined q_from q_to q_size q_lossOf q_lessBy q_value q_number nodes here, kx_0 q_row q_cell len, kx_a q_cell cyI 160 u.1, kx_a q_from cyI 319 ff, kx_a q_to cyI 319 ft, kx_a q_size cyI 319 u.2.1, kx_a q_lossOf cyI 319 u.2.2.1, kx_a q_lessBy cyI 319 u.2.2.2.1, kx_a q_value cyI 1914 u.2.2.2.2.1, kx_a q_number cyI 1914 u.2.2.2.2.2.1, kx_3 q_joined j_v j_n u.2.2.2.2.2.2.1 u.2.2.2.2.2.2.2.1 u.2.2.2.2.2.2.2.2.1, kx_a j_v cyI 12 u.2.2.2.2.2.2.2.2.2.1, kx_a j_n cyI 12 u.2.2.2.2.2.2.2.2.2.2]) (va_A [kx_4 m_ q_row q_t t_ h0 k0 w_ z_ slots old, kx_2 q_t q_row q_joined q_from q_to q_size q_lossOf q_lessBy q_value q_number nodes here, kx_0 q_row q_cell len, kx_a q_cell cyI 160 f, kx_a q_from cyI 319 ff, kx_a q_to cyI 319 ft, kx_a q_size cyI 319 fs, kx_a q_lossOf cyI 319 fo, kx_a q_lessBy cyI 319 fe, kx_a q_value cyI 1914 uv, kx_a q_number cyI 1914 un, kx_3 q_joined j_v j_n js jl je, kx_a j_v cyI 12 jv, kx_a j_n cyI 12 jn] sz)) 0 0 (va_A [kx_4 m_ q_row q_t t_ h0 k0 w_ z_ slots old, kx_2 q_t q_row q_joined q_from q_to q_size q_lossOf q_lessBy q_value q_number nodes here, kx_0 q_row q_cell len, kx_a q_cell cyI 160 f, kx_a q_from cyI 319 ff, kx_a q_to cyI 319 ft, kx_a q_size cyI 319 fs, kx_a q_lossOf cyI 319 fo, kx_a q_lessBy cyI 319 fe, kx_a q_value cyI 1914 uv, kx_a q_number cyI 1914 un, kx_3 q_joined j_v j_n js jl je, kx_a j_v cyI 12 jv, kx_a j_n cyI 12 jn] sz) := by
  refine Met.ofW (cc := cX4_overwrite) (maxL := 6) (ret := (some .int)) (by decide) rfl ?_
  intro p e s m args below meth c s₁ B hml hv
  obtain ⟨rfl, hsz, hP, hK, hD0⟩ := hv
  have hx := B.exec
  have hb := B.bytes
  have hr := B.returns
  have hts := atoms_spec (ws := wsX4_overwrite) B.pre
  have hown : s.vm.findClass RX4 = some m.cls := findClass_of_methodNamed B.named
  have hlocks := B.notSynchronized
  subst hsz
  have hD := hD0.self (sz := s.heap.size)
  generalize hAe : va_A [kx_4 m_ q_row q_t t_ h0 k0 w_ z_ slots old, kx_2 q_t q_row q_joined q_from q_to q_size q_lossOf q_lessBy q_value q_number nodes here, kx_0 q_row q_cell len, kx_a q_cell cyI 160 f, kx_a q_from cyI 319 ff, kx_a q_to cyI 319 ft, kx_a q_size cyI 319 fs, kx_a q_lossOf cyI 319 fo, kx_a q_lessBy cyI 319 fe, kx_a q_value cyI 1914 uv, kx_a q_number cyI 1914 un, kx_3 q_joined j_v j_n js jl je, kx_a j_v cyI 12 jv, kx_a j_n cyI 12 jn] s.heap.size = A at hD ⊢
  have hA : ∀ q : Nat, s.heap.size ≤ q → A q := fun q h => by rw [← hAe]; exact Or.inr h
  have hS : va_S A s.heap s.heap [] := va_S.rf
  have hP : va_P (dC, dI) vwCl [kx_4 m_ q_row q_t t_ h0 k0 w_ z_ slots old, kx_2 q_t q_row q_joined q_from q_to q_size q_lossOf q_lessBy q_value q_number nodes here, kx_0 q_row q_cell len, kx_a q_cell cyI 160 f, kx_a q_from cyI 319 ff, kx_a q_to cyI 319 ft, kx_a q_size cyI 319 fs, kx_a q_lossOf cyI 319 fo, kx_a q_lessBy cyI 319 fe, kx_a q_value cyI 1914 uv, kx_a q_number cyI 1914 un, kx_3 q_joined j_v j_n js jl je, kx_a j_v cyI 12 jv, kx_a j_n cyI 12 jn] s.heap := hP
  have hl := lv_entry ([.ref m_, .ref q_t, .int p0, .int p1, .int p2]) (n := 6) (Nat.le_of_ble_eq_true rfl)
  rw [lg_entry_eq]
  generalize (lg_sl ([.ref m_, .ref q_t, .int p0, .int p1, .int p2]) ++ List.replicate (6 - (lg_sl ([.ref m_, .ref q_t, .int p0, .int p1, .int p2])).length) Slot.unset).toArray = ls at hl ⊢
  have hl : lv_has ls 6 [(0, .ref m_), (1, .ref q_t), (2, .int p0), (3, .int p1), (4, .int p2)] := hl
  have hf_12 := hts (.fieldLink RX4 12 "MajorityIndex" "row" "LMajorityIndex$Row;") (List.mem_of_getElem? (i := 1) rfl)
  have hi_4 : ∀ w ∈ u_ws RX4 TX4 9, w ∈ wsX4_overwrite := fun w h => List.mem_cons_of_mem _ (List.mem_append_left _ (List.mem_append_left _ (List.mem_append_left _ (List.mem_append_right _ h))))
  have hf_110 := hts (.fieldLink RX4 110 "MajorityIndex$Row" "cell" "[I") (List.mem_of_getElem? (i := 2) rfl)
  have hi_0 : ∀ w ∈ u_ws RX0 TX0 2, w ∈ wsX4_overwrite := fun w h => List.mem_cons_of_mem _ (List.mem_append_left _ (List.mem_append_left _ (List.mem_append_right _ h)))
  refine lv_iload_n hx hb dX4_overwrite_0 rfl (lv_at hl 2 rfl) ?_
  refine lv_istore (lv' := [(5, .int p0), (0, .ref m_), (1, .ref q_t), (2, .int p0), (3, .int p1), (4, .int p2)]) hx hb dX4_overwrite_1 hl (by decide) rfl (fun ls hl => ?_)
  have LP1 : ∀ (n : Nat) (i : Int32) (gc : Nat → Int32), (p0.toInt ≤ i.toInt) → (i.toInt ≤ p1.toInt) → (gc = mj_fill f p0.toNatClampNeg i.toNatClampNeg p2) → (p1.toInt - i.toInt).toNat < n → ∀ (H : Heap) (locs : List Loc), va_P (dC, dI) vwCl [kx_4 m_ q_row q_t t_ h0 k0 w_ z_ slots old, kx_2 q_t q_row q_joined q_from q_to q_size q_lossOf q_lessBy q_value q_number nodes here, kx_0 q_row q_cell len, kx_a q_cell cyI 160 gc, kx_a q_from cyI 319 ff, kx_a q_to cyI 319 ft, kx_a q_size cyI 319 fs, kx_a q_lossOf cyI 319 fo, kx_a q_lessBy cyI 319 fe, kx_a q_value cyI 1914 uv, kx_a q_number cyI 1914 un, kx_3 q_joined j_v j_n js jl je, kx_a j_v cyI 12 jv, kx_a j_n cyI 12 jn] H → va_D A [kx_4 m_ q_row q_t t_ h0 k0 w_ z_ slots old, kx_2 q_t q_row q_joined q_from q_to q_size q_lossOf q_lessBy q_value q_number nodes here, kx_0 q_row q_cell len, kx_a q_cell cyI 160 gc, kx_a q_from cyI 319 ff, kx_a q_to cyI 319 ft, kx_a q_size cyI 319 fs, kx_a q_lossOf cyI 319 fo, kx_a q_lessBy cyI 319 fe, kx_a q_value cyI 1914 uv, kx_a q_number cyI 1914 un, kx_3 q_joined j_v j_n js jl je, kx_a j_v cyI 12 jv, kx_a j_n cyI 12 jn] → va_S A s.heap H locs → ∀ (ls : Array Slot), lv_has ls 6 [(5, .int i), (0, .ref m_), (1, .ref q_t), (2, .int p0), (3, .int p1), (4, .int p2)] → W p l e (headSpec wsX4_overwrite ({ frames := 5, cells := 0, slots := 0, locals := 225 })).room s m ([.ref m_, .ref q_t, .int p0, .int p1, .int p2] : List Value).toArray below meth c H locs 0 0 (MQ below (va_Qi (fun (r : Int32) (u : (Nat → Int32) × (Nat → Int32) × (Nat → Int32) × (Nat → Int32) × (Nat → Int32) × (Nat → Int32) × Int32 × Int32 × Int32 × (Nat → Int32) × (Nat → Int32)) => u.1 = mj_fill f p0.toNatClampNeg p1.toNatClampNeg p2 ∧ sixes u.2.1 ∧ mj_C here.toNatClampNeg u.1 ff ft u.2.1 u.2.2.1 u.2.2.2.1 u.2.2.2.2.1 u.2.2.2.2.2.1 nodes.toInt len.toInt ∧ r.toInt = (mj_dn (mj_sm fs fo uv un u.2.1 u.2.2.1 u.2.2.2.2.1 u.2.2.2.2.2.1) nodes.toNatClampNeg : Int)) (fun (u : (Nat → Int32) × (Nat → Int32) × (Nat → Int32) × (Nat → Int32) × (Nat → Int32) × (Nat → Int32) × Int32 × Int32 × Int32 × (Nat → Int32) × (Nat → Int32)) (t : State) => va_P (dC, dI) vwCl [kx_4 m_ q_row q_t t_ h0 k0 w_ z_ slots old, kx_2 q_t q_row q_joined q_from q_to q_size q_lossOf q_lessBy q_value q_number nodes here, kx_0 q_row q_cell len, kx_a q_cell cyI 160 u.1, kx_a q_from cyI 319 ff, kx_a q_to cyI 319 ft, kx_a q_size cyI 319 u.2.1, kx_a q_lossOf cyI 319 u.2.2.1, kx_a q_lessBy cyI 319 u.2.2.2.1, kx_a q_value cyI 1914 u.2.2.2.2.1, kx_a q_number cyI 1914 u.2.2.2.2.2.1, kx_3 q_joined j_v j_n u.2.2.2.2.2.2.1 u.2.2.2.2.2.2.2.1 u.2.2.2.2.2.2.2.2.1, kx_a j_v cyI 12 u.2.2.2.2.2.2.2.2.2.1, kx_a j_n cyI 12 u.2.2.2.2.2.2.2.2.2.2] t.heap ∧ va_K (dC, dI) vwCl [(cyI, .int)] t ∧ va_D A [kx_4 m_ q_row q_t t_ h0 k0 w_ z_ slots old, kx_2 q_t q_row q_joined q_from q_to q_size q_lossOf q_lessBy q_value q_number nodes here, kx_0 q_row q_cell len, kx_a q_cell cyI 160 u.1, kx_a q_from cyI 319 ff, kx_a q_to cyI 319 ft, kx_a q_size cyI 319 u.2.1, kx_a q_lossOf cyI 319 u.2.2.1, kx_a q_lessBy cyI 319 u.2.2.2.1, kx_a q_value cyI 1914 u.2.2.2.2.1, kx_a q_number cyI 1914 u.2.2.2.2.2.1, kx_3 q_joined j_v j_n u.2.2.2.2.2.2.1 u.2.2.2.2.2.2.2.1 u.2.2.2.2.2.2.2.2.1, kx_a j_v cyI 12 u.2.2.2.2.2.2.2.2.2.1, kx_a j_n cyI 12 u.2.2.2.2.2.2.2.2.2.2]) A) ([.ref m_, .ref q_t, .int p0, .int p1, .int p2] : List Value).toArray s 0 0 A) (F0 m 3 ls []) := by
    intro n
    induction n with
    | zero => intro i gc LP1_h0 LP1_h1 LP1_h2 hn; exact absurd hn (Nat.not_lt_zero _)
    | succ n ih1 =>
      intro i gc LP1_h0 LP1_h1 LP1_h2 hn1 H locs hP hD hS ls hl
      have n_i := ki_nat i rfl (om_0 d0 LP1_h0)
      have n_p0 := ki_nat p0 rfl (om_8 d0)
      have n_p1 := ki_nat p1 rfl (om_18 d0 d2)
      refine lv_iload hx hb dX4_overwrite_3 (lv_at hl 0 rfl) ?_
      refine lv_iload_n hx hb dX4_overwrite_5 rfl (lv_at hl 4 rfl) ?_
      refine lv_icmp_ge (tgt := 27) hx hb dX4_overwrite_6 (by decide) (fun c_1 => ?_) (fun c_1 => ?_)
      · have i_1 : p1.toInt ≤ i.toInt := kc_le c_1
        refine lv_aload_n hx hb dX4_overwrite_27 rfl (lv_at hl 2 rfl) ?_
        refine lv_iload_n hx hb dX4_overwrite_28 rfl (lv_at hl 3 rfl) ?_
        refine lv_iload_n hx hb dX4_overwrite_29 rfl (lv_at hl 4 rfl) ?_
        have hPc := hP.sub (ws' := [kx_2 q_t q_row q_joined q_from q_to q_size q_lossOf q_lessBy q_value q_number nodes here, kx_0 q_row q_cell len, kx_a q_cell cyI 160 gc, kx_a q_from cyI 319 ff, kx_a q_to cyI 319 ft, kx_a q_size cyI 319 fs, kx_a q_lossOf cyI 319 fo, kx_a q_lessBy cyI 319 fe, kx_a q_value cyI 1914 uv, kx_a q_number cyI 1914 un, kx_3 q_joined j_v j_n js jl je, kx_a j_v cyI 12 jv, kx_a j_n cyI 12 jn]) [1, 2, 3, 4, 5, 6, 7, 8, 9, 10, 11, 12, 13] rfl
        have hKc := hK
        have hDc := hD.sub (ws' := [kx_2 q_t q_row q_joined q_from q_to q_size q_lossOf q_lessBy q_value q_number nodes here, kx_0 q_row q_cell len, kx_a q_cell cyI 160 gc, kx_a q_from cyI 319 ff, kx_a q_to cyI 319 ft, kx_a q_size cyI 319 fs, kx_a q_lossOf cyI 319 fo, kx_a q_lessBy cyI 319 fe, kx_a q_value cyI 1914 uv, kx_a q_number cyI 1914 un, kx_3 q_joined j_v j_n js jl je, kx_a j_v cyI 12 jv, kx_a j_n cyI 12 jn]) [1, 2, 3, 4, 5, 6, 7, 8, 9, 10, 11, 12, 13] (by decide) rfl
        have hFc := va_free (wc := [kx_2 q_t q_row q_joined q_from q_to q_size q_lossOf q_lessBy q_value q_number nodes here, kx_0 q_row q_cell len, kx_a q_cell cyI 160 gc, kx_a q_from cyI 319 ff, kx_a q_to cyI 319 ft, kx_a q_size cyI 319 fs, kx_a q_lossOf cyI 319 fo, kx_a q_lessBy cyI 319 fe, kx_a q_value cyI 1914 uv, kx_a q_number cyI 1914 un, kx_3 q_joined j_v j_n js jl je, kx_a j_v cyI 12 jv, kx_a j_n cyI 12 jn]) hD hS hA [1, 2, 3, 4, 5, 6, 7, 8, 9, 10, 11, 12, 13] rfl
        refine va_calli (va_runV (As := [.int p0, .int p1]) (rest := []) ⟨hx, hb, hml, hown, hts⟩ (c_X2_renew_y l dC dI q_t q_row q_joined q_from q_to q_size q_lossOf q_lessBy q_value q_number nodes here q_cell cyI len gc ff ft fs fo uv un fe j_v j_n js jl je jv jn p0 p1 H.size b0 c0 c1 s0 t0 kh0 kh1 hC.2.2.2.2.1 (mj_old hC.2.2.2.2.2.2 t0 (fun p hp => by rw [LP1_h2]; exact mj_fill_out (by omega)))) (cwV 2 hts gX4_overwrite_X2_renew rfl rfl rfl (by decide +kernel) ⟨Nat.le_of_ble_eq_true rfl, Nat.le_of_ble_eq_true rfl⟩) ⟨fun a U g mk q => by obtain ⟨q0, q1, qP, qK, qD⟩ := q; exact ⟨q0, q1, qP, va_K.moved (u := U) (U := U.calling g mk a) (Vm.Alike.refl U.vm) qK, qD⟩, va_recv hKc hPc (ci := 2) (q0 := 0) rfl rfl, fun U hU hW => ⟨rfl, by rw [hU], by rw [hU]; exact hPc, va_K.moved hW.alike hKc, hDc.weaken (fun _ _ _ _ => trivial)⟩⟩ rfl rfl hl.1 rfl (lv_room (Nat.le_of_ble_eq_true rfl)) dX4_overwrite_30 ⟨Nat.le_of_ble_eq_true rfl, Nat.le_of_ble_eq_true rfl⟩) hS (fun q _ h => hFc q h) hFc (fun r_2 u t H1 locs ht hvm w_2 hB hz1 hk1 hS => ?_)
        obtain ⟨o_3, o_4, o_5, o_6, o_7, o_8, o_9, o_10, o_11, o_12⟩ := u
        dsimp only at w_2 hB
        obtain ⟨hP1, hK1, hD1⟩ := hB
        rw [ht] at hP1
        have hK1 := va_K.moved hvm.symm hK1
        obtain ⟨hP, hD⟩ := va_join (wr := [kx_4 m_ q_row q_t t_ h0 k0 w_ z_ slots old]) (w1 := [kx_2 q_t q_row q_joined q_from q_to q_size q_lossOf q_lessBy q_value q_number nodes here, kx_0 q_row q_cell len, kx_a q_cell cyI 160 gc, kx_a q_from cyI 319 ff, kx_a q_to cyI 319 ft, kx_a q_size cyI 319 o_3, kx_a q_lossOf cyI 319 o_4, kx_a q_lessBy cyI 319 o_5, kx_a q_value cyI 1914 o_6, kx_a q_number cyI 1914 o_7, kx_3 q_joined j_v j_n o_8 o_9 o_10, kx_a j_v cyI 12 o_11, kx_a j_n cyI 12 o_12]) hP hD [1, 2, 3, 4, 5, 6, 7, 8, 9, 10, 11, 12, 13] [0] rfl rfl (by decide) (by decide) hk1 hFc hP1 hD1
        clear hP1 hD1 hK1 hk1 hz1 hFc hDc hPc hKc
        generalize H1 = H at hP hS ⊢
        have hP : va_P (dC, dI) vwCl [kx_4 m_ q_row q_t t_ h0 k0 w_ z_ slots old, kx_2 q_t q_row q_joined q_from q_to q_size q_lossOf q_lessBy q_value q_number nodes here, kx_0 q_row q_cell len, kx_a q_cell cyI 160 gc, kx_a q_from cyI 319 ff, kx_a q_to cyI 319 ft, kx_a q_size cyI 319 o_3, kx_a q_lossOf cyI 319 o_4, kx_a q_lessBy cyI 319 o_5, kx_a q_value cyI 1914 o_6, kx_a q_number cyI 1914 o_7, kx_3 q_joined j_v j_n o_8 o_9 o_10, kx_a j_v cyI 12 o_11, kx_a j_n cyI 12 o_12] H := hP
        have hD : va_D A [kx_4 m_ q_row q_t t_ h0 k0 w_ z_ slots old, kx_2 q_t q_row q_joined q_from q_to q_size q_lossOf q_lessBy q_value q_number nodes here, kx_0 q_row q_cell len, kx_a q_cell cyI 160 gc, kx_a q_from cyI 319 ff, kx_a q_to cyI 319 ft, kx_a q_size cyI 319 o_3, kx_a q_lossOf cyI 319 o_4, kx_a q_lessBy cyI 319 o_5, kx_a q_value cyI 1914 o_6, kx_a q_number cyI 1914 o_7, kx_3 q_joined j_v j_n o_8 o_9 o_10, kx_a j_v cyI 12 o_11, kx_a j_n cyI 12 o_12] := hD
        have w_2 : sixes o_3 ∧ (∀ k : Nat, (k : Int) < nodes.toInt → mj_ok here.toNatClampNeg gc ff ft o_3 o_4 o_5 o_6 o_7 k) ∧ r_2.toInt = (mj_dn (mj_sm fs fo uv un o_3 o_4 o_6 o_7) nodes.toNatClampNeg : Int) := w_2
        have hP9 := hP
        have hD9 := hD
        have hK9 := hK
        exact W.iret (v := r_2) hx hb hr (fun t ht hW => ⟨⟨r_2, (gc, o_3, o_4, o_5, o_6, o_7, o_8, o_9, o_10, o_11, o_12), rfl, ⟨(by (try dsimp only); rw [LP1_h2, show i.toNatClampNeg = p1.toNatClampNeg by omega]), w_2.1, mj_C_new hC w_2.2.1, w_2.2.2⟩, by rw [ht]; exact hP9, va_K.moved hW.alike hK9, hD9⟩, hS.F ht⟩) hS.2.2 dX4_overwrite_33
      · have i_1 : i.toInt < p1.toInt := kc_nle c_1
        refine lv_aload_n hx hb dX4_overwrite_9 rfl (lv_at hl 1 rfl) ?_
        refine va_get (D := (dC, dI)) (ci := 4) (v := .ref q_row) (C := RX4) (T := TX4) (N := 9) hx hb hts hi_4 hown hK hP 0 rfl rfl 0 (by decide) hf_12 (fun _ h9 => h9) rfl dX4_overwrite_10 ?_
        refine va_get (D := (dC, dI)) (ci := 0) (v := .ref q_cell) (C := RX0) (T := TX0) (N := 2) hx hb hts hi_0 hown hK hP 2 rfl rfl 0 (by decide) hf_110 (fun _ h9 => h9) rfl dX4_overwrite_13 ?_
        refine lv_iload hx hb dX4_overwrite_16 (lv_at hl 0 rfl) ?_
        refine lv_iload hx hb dX4_overwrite_18 (lv_at hl 5 rfl) ?_
        refine va_iast hx hb hK hP hD hS 3 0 rfl rfl (ki_in (om_0 d0 LP1_h0) (om_1 d1 i_1)) dX4_overwrite_20 (fun H locs hP hD hS => ?_)
        have hP : va_P (dC, dI) vwCl [kx_4 m_ q_row q_t t_ h0 k0 w_ z_ slots old, kx_2 q_t q_row q_joined q_from q_to q_size q_lossOf q_lessBy q_value q_number nodes here, kx_0 q_row q_cell len, kx_a q_cell cyI 160 (upd gc i.toNatClampNeg p2), kx_a q_from cyI 319 ff, kx_a q_to cyI 319 ft, kx_a q_size cyI 319 fs, kx_a q_lossOf cyI 319 fo, kx_a q_lessBy cyI 319 fe, kx_a q_value cyI 1914 uv, kx_a q_number cyI 1914 un, kx_3 q_joined j_v j_n js jl je, kx_a j_v cyI 12 jv, kx_a j_n cyI 12 jn] H := hP
        have hD : va_D A [kx_4 m_ q_row q_t t_ h0 k0 w_ z_ slots old, kx_2 q_t q_row q_joined q_from q_to q_size q_lossOf q_lessBy q_value q_number nodes here, kx_0 q_row q_cell len, kx_a q_cell cyI 160 (upd gc i.toNatClampNeg p2), kx_a q_from cyI 319 ff, kx_a q_to cyI 319 ft, kx_a q_size cyI 319 fs, kx_a q_lossOf cyI 319 fo, kx_a q_lessBy cyI 319 fe, kx_a q_value cyI 1914 uv, kx_a q_number cyI 1914 un, kx_3 q_joined j_v j_n js jl je, kx_a j_v cyI 12 jv, kx_a j_n cyI 12 jn] := hD
        obtain ⟨x_13, ex_13⟩ : ∃ y : Int32, y = i + 1 := ⟨_, rfl⟩
        have i_13 : x_13.toInt = i.toInt + 1 := ki_add ex_13 rfl rfl (om_2 d0 LP1_h0) (om_159 d1 LP1_h1)
        refine lv_iinc (v := x_13) (lv' := [(5, .int x_13), (0, .ref m_), (1, .ref q_t), (2, .int p0), (3, .int p1), (4, .int p2)]) hx hb dX4_overwrite_21 hl (k := 0) rfl (by rw [ex_13]; rfl) (by decide) rfl (fun ls hl => ?_)
        refine lv_goto (tgt := 3) hx hb dX4_overwrite_24 (by decide) ?_
        have n_14 := ki_nat x_13 rfl (om_70 d0 LP1_h0 i_13)
        exact ih1 x_13 (upd gc i.toNatClampNeg p2) (om_4 LP1_h0 i_13) (om_47 i_1 i_13) (by rw [LP1_h2]; exact mj_fill_step (by omega) (by omega)) (om_mu hn1 (om_5 i_13) (om_6 i_1)) _ _ hP hD hS ls (lv_sub hl [0, 1, 2, 3, 4, 5] rfl)
  exact LP1 ((p1.toInt - p0.toInt : Int).toNat + 1) p0 f om_7 (om_305 d2) (mj_fill_0 _ _ (Nat.le_refl _)).symm (Nat.lt_succ_self _) _ _ hP hD hS ls (lv_sub hl [0, 1, 2, 3, 4, 5] rfl)

set_option maxHeartbeats 4000000 in
set_option maxRecDepth 100000 in
theorem c_X4_set_Y (l : Launch) (dC : Nat → ClassId) (dI : Nat → Nat → Nat) (m_ : Nat) (q_row : Nat) (q_t : Nat) (t_ : Nat) (h0 : Nat) (k0 : Nat) (w_ : Nat) (z_ : Nat) (slots : Int32) (old : Int32) (q_joined : Nat) (q_from : Nat) (q_to : Nat) (q_size : Nat) (q_lossOf : Nat) (q_lessBy : Nat) (q_value : Nat) (q_number : Nat) (nodes : Int32) (here : Int32) (q_cell : Nat) (cyI : ClassId) (len : Int32) (f : Nat → Int32) (ff : Nat → Int32) (ft : Nat → Int32) (fs : Nat → Int32) (fo : Nat → Int32) (uv : Nat → Int32) (un : Nat → Int32) (fe : Nat → Int32) (j_v : Nat) (j_n : Nat) (js : Int32) (jl : Int32) (je : Int32) (jv : Nat → Int32) (jn : Nat → Int32) (p0 : Int32) (p1 : Int32) (sz : Nat) (a0 : 0 ≤ len.toInt) (a1 : len.toInt ≤ 160) (s0 : sixes fs) (sl0 : 1 ≤ slots.toInt) (sl1 : slots.toInt ≤ 6) (l0 : laidX old slots here f ff ft fs fo fe uv un nodes len) (s1 : shorts f) : Met l yX4_set wsX4_set ({ frames := 6, cells := 0, slots := 0, locals := 270 }) (va_Pc [.ref m_, .int p0, .int p1] (fun U => U.heap.size = sz ∧ va_P (dC, dI) vwCl [kx_4 m_ q_row q_t t_ h0 k0 w_ z_ slots old, kx_2 q_t q_row q_joined q_from q_to q_size q_lossOf q_lessBy q_value q_number nodes here, kx_0 q_row q_cell len, kx_a q_cell cyI 160 f, kx_a q_from cyI 319 ff, kx_a q_to cyI 319 ft, kx_a q_size cyI 319 fs, kx_a q_lossOf cyI 319 fo, kx_a q_lessBy cyI 319 fe, kx_a q_value cyI 1914 uv, kx_a q_number cyI 1914 un, kx_3 q_joined j_v j_n js jl je, kx_a j_v cyI 12 jv, kx_a j_n cyI 12 jn] U.heap ∧ va_K (dC, dI) vwCl [(cyI, .int)] U ∧ va_D (fun _ => True) [kx_4 m_ q_row q_t t_ h0 k0 w_ z_ slots old, kx_2 q_t q_row q_joined q_from q_to q_size q_lossOf q_lessBy q_value q_number nodes here, kx_0 q_row q_cell len, kx_a q_cell cyI 160 f, kx_a q_from cyI 319 ff, kx_a q_to cyI 319 ft, kx_a q_size cyI 319 fs, kx_a q_lossOf cyI 319 fo, kx_a q_lessBy cyI 319 fe, kx_a q_value cyI 1914 uv, kx_a q_number cyI 1914 un, kx_3 q_joined j_v j_n js jl je, kx_a j_v cyI 12 jv, kx_a j_n cyI 12 jn])) (va_Qi (fun (r : Int32) (u : Int32 × Int32 × Int32 × (Nat → Int32) × (Nat → Int32) × (Nat → Int32) × (Nat → Int32) × (Nat → Int32) × (Nat → Int32) × (Nat → Int32) × Int32 × Int32 × Int32 × (Nat → Int32) × (Nat → Int32) × (Nat → Int32) × (Nat → Int32) × (Nat → Int32) × (Nat → Int32) × (Nat → Int32) × (Nat → Int32)) => (((0 ≤ p0.toInt ∧ p0.toInt < len.toInt ∧ -32768 ≤ p1.toInt ∧ p1.toInt ≤ 32767) ∧ u.2.2.2.2.2.2.2.2.2.2.2.2.2.2.2.1 = upd f p0.toNatClampNeg p1 ∧ u.1.toInt = 0 ∧ mj_C slots.toNatClampNeg f u.2.2.2.1 u.2.2.2.2.1 u.2.2.2.2.2.2.2.2.2.2.2.2.2.2.2.2.1 u.2.2.2.2.2.2.2.2.2.2.2.2.2.2.2.2.2.1 u.2.2.2.2.2.2.2.2.2.2.2.2.2.2.2.2.2.2.1 u.2.2.2.2.2.2.2.2.2.2.2.2.2.2.2.2.2.2.2.1 u.2.2.2.2.2.2.2.2.2.2.2.2.2.2.2.2.2.2.2.2 u.2.1.toInt len.toInt ∧ r.toInt = (mj_dn (mj_sm u.2.2.2.2.2.2.2.2.2.2.2.2.2.2.2.2.1 u.2.2.2.2.2.2.2.2.2.2.2.2.2.2.2.2.2.1 u.2.2.2.2.2.2.2.2.2.2.2.2.2.2.2.2.2.2.2.1 u.2.2.2.2.2.2.2.2.2.2.2.2.2.2.2.2.2.2.2.2 u.2.2.2.2.2.1 u.2.2.2.2.2.2.1 u.2.2.2.2.2.2.2.2.1 u.2.2.2.2.2.2.2.2.2.1) u.2.1.toNatClampNeg : Int)) ∨ ((p0.toInt < 0 ∨ len.toInt ≤ p0.toInt ∨ p1.toInt < -32768 ∨ 32767 < p1.toInt) ∧ u.2.2.2.2.2.2.2.2.2.2.2.2.2.2.2.1 = f ∧ r = -1)) ∧ shorts u.2.2.2.2.2.2.2.2.2.2.2.2.2.2.2.1 ∧ laidX u.1 slots u.2.2.1 u.2.2.2.2.2.2.2.2.2.2.2.2.2.2.2.1 u.2.2.2.1 u.2.2.2.2.1 u.2.2.2.2.2.1 u.2.2.2.2.2.2.1 u.2.2.2.2.2.2.2.1 u.2.2.2.2.2.2.2.2.1 u.2.2.2.2.2.2.2.2.2.1 u.2.1 len ∧ sixes u.2.2.2.2.2.1) (fun (u : Int32 × Int32 × Int32 × (Nat → Int32) × (Nat → Int32) × (Nat → Int32) × (Nat → Int32) × (Nat → Int32) × (Nat → Int32) × (Nat → Int32) × Int32 × Int32 × Int32 × (Nat → Int32) × (Nat → Int32) × (Nat → Int32) × (Nat → Int32) × (Nat → Int32) × (Nat → Int32) × (Nat → Int32) × (Nat → Int32)) (t : State) => va_P (dC, dI) vwCl [kx_4 m_ q_row q_t t_ h0 k0 w_ z_ slots u.1, kx_2 q_t q_row q_joined q_from q_to q_size q_lossOf q_lessBy q_value q_number u.2.1 u.2.2.1, kx_0 q_row q_cell len, kx_a q_cell cyI 160 u.2.2.2.2.2.2.2.2.2.2.2.2.2.2.2.1, kx_a q_from cyI 319 u.2.2.2.1, kx_a q_to cyI 319 u.2.2.2.2.1, kx_a q_size cyI 319 u.2.2.2.2.2.1, kx_a q_lossOf cyI 319 u.2.2.2.2.2.2.1, kx_a q_lessBy cyI 319 u.2.2.2.2.2.2.2.1, kx_a q_value cyI 1914 u.2.2.2.2.2.2.2.2.1, kx_a q_number cyI 1914 u.2.2.2.2.2.2.2.2.2.1, kx_3 q_joined j_v j_n u.2.2.2.2.2.2.2.2.2.2.1 u.2.2.2.2.2.2.2.2.2.2.2.1 u.2.2.2.2.2.2.2.2.2.2.2.2.1, kx_a j_v cyI 12 u.2.2.2.2.2.2.2.2.2.2.2.2.2.1, kx_a j_n cyI 12 u.2.2.2.2.2.2.2.2.2.2.2.2.2.2.1] t.heap ∧ va_K (dC, dI) vwCl [(cyI, .int)] t ∧ va_D (va_A [kx_4 m_ q_row q_t t_ h0 k0 w_ z_ slots old, kx_2 q_t q_row q_joined q_from q_to q_size q_lossOf q_lessBy q_value q_number nodes here, kx_0 q_row q_cell len, kx_a q_cell cyI 160 f, kx_a q_from cyI 319 ff, kx_a q_to cyI 319 ft, kx_a q_size cyI 319 fs, kx_a q_lossOf cyI 319 fo, kx_a q_lessBy cyI 319 fe, kx_a q_value cyI 1914 uv, kx_a q_number cyI 1914 un, kx_3 q_joined j_v j_n js jl je, kx_a j_v cyI 12 jv, kx_a j_n cyI 12 jn] sz) [kx_4 m_ q_row q_t t_ h0 k0 w_ z_ slots u.1, kx_2 q_t q_row q_joined q_from q_to q_size q_lossOf q_lessBy q_value q_number u.2.1 u.2.2.1, kx_0 q_row q_cell len, kx_a q_cell cyI 160 u.2.2.2.2.2.2.2.2.2.2.2.2.2.2.2.1, kx_a q_from cyI 319 u.2.2.2.1, kx_a q_to cyI 319 u.2.2.2.2.1, kx_a q_size cyI 319 u.2.2.2.2.2.1, kx_a q_lossOf cyI 319 u.2.2.2.2.2.2.1, kx_a q_lessBy cyI 319 u.2.2.2.2.2.2.2.1, kx_a q_value cyI 1914 u.2.2.2.2.2.2.2.2.1, kx_a q_number cyI 1914 u.2.2.2.2.2.2.2.2.2.1, kx_3 q_joined j_v j_n u.2.2.2.2.2.2.2.2.2.2.1 u.2.2.2.2.2.2.2.2.2.2.2.1 u.2.2.2.2.2.2.2.2.2.2.2.2.1, kx_a j_v cyI 12 u.2.2.2.2.2.2.2.2.2.2.2.2.2.1, kx_a j_n cyI 12 u.2.2.2.2.2.2.2.2.2.2.2.2.2.2.1]) (va_A [kx_4 m_ q_row q_t t_ h0 k0 w_ z_ slots old, kx_2 q_t q_row q_joined q_from q_to q_size q_lossOf q_lessBy q_value q_number nodes here, kx_0 q_row q_cell len, kx_a q_cell cyI 160 f, kx_a q_from cyI 319 ff, kx_a q_to cyI 319 ft, kx_a q_size cyI 319 fs, kx_a q_lossOf cyI 319 fo, kx_a q_lessBy cyI 319 fe, kx_a q_value cyI 1914 uv, kx_a q_number cyI 1914 un, kx_3 q_joined j_v j_n js jl je, kx_a j_v cyI 12 jv, kx_a j_n cyI 12 jn] sz)) 0 0 (va_A [kx_4 m_ q_row q_t t_ h0 k0 w_ z_ slots old, kx_2 q_t q_row q_joined q_from q_to q_size q_lossOf q_lessBy q_value q_number nodes here, kx_0 q_row q_cell len, kx_a q_cell cyI 160 f, kx_a q_from cyI 319 ff, kx_a q_to cyI 319 ft, kx_a q_size cyI 319 fs, kx_a q_lossOf cyI 319 fo, kx_a q_lessBy cyI 319 fe, kx_a q_value cyI 1914 uv, kx_a q_number cyI 1914 un, kx_3 q_joined j_v j_n js jl je, kx_a j_v cyI 12 jv, kx_a j_n cyI 12 jn] sz) := by
  refine Met.ofW (cc := cX4_set) (maxL := 3) (ret := (some .int)) (by decide) rfl ?_
  intro p e s m args below meth c s₁ B hml hv
  obtain ⟨rfl, hsz, hP, hK, hD0⟩ := hv
  have hx := B.exec
  have hb := B.bytes
  have hr := B.returns
  have hts := atoms_spec (ws := wsX4_set) B.pre
  have hown : s.vm.findClass RX4 = some m.cls := findClass_of_methodNamed B.named
  have hlocks := B.notSynchronized
  subst hsz
  have hD := hD0.self (sz := s.heap.size)
  generalize hAe : va_A [kx_4 m_ q_row q_t t_ h0 k0 w_ z_ slots old, kx_2 q_t q_row q_joined q_from q_to q_size q_lossOf q_lessBy q_value q_number nodes here, kx_0 q_row q_cell len, kx_a q_cell cyI 160 f, kx_a q_from cyI 319 ff, kx_a q_to cyI 319 ft, kx_a q_size cyI 319 fs, kx_a q_lossOf cyI 319 fo, kx_a q_lessBy cyI 319 fe, kx_a q_value cyI 1914 uv, kx_a q_number cyI 1914 un, kx_3 q_joined j_v j_n js jl je, kx_a j_v cyI 12 jv, kx_a j_n cyI 12 jn] s.heap.size = A at hD ⊢
  have hA : ∀ q : Nat, s.heap.size ≤ q → A q := fun q h => by rw [← hAe]; exact Or.inr h
  have hS : va_S A s.heap s.heap [] := va_S.rf
  have hP : va_P (dC, dI) vwCl [kx_4 m_ q_row q_t t_ h0 k0 w_ z_ slots old, kx_2 q_t q_row q_joined q_from q_to q_size q_lossOf q_lessBy q_value q_number nodes here, kx_0 q_row q_cell len, kx_a q_cell cyI 160 f, kx_a q_from cyI 319 ff, kx_a q_to cyI 319 ft, kx_a q_size cyI 319 fs, kx_a q_lossOf cyI 319 fo, kx_a q_lessBy cyI 319 fe, kx_a q_value cyI 1914 uv, kx_a q_number cyI 1914 un, kx_3 q_joined j_v j_n js jl je, kx_a j_v cyI 12 jv, kx_a j_n cyI 12 jn] s.heap := hP
  have hl := lv_entry ([.ref m_, .int p0, .int p1]) (n := 3) (Nat.le_of_ble_eq_true rfl)
  rw [lg_entry_eq]
  generalize (lg_sl ([.ref m_, .int p0, .int p1]) ++ List.replicate (3 - (lg_sl ([.ref m_, .int p0, .int p1])).length) Slot.unset).toArray = ls at hl ⊢
  have hl : lv_has ls 3 [(0, .ref m_), (1, .int p0), (2, .int p1)] := hl
  have hf_12 := hts (.fieldLink RX4 12 "MajorityIndex" "row" "LMajorityIndex$Row;") (List.mem_of_getElem? (i := 1) rfl)
  have hi_4 : ∀ w ∈ u_ws RX4 TX4 9, w ∈ wsX4_set := fun w h => List.mem_cons_of_mem _ (List.mem_append_left _ (List.mem_append_left _ (List.mem_append_left _ (List.mem_append_right _ h))))
  refine lv_aload_n hx hb dX4_set_0 rfl (lv_at hl 0 rfl) ?_
  refine va_get (D := (dC, dI)) (ci := 4) (v := .ref q_row) (C := RX4) (T := TX4) (N := 9) hx hb hts hi_4 hown hK hP 0 rfl rfl 0 (by decide) hf_12 (fun _ h9 => h9) rfl dX4_set_1 ?_
  refine lv_iload_n hx hb dX4_set_4 rfl (lv_at hl 1 rfl) ?_
  have hPc := hP.sub (ws' := [kx_0 q_row q_cell len]) [2] rfl
  have hKc := hK.sub (tys' := []) [] rfl
  refine vp_callSi (W.runV (As := [.int p0]) (rest := []) ⟨hx, hb, hml, hown, hts⟩ (c_X0_hasPlace l dC dI q_row q_cell len p0) (cwV 1 hts gX4_set_X0_hasPlace rfl rfl rfl (by decide +kernel) ⟨Nat.le_of_ble_eq_true rfl, Nat.le_of_ble_eq_true rfl⟩) ⟨fun a U g mk q => by obtain ⟨q0, qP, qK⟩ := q; exact ⟨q0, qP, va_K.moved (u := U) (U := U.calling g mk a) (Vm.Alike.refl U.vm) qK⟩, va_recv hKc hPc (ci := 0) (q0 := 0) rfl rfl, fun U hU hW => ⟨rfl, by rw [hU]; exact hPc, va_K.moved hW.alike hKc⟩⟩ rfl rfl hl.1 rfl (lv_room (Nat.le_of_ble_eq_true rfl)) dX4_set_5 ⟨Nat.le_of_ble_eq_true rfl, Nat.le_of_ble_eq_true rfl⟩) (fun r_1 w_1 => ?_)
  rcases w_1 with ⟨rfl, w_1⟩ | ⟨rfl, w_1⟩
  · have w_1 : (0 ≤ p0.toInt ∧ p0.toInt < len.toInt) := w_1
    refine lv_if_eq (tgt := 18) hx hb dX4_set_8 (by decide) (fun c_2 => ?_) (fun c_2 => ?_)
    · exact absurd c_2 (by decide)
    · refine lv_iload_n hx hb dX4_set_11 rfl (lv_at hl 2 rfl) ?_
      have hPc := hP.sub (ws' := []) [] rfl
      have hKc := hK.sub (tys' := []) [] rfl
      refine vp_callSi (W.runS (As := [.int p1]) (rest := []) ⟨hx, hb, hml, hown, hts⟩ (c_X4_isValue l dC dI p1) (va_cwS 1 hts gX4_set_X4_isValue rfl rfl rfl (by decide +kernel) ⟨Nat.le_of_ble_eq_true rfl, Nat.le_of_ble_eq_true rfl⟩) ⟨fun a U g mk q => by obtain ⟨q0, qP, qK⟩ := q; exact ⟨q0, qP, va_K.moved (u := U) (U := U.calling g mk a) (Vm.Alike.refl U.vm) qK⟩, fun U hU hW => ⟨rfl, by rw [hU]; exact hPc, va_K.moved hW.alike hKc⟩⟩ rfl rfl hl.1 rfl (lv_room (Nat.le_of_ble_eq_true rfl)) dX4_set_12 ⟨Nat.le_of_ble_eq_true rfl, Nat.le_of_ble_eq_true rfl⟩) (fun r_3 w_3 => ?_)
      rcases w_3 with ⟨rfl, w_3⟩ | ⟨rfl, w_3⟩
      · have w_3 : (-32768 ≤ p1.toInt ∧ p1.toInt ≤ 32767) := w_3
        refine lv_if_ne (tgt := 20) hx hb dX4_set_15 (by decide) (fun c_4 => ?_) (fun c_4 => ?_)
        · refine lv_aload_n hx hb dX4_set_20 rfl (lv_at hl 0 rfl) ?_
          refine lv_aload_n hx hb dX4_set_21 rfl (lv_at hl 0 rfl) ?_
          have hPc := hP
          have hKc := hK
          have hDc := hD
          have hFc := kx_free hD hS hA
          refine va_callr (va_runV (As := []) (rest := [.ref m_]) ⟨hx, hb, hml, hown, hts⟩ (c_X4_laidTree_x l dC dI m_ q_row q_t t_ h0 k0 w_ z_ slots old q_joined q_from q_to q_size q_lossOf q_lessBy q_value q_number nodes here q_cell cyI len f ff ft fs fo uv un fe j_v j_n js jl je jv jn s.heap.size a0 a1 s0 sl0 sl1 l0) (cwV 0 hts gX4_set_X4_laidTree rfl rfl rfl (by decide +kernel) ⟨Nat.le_of_ble_eq_true rfl, Nat.le_of_ble_eq_true rfl⟩) ⟨fun a U g mk q => by obtain ⟨q0, q1, qP, qK, qD⟩ := q; exact ⟨q0, q1, qP, va_K.moved (u := U) (U := U.calling g mk a) (Vm.Alike.refl U.vm) qK, qD⟩, va_recv hKc hPc (ci := 4) (q0 := 0) rfl rfl, fun U hU hW => ⟨rfl, by rw [hU], by rw [hU]; exact hPc, va_K.moved hW.alike hKc, hDc.weaken (fun _ _ _ _ => trivial)⟩⟩ rfl rfl hl.1 rfl (lv_room (Nat.le_of_ble_eq_true rfl)) dX4_set_22 ⟨Nat.le_of_ble_eq_true rfl, Nat.le_of_ble_eq_true rfl⟩) hS (fun q _ h => hFc q h) hFc (fun u ra t H1 locs ht hvm w_5 hB hz1 hk1 hS => ?_)
          obtain ⟨o_6, o_7, o_8, o_9, o_10, o_11, o_12, o_13, o_14, o_15, o_16, o_17, o_18, o_19, o_20⟩ := u
          dsimp only at w_5 hB
          obtain ⟨er, hP1, hK1, hD1⟩ := hB
          rw [ht] at hP1
          have hK1 := va_K.moved hvm.symm hK1
          have hD := hD1.weaken (fun _ q _ h => hFc q.1 h)
          have hP := hP1
          clear hP1 hD1 hK1 hk1 hz1 hFc hDc hPc hKc
          generalize H1 = H at hP hS ⊢
          have w_5 : o_6.toInt = 0 ∧ o_8 = slots ∧ sixes o_11 ∧ mj_C slots.toNatClampNeg f o_9 o_10 o_11 o_12 o_13 o_14 o_15 o_7.toInt len.toInt ∧ 0 ≤ o_7.toInt ∧ o_7.toInt ≤ 319 ∧ treeOk o_9 o_10 o_7.toInt len.toInt := w_5
          rw [er]
          refine lv_iload_n hx hb dX4_set_25 rfl (lv_at hl 1 rfl) ?_
          refine lv_iload_n hx hb dX4_set_26 rfl (lv_at hl 1 rfl) ?_
          refine lv_iconst (v := 1) hx hb dX4_set_27 (by decide) ?_
          refine lv_iadd hx hb dX4_set_28 ?_
          refine lv_topi (fun y_21 ey_21 => ?_)
          have i_21 : y_21.toInt = p0.toInt + 1 := ki_add ey_21 rfl rfl (by omega) (by omega)
          refine lv_iload_n hx hb dX4_set_29 rfl (lv_at hl 2 rfl) ?_
          have hPc := hP
          have hKc := hK
          have hDc := hD
          have hFc := kx_free hD hS hA
          refine va_calli (va_runV (As := [.ref q_t, .int p0, .int y_21, .int p1]) (rest := []) ⟨hx, hb, hml, hown, hts⟩ (c_X4_overwrite_y l dC dI m_ q_row q_t t_ h0 k0 w_ z_ slots o_6 q_joined q_from q_to q_size q_lossOf q_lessBy q_value q_number o_7 o_8 q_cell cyI len f o_9 o_10 o_11 o_12 o_14 o_15 o_13 j_v j_n o_16 o_17 o_18 o_19 o_20 p0 y_21 p1 H.size w_5.2.2.2.2.1 w_5.2.2.2.2.2.1 a1 w_5.2.2.1 w_5.2.2.2.2.2.2 (by omega) (by omega) (om_209 i_21) (by rw [w_5.2.1]; omega) (by rw [w_5.2.1]; omega) (by rw [w_5.2.1]; exact w_5.2.2.2.1)) (cwV 4 hts gX4_set_X4_overwrite rfl rfl rfl (by decide +kernel) ⟨Nat.le_of_ble_eq_true rfl, Nat.le_of_ble_eq_true rfl⟩) ⟨fun a U g mk q => by obtain ⟨q0, q1, qP, qK, qD⟩ := q; exact ⟨q0, q1, qP, va_K.moved (u := U) (U := U.calling g mk a) (Vm.Alike.refl U.vm) qK, qD⟩, va_recv hKc hPc (ci := 4) (q0 := 0) rfl rfl, fun U hU hW => ⟨rfl, by rw [hU], by rw [hU]; exact hPc, va_K.moved hW.alike hKc, hDc.weaken (fun _ _ _ _ => trivial)⟩⟩ rfl rfl hl.1 rfl (lv_room (Nat.le_of_ble_eq_true rfl)) dX4_set_30 ⟨Nat.le_of_ble_eq_true rfl, Nat.le_of_ble_eq_true rfl⟩) hS (fun q _ h => hFc q h) hFc (fun r_22 u t H1 locs ht hvm w_22 hB hz1 hk1 hS => ?_)
          obtain ⟨o_23, o_24, o_25, o_26, o_27, o_28, o_29, o_30, o_31, o_32, o_33⟩ := u
          dsimp only at w_22 hB
          obtain ⟨hP1, hK1, hD1⟩ := hB
          rw [ht] at hP1
          have hK1 := va_K.moved hvm.symm hK1
          have hD := hD1.weaken (fun _ q _ h => hFc q.1 h)
          have hP := hP1
          clear hP1 hD1 hK1 hk1 hz1 hFc hDc hPc hKc
          generalize H1 = H at hP hS ⊢
          have w_22 : o_23 = mj_fill f p0.toNatClampNeg y_21.toNatClampNeg p1 ∧ sixes o_24 ∧ mj_C o_8.toNatClampNeg o_23 o_9 o_10 o_24 o_25 o_26 o_27 o_28 o_7.toInt len.toInt ∧ r_22.toInt = (mj_dn (mj_sm o_11 o_12 o_14 o_15 o_24 o_25 o_27 o_28) o_7.toNatClampNeg : Int) := w_22
          have hP9 := hP
          have hD9 := hD
          have hK9 := hK
          have n_34 := ki_nat y_21 rfl (by omega)
          have n_p0 := ki_nat p0 rfl (by omega)
          have e_f : o_23 = upd f p0.toNatClampNeg p1 := w_22.1.trans (mj_fill_one f p1 (by omega))
          exact W.iret (v := r_22) hx hb hr (fun t ht hW => ⟨⟨r_22, (o_6, o_7, o_8, o_9, o_10, o_24, o_25, o_26, o_27, o_28, o_29, o_30, o_31, o_32, o_33, o_23, o_11, o_12, o_13, o_14, o_15), rfl, ⟨Or.inl ⟨by omega, e_f, w_5.1, w_5.2.2.2.1, w_22.2.2.2⟩, (by (try dsimp only); rw [e_f]; exact shorts_upd s1 (by omega) (by omega)), (fun _ => ⟨w_5.2.1, (by have h9 := w_22.2.2.1; rw [w_5.2.1] at h9; exact h9)⟩), w_22.2.1⟩, by rw [ht]; exact hP9, va_K.moved hW.alike hK9, hD9⟩, hS.F ht⟩) hS.2.2 dX4_set_33
        · exact absurd c_4 (by decide)
      · have w_3 : (p1.toInt < -32768 ∨ 32767 < p1.toInt) := w_3
        refine lv_if_ne (tgt := 20) hx hb dX4_set_15 (by decide) (fun c_35 => ?_) (fun c_35 => ?_)
        · exact absurd c_35 (by decide)
        · refine lv_iconst (v := (-1)) hx hb dX4_set_18 (by decide) ?_
          have hP9 := hP
          have hD9 := hD
          have hK9 := hK
          exact W.iret (v := (-1)) hx hb hr (fun t ht hW => ⟨⟨(-1), (old, nodes, here, ff, ft, fs, fo, fe, uv, un, js, jl, je, jv, jn, f, fs, fo, fe, uv, un), rfl, ⟨Or.inr ⟨by omega, rfl, rfl⟩, s1, l0, s0⟩, by rw [ht]; exact hP9, va_K.moved hW.alike hK9, hD9⟩, hS.F ht⟩) hS.2.2 dX4_set_19
  · have w_1 : (p0.toInt < 0 ∨ len.toInt ≤ p0.toInt) := w_1
    refine lv_if_eq (tgt := 18) hx hb dX4_set_8 (by decide) (fun c_36 => ?_) (fun c_36 => ?_)
    · refine lv_iconst (v := (-1)) hx hb dX4_set_18 (by decide) ?_
      have hP9 := hP
      have hD9 := hD
      have hK9 := hK
      exact W.iret (v := (-1)) hx hb hr (fun t ht hW => ⟨⟨(-1), (old, nodes, here, ff, ft, fs, fo, fe, uv, un, js, jl, je, jv, jn, f, fs, fo, fe, uv, un), rfl, ⟨Or.inr ⟨by omega, rfl, rfl⟩, s1, l0, s0⟩, by rw [ht]; exact hP9, va_K.moved hW.alike hK9, hD9⟩, hS.F ht⟩) hS.2.2 dX4_set_19
    · exact absurd c_36 (by decide)

set_option maxHeartbeats 4000000 in
set_option maxRecDepth 100000 in
theorem c_X4_fill_Y (l : Launch) (dC : Nat → ClassId) (dI : Nat → Nat → Nat) (m_ : Nat) (q_row : Nat) (q_t : Nat) (t_ : Nat) (h0 : Nat) (k0 : Nat) (w_ : Nat) (z_ : Nat) (slots : Int32) (old : Int32) (q_joined : Nat) (q_from : Nat) (q_to : Nat) (q_size : Nat) (q_lossOf : Nat) (q_lessBy : Nat) (q_value : Nat) (q_number : Nat) (nodes : Int32) (here : Int32) (q_cell : Nat) (cyI : ClassId) (len : Int32) (f : Nat → Int32) (ff : Nat → Int32) (ft : Nat → Int32) (fs : Nat → Int32) (fo : Nat → Int32) (uv : Nat → Int32) (un : Nat → Int32) (fe : Nat → Int32) (j_v : Nat) (j_n : Nat) (js : Int32) (jl : Int32) (je : Int32) (jv : Nat → Int32) (jn : Nat → Int32) (p0 : Int32) (p1 : Int32) (p2 : Int32) (sz : Nat) (a0 : 0 ≤ len.toInt) (a1 : len.toInt ≤ 160) (s0 : sixes fs) (sl0 : 1 ≤ slots.toInt) (sl1 : slots.toInt ≤ 6) (l0 : laidX old slots here f ff ft fs fo fe uv un nodes len) (s1 : shorts f) : Met l yX4_fill wsX4_fill ({ frames := 6, cells := 0, slots := 0, locals := 270 }) (va_Pc [.ref m_, .int p0, .int p1, .int p2] (fun U => U.heap.size = sz ∧ va_P (dC, dI) vwCl [kx_4 m_ q_row q_t t_ h0 k0 w_ z_ slots old, kx_2 q_t q_row q_joined q_from q_to q_size q_lossOf q_lessBy q_value q_number nodes here, kx_0 q_row q_cell len, kx_a q_cell cyI 160 f, kx_a q_from cyI 319 ff, kx_a q_to cyI 319 ft, kx_a q_size cyI 319 fs, kx_a q_lossOf cyI 319 fo, kx_a q_lessBy cyI 319 fe, kx_a q_value cyI 1914 uv, kx_a q_number cyI 1914 un, kx_3 q_joined j_v j_n js jl je, kx_a j_v cyI 12 jv, kx_a j_n cyI 12 jn] U.heap ∧ va_K (dC, dI) vwCl [(cyI, .int)] U ∧ va_D (fun _ => True) [kx_4 m_ q_row q_t t_ h0 k0 w_ z_ slots old, kx_2 q_t q_row q_joined q_from q_to q_size q_lossOf q_lessBy q_value q_number nodes here, kx_0 q_row q_cell len, kx_a q_cell cyI 160 f, kx_a q_from cyI 319 ff, kx_a q_to cyI 319 ft, kx_a q_size cyI 319 fs, kx_a q_lossOf cyI 319 fo, kx_a q_lessBy cyI 319 fe, kx_a q_value cyI 1914 uv, kx_a q_number cyI 1914 un, kx_3 q_joined j_v j_n js jl je, kx_a j_v cyI 12 jv, kx_a j_n cyI 12 jn])) (va_Qi (fun (r : Int32) (u : Int32 × Int32 × Int32 × (Nat → Int32) × (Nat → Int32) × (Nat → Int32) × (Nat → Int32) × (Nat → Int32) × (Nat → Int32) × (Nat → Int32) × Int32 × Int32 × Int32 × (Nat → Int32) × (Nat → Int32) × (Nat → Int32) × (Nat → Int32) × (Nat → Int32) × (Nat → Int32) × (Nat → Int32) × (Nat → Int32)) => (((0 ≤ p0.toInt ∧ p0.toInt < p1.toInt ∧ p1.toInt ≤ len.toInt ∧ -32768 ≤ p2.toInt ∧ p2.toInt ≤ 32767) ∧ u.2.2.2.2.2.2.2.2.2.2.2.2.2.2.2.1 = mj_fill f p0.toNatClampNeg p1.toNatClampNeg p2 ∧ u.1.toInt = 0 ∧ mj_C slots.toNatClampNeg f u.2.2.2.1 u.2.2.2.2.1 u.2.2.2.2.2.2.2.2.2.2.2.2.2.2.2.2.1 u.2.2.2.2.2.2.2.2.2.2.2.2.2.2.2.2.2.1 u.2.2.2.2.2.2.2.2.2.2.2.2.2.2.2.2.2.2.1 u.2.2.2.2.2.2.2.2.2.2.2.2.2.2.2.2.2.2.2.1 u.2.2.2.2.2.2.2.2.2.2.2.2.2.2.2.2.2.2.2.2 u.2.1.toInt len.toInt ∧ r.toInt = (mj_dn (mj_sm u.2.2.2.2.2.2.2.2.2.2.2.2.2.2.2.2.1 u.2.2.2.2.2.2.2.2.2.2.2.2.2.2.2.2.2.1 u.2.2.2.2.2.2.2.2.2.2.2.2.2.2.2.2.2.2.2.1 u.2.2.2.2.2.2.2.2.2.2.2.2.2.2.2.2.2.2.2.2 u.2.2.2.2.2.1 u.2.2.2.2.2.2.1 u.2.2.2.2.2.2.2.2.1 u.2.2.2.2.2.2.2.2.2.1) u.2.1.toNatClampNeg : Int)) ∨ ((p0.toInt < 0 ∨ p1.toInt ≤ p0.toInt ∨ len.toInt < p1.toInt ∨ p2.toInt < -32768 ∨ 32767 < p2.toInt) ∧ u.2.2.2.2.2.2.2.2.2.2.2.2.2.2.2.1 = f ∧ r = -1)) ∧ shorts u.2.2.2.2.2.2.2.2.2.2.2.2.2.2.2.1 ∧ laidX u.1 slots u.2.2.1 u.2.2.2.2.2.2.2.2.2.2.2.2.2.2.2.1 u.2.2.2.1 u.2.2.2.2.1 u.2.2.2.2.2.1 u.2.2.2.2.2.2.1 u.2.2.2.2.2.2.2.1 u.2.2.2.2.2.2.2.2.1 u.2.2.2.2.2.2.2.2.2.1 u.2.1 len ∧ sixes u.2.2.2.2.2.1) (fun (u : Int32 × Int32 × Int32 × (Nat → Int32) × (Nat → Int32) × (Nat → Int32) × (Nat → Int32) × (Nat → Int32) × (Nat → Int32) × (Nat → Int32) × Int32 × Int32 × Int32 × (Nat → Int32) × (Nat → Int32) × (Nat → Int32) × (Nat → Int32) × (Nat → Int32) × (Nat → Int32) × (Nat → Int32) × (Nat → Int32)) (t : State) => va_P (dC, dI) vwCl [kx_4 m_ q_row q_t t_ h0 k0 w_ z_ slots u.1, kx_2 q_t q_row q_joined q_from q_to q_size q_lossOf q_lessBy q_value q_number u.2.1 u.2.2.1, kx_0 q_row q_cell len, kx_a q_cell cyI 160 u.2.2.2.2.2.2.2.2.2.2.2.2.2.2.2.1, kx_a q_from cyI 319 u.2.2.2.1, kx_a q_to cyI 319 u.2.2.2.2.1, kx_a q_size cyI 319 u.2.2.2.2.2.1, kx_a q_lossOf cyI 319 u.2.2.2.2.2.2.1, kx_a q_lessBy cyI 319 u.2.2.2.2.2.2.2.1, kx_a q_value cyI 1914 u.2.2.2.2.2.2.2.2.1, kx_a q_number cyI 1914 u.2.2.2.2.2.2.2.2.2.1, kx_3 q_joined j_v j_n u.2.2.2.2.2.2.2.2.2.2.1 u.2.2.2.2.2.2.2.2.2.2.2.1 u.2.2.2.2.2.2.2.2.2.2.2.2.1, kx_a j_v cyI 12 u.2.2.2.2.2.2.2.2.2.2.2.2.2.1, kx_a j_n cyI 12 u.2.2.2.2.2.2.2.2.2.2.2.2.2.2.1] t.heap ∧ va_K (dC, dI) vwCl [(cyI, .int)] t ∧ va_D (va_A [kx_4 m_ q_row q_t t_ h0 k0 w_ z_ slots old, kx_2 q_t q_row q_joined q_from q_to q_size q_lossOf q_lessBy q_value q_number nodes here, kx_0 q_row q_cell len, kx_a q_cell cyI 160 f, kx_a q_from cyI 319 ff, kx_a q_to cyI 319 ft, kx_a q_size cyI 319 fs, kx_a q_lossOf cyI 319 fo, kx_a q_lessBy cyI 319 fe, kx_a q_value cyI 1914 uv, kx_a q_number cyI 1914 un, kx_3 q_joined j_v j_n js jl je, kx_a j_v cyI 12 jv, kx_a j_n cyI 12 jn] sz) [kx_4 m_ q_row q_t t_ h0 k0 w_ z_ slots u.1, kx_2 q_t q_row q_joined q_from q_to q_size q_lossOf q_lessBy q_value q_number u.2.1 u.2.2.1, kx_0 q_row q_cell len, kx_a q_cell cyI 160 u.2.2.2.2.2.2.2.2.2.2.2.2.2.2.2.1, kx_a q_from cyI 319 u.2.2.2.1, kx_a q_to cyI 319 u.2.2.2.2.1, kx_a q_size cyI 319 u.2.2.2.2.2.1, kx_a q_lossOf cyI 319 u.2.2.2.2.2.2.1, kx_a q_lessBy cyI 319 u.2.2.2.2.2.2.2.1, kx_a q_value cyI 1914 u.2.2.2.2.2.2.2.2.1, kx_a q_number cyI 1914 u.2.2.2.2.2.2.2.2.2.1, kx_3 q_joined j_v j_n u.2.2.2.2.2.2.2.2.2.2.1 u.2.2.2.2.2.2.2.2.2.2.2.1 u.2.2.2.2.2.2.2.2.2.2.2.2.1, kx_a j_v cyI 12 u.2.2.2.2.2.2.2.2.2.2.2.2.2.1, kx_a j_n cyI 12 u.2.2.2.2.2.2.2.2.2.2.2.2.2.2.1]) (va_A [kx_4 m_ q_row q_t t_ h0 k0 w_ z_ slots old, kx_2 q_t q_row q_joined q_from q_to q_size q_lossOf q_lessBy q_value q_number nodes here, kx_0 q_row q_cell len, kx_a q_cell cyI 160 f, kx_a q_from cyI 319 ff, kx_a q_to cyI 319 ft, kx_a q_size cyI 319 fs, kx_a q_lossOf cyI 319 fo, kx_a q_lessBy cyI 319 fe, kx_a q_value cyI 1914 uv, kx_a q_number cyI 1914 un, kx_3 q_joined j_v j_n js jl je, kx_a j_v cyI 12 jv, kx_a j_n cyI 12 jn] sz)) 0 0 (va_A [kx_4 m_ q_row q_t t_ h0 k0 w_ z_ slots old, kx_2 q_t q_row q_joined q_from q_to q_size q_lossOf q_lessBy q_value q_number nodes here, kx_0 q_row q_cell len, kx_a q_cell cyI 160 f, kx_a q_from cyI 319 ff, kx_a q_to cyI 319 ft, kx_a q_size cyI 319 fs, kx_a q_lossOf cyI 319 fo, kx_a q_lessBy cyI 319 fe, kx_a q_value cyI 1914 uv, kx_a q_number cyI 1914 un, kx_3 q_joined j_v j_n js jl je, kx_a j_v cyI 12 jv, kx_a j_n cyI 12 jn] sz) := by
  refine Met.ofW (cc := cX4_fill) (maxL := 4) (ret := (some .int)) (by decide) rfl ?_
  intro p e s m args below meth c s₁ B hml hv
  obtain ⟨rfl, hsz, hP, hK, hD0⟩ := hv
  have hx := B.exec
  have hb := B.bytes
  have hr := B.returns
  have hts := atoms_spec (ws := wsX4_fill) B.pre
  have hown : s.vm.findClass RX4 = some m.cls := findClass_of_methodNamed B.named
  have hlocks := B.notSynchronized
  subst hsz
  have hD := hD0.self (sz := s.heap.size)
  generalize hAe : va_A [kx_4 m_ q_row q_t t_ h0 k0 w_ z_ slots old, kx_2 q_t q_row q_joined q_from q_to q_size q_lossOf q_lessBy q_value q_number nodes here, kx_0 q_row q_cell len, kx_a q_cell cyI 160 f, kx_a q_from cyI 319 ff, kx_a q_to cyI 319 ft, kx_a q_size cyI 319 fs, kx_a q_lossOf cyI 319 fo, kx_a q_lessBy cyI 319 fe, kx_a q_value cyI 1914 uv, kx_a q_number cyI 1914 un, kx_3 q_joined j_v j_n js jl je, kx_a j_v cyI 12 jv, kx_a j_n cyI 12 jn] s.heap.size = A at hD ⊢
  have hA : ∀ q : Nat, s.heap.size ≤ q → A q := fun q h => by rw [← hAe]; exact Or.inr h
  have hS : va_S A s.heap s.heap [] := va_S.rf
  have hP : va_P (dC, dI) vwCl [kx_4 m_ q_row q_t t_ h0 k0 w_ z_ slots old, kx_2 q_t q_row q_joined q_from q_to q_size q_lossOf q_lessBy q_value q_number nodes here, kx_0 q_row q_cell len, kx_a q_cell cyI 160 f, kx_a q_from cyI 319 ff, kx_a q_to cyI 319 ft, kx_a q_size cyI 319 fs, kx_a q_lossOf cyI 319 fo, kx_a q_lessBy cyI 319 fe, kx_a q_value cyI 1914 uv, kx_a q_number cyI 1914 un, kx_3 q_joined j_v j_n js jl je, kx_a j_v cyI 12 jv, kx_a j_n cyI 12 jn] s.heap := hP
  have hl := lv_entry ([.ref m_, .int p0, .int p1, .int p2]) (n := 4) (Nat.le_of_ble_eq_true rfl)
  rw [lg_entry_eq]
  generalize (lg_sl ([.ref m_, .int p0, .int p1, .int p2]) ++ List.replicate (4 - (lg_sl ([.ref m_, .int p0, .int p1, .int p2])).length) Slot.unset).toArray = ls at hl ⊢
  have hl : lv_has ls 4 [(0, .ref m_), (1, .int p0), (2, .int p1), (3, .int p2)] := hl
  have hf_12 := hts (.fieldLink RX4 12 "MajorityIndex" "row" "LMajorityIndex$Row;") (List.mem_of_getElem? (i := 1) rfl)
  have hi_4 : ∀ w ∈ u_ws RX4 TX4 9, w ∈ wsX4_fill := fun w h => List.mem_cons_of_mem _ (List.mem_append_left _ (List.mem_append_left _ (List.mem_append_left _ (List.mem_append_right _ h))))
  refine lv_aload_n hx hb dX4_fill_0 rfl (lv_at hl 0 rfl) ?_
  refine va_get (D := (dC, dI)) (ci := 4) (v := .ref q_row) (C := RX4) (T := TX4) (N := 9) hx hb hts hi_4 hown hK hP 0 rfl rfl 0 (by decide) hf_12 (fun _ h9 => h9) rfl dX4_fill_1 ?_
  refine lv_iload_n hx hb dX4_fill_4 rfl (lv_at hl 1 rfl) ?_
  refine lv_iload_n hx hb dX4_fill_5 rfl (lv_at hl 2 rfl) ?_
  have hPc := hP.sub (ws' := [kx_0 q_row q_cell len]) [2] rfl
  have hKc := hK.sub (tys' := []) [] rfl
  refine vp_callSi (W.runV (As := [.int p0, .int p1]) (rest := []) ⟨hx, hb, hml, hown, hts⟩ (c_X0_hasRange l dC dI q_row q_cell len p0 p1) (cwV 2 hts gX4_fill_X0_hasRange rfl rfl rfl (by decide +kernel) ⟨Nat.le_of_ble_eq_true rfl, Nat.le_of_ble_eq_true rfl⟩) ⟨fun a U g mk q => by obtain ⟨q0, qP, qK⟩ := q; exact ⟨q0, qP, va_K.moved (u := U) (U := U.calling g mk a) (Vm.Alike.refl U.vm) qK⟩, va_recv hKc hPc (ci := 0) (q0 := 0) rfl rfl, fun U hU hW => ⟨rfl, by rw [hU]; exact hPc, va_K.moved hW.alike hKc⟩⟩ rfl rfl hl.1 rfl (lv_room (Nat.le_of_ble_eq_true rfl)) dX4_fill_6 ⟨Nat.le_of_ble_eq_true rfl, Nat.le_of_ble_eq_true rfl⟩) (fun r_1 w_1 => ?_)
  rcases w_1 with ⟨rfl, w_1⟩ | ⟨rfl, w_1⟩
  · have w_1 : (0 ≤ p0.toInt ∧ p0.toInt < p1.toInt ∧ p1.toInt ≤ len.toInt) := w_1
    refine lv_if_eq (tgt := 19) hx hb dX4_fill_9 (by decide) (fun c_2 => ?_) (fun c_2 => ?_)
    · exact absurd c_2 (by decide)
    · refine lv_iload_n hx hb dX4_fill_12 rfl (lv_at hl 3 rfl) ?_
      have hPc := hP.sub (ws' := []) [] rfl
      have hKc := hK.sub (tys' := []) [] rfl
      refine vp_callSi (W.runS (As := [.int p2]) (rest := []) ⟨hx, hb, hml, hown, hts⟩ (c_X4_isValue l dC dI p2) (va_cwS 1 hts gX4_fill_X4_isValue rfl rfl rfl (by decide +kernel) ⟨Nat.le_of_ble_eq_true rfl, Nat.le_of_ble_eq_true rfl⟩) ⟨fun a U g mk q => by obtain ⟨q0, qP, qK⟩ := q; exact ⟨q0, qP, va_K.moved (u := U) (U := U.calling g mk a) (Vm.Alike.refl U.vm) qK⟩, fun U hU hW => ⟨rfl, by rw [hU]; exact hPc, va_K.moved hW.alike hKc⟩⟩ rfl rfl hl.1 rfl (lv_room (Nat.le_of_ble_eq_true rfl)) dX4_fill_13 ⟨Nat.le_of_ble_eq_true rfl, Nat.le_of_ble_eq_true rfl⟩) (fun r_3 w_3 => ?_)
      rcases w_3 with ⟨rfl, w_3⟩ | ⟨rfl, w_3⟩
      · have w_3 : (-32768 ≤ p2.toInt ∧ p2.toInt ≤ 32767) := w_3
        refine lv_if_ne (tgt := 21) hx hb dX4_fill_16 (by decide) (fun c_4 => ?_) (fun c_4 => ?_)
        · refine lv_aload_n hx hb dX4_fill_21 rfl (lv_at hl 0 rfl) ?_
          refine lv_aload_n hx hb dX4_fill_22 rfl (lv_at hl 0 rfl) ?_
          have hPc := hP
          have hKc := hK
          have hDc := hD
          have hFc := kx_free hD hS hA
          refine va_callr (va_runV (As := []) (rest := [.ref m_]) ⟨hx, hb, hml, hown, hts⟩ (c_X4_laidTree_x l dC dI m_ q_row q_t t_ h0 k0 w_ z_ slots old q_joined q_from q_to q_size q_lossOf q_lessBy q_value q_number nodes here q_cell cyI len f ff ft fs fo uv un fe j_v j_n js jl je jv jn s.heap.size a0 a1 s0 sl0 sl1 l0) (cwV 0 hts gX4_fill_X4_laidTree rfl rfl rfl (by decide +kernel) ⟨Nat.le_of_ble_eq_true rfl, Nat.le_of_ble_eq_true rfl⟩) ⟨fun a U g mk q => by obtain ⟨q0, q1, qP, qK, qD⟩ := q; exact ⟨q0, q1, qP, va_K.moved (u := U) (U := U.calling g mk a) (Vm.Alike.refl U.vm) qK, qD⟩, va_recv hKc hPc (ci := 4) (q0 := 0) rfl rfl, fun U hU hW => ⟨rfl, by rw [hU], by rw [hU]; exact hPc, va_K.moved hW.alike hKc, hDc.weaken (fun _ _ _ _ => trivial)⟩⟩ rfl rfl hl.1 rfl (lv_room (Nat.le_of_ble_eq_true rfl)) dX4_fill_23 ⟨Nat.le_of_ble_eq_true rfl, Nat.le_of_ble_eq_true rfl⟩) hS (fun q _ h => hFc q h) hFc (fun u ra t H1 locs ht hvm w_5 hB hz1 hk1 hS => ?_)
          obtain ⟨o_6, o_7, o_8, o_9, o_10, o_11, o_12, o_13, o_14, o_15, o_16, o_17, o_18, o_19, o_20⟩ := u
          dsimp only at w_5 hB
          obtain ⟨er, hP1, hK1, hD1⟩ := hB
          rw [ht] at hP1
          have hK1 := va_K.moved hvm.symm hK1
          have hD := hD1.weaken (fun _ q _ h => hFc q.1 h)
          have hP := hP1
          clear hP1 hD1 hK1 hk1 hz1 hFc hDc hPc hKc
          generalize H1 = H at hP hS ⊢
          have w_5 : o_6.toInt = 0 ∧ o_8 = slots ∧ sixes o_11 ∧ mj_C slots.toNatClampNeg f o_9 o_10 o_11 o_12 o_13 o_14 o_15 o_7.toInt len.toInt ∧ 0 ≤ o_7.toInt ∧ o_7.toInt ≤ 319 ∧ treeOk o_9 o_10 o_7.toInt len.toInt := w_5
          rw [er]
          refine lv_iload_n hx hb dX4_fill_26 rfl (lv_at hl 1 rfl) ?_
          refine lv_iload_n hx hb dX4_fill_27 rfl (lv_at hl 2 rfl) ?_
          refine lv_iload_n hx hb dX4_fill_28 rfl (lv_at hl 3 rfl) ?_
          have hPc := hP
          have hKc := hK
          have hDc := hD
          have hFc := kx_free hD hS hA
          refine va_calli (va_runV (As := [.ref q_t, .int p0, .int p1, .int p2]) (rest := []) ⟨hx, hb, hml, hown, hts⟩ (c_X4_overwrite_y l dC dI m_ q_row q_t t_ h0 k0 w_ z_ slots o_6 q_joined q_from q_to q_size q_lossOf q_lessBy q_value q_number o_7 o_8 q_cell cyI len f o_9 o_10 o_11 o_12 o_14 o_15 o_13 j_v j_n o_16 o_17 o_18 o_19 o_20 p0 p1 p2 H.size w_5.2.2.2.2.1 w_5.2.2.2.2.2.1 a1 w_5.2.2.1 w_5.2.2.2.2.2.2 (by omega) (by omega) (by omega) (by rw [w_5.2.1]; omega) (by rw [w_5.2.1]; omega) (by rw [w_5.2.1]; exact w_5.2.2.2.1)) (cwV 4 hts gX4_fill_X4_overwrite rfl rfl rfl (by decide +kernel) ⟨Nat.le_of_ble_eq_true rfl, Nat.le_of_ble_eq_true rfl⟩) ⟨fun a U g mk q => by obtain ⟨q0, q1, qP, qK, qD⟩ := q; exact ⟨q0, q1, qP, va_K.moved (u := U) (U := U.calling g mk a) (Vm.Alike.refl U.vm) qK, qD⟩, va_recv hKc hPc (ci := 4) (q0 := 0) rfl rfl, fun U hU hW => ⟨rfl, by rw [hU], by rw [hU]; exact hPc, va_K.moved hW.alike hKc, hDc.weaken (fun _ _ _ _ => trivial)⟩⟩ rfl rfl hl.1 rfl (lv_room (Nat.le_of_ble_eq_true rfl)) dX4_fill_29 ⟨Nat.le_of_ble_eq_true rfl, Nat.le_of_ble_eq_true rfl⟩) hS (fun q _ h => hFc q h) hFc (fun r_21 u t H1 locs ht hvm w_21 hB hz1 hk1 hS => ?_)
          obtain ⟨o_22, o_23, o_24, o_25, o_26, o_27, o_28, o_29, o_30, o_31, o_32⟩ := u
          dsimp only at w_21 hB
          obtain ⟨hP1, hK1, hD1⟩ := hB
          rw [ht] at hP1
          have hK1 := va_K.moved hvm.symm hK1
          have hD := hD1.weaken (fun _ q _ h => hFc q.1 h)
          have hP := hP1
          clear hP1 hD1 hK1 hk1 hz1 hFc hDc hPc hKc
          generalize H1 = H at hP hS ⊢
          have w_21 : o_22 = mj_fill f p0.toNatClampNeg p1.toNatClampNeg p2 ∧ sixes o_23 ∧ mj_C o_8.toNatClampNeg o_22 o_9 o_10 o_23 o_24 o_25 o_26 o_27 o_7.toInt len.toInt ∧ r_21.toInt = (mj_dn (mj_sm o_11 o_12 o_14 o_15 o_23 o_24 o_26 o_27) o_7.toNatClampNeg : Int) := w_21
          have hP9 := hP
          have hD9 := hD
          have hK9 := hK
          have e_f : o_22 = mj_fill f p0.toNatClampNeg p1.toNatClampNeg p2 := w_21.1
          exact W.iret (v := r_21) hx hb hr (fun t ht hW => ⟨⟨r_21, (o_6, o_7, o_8, o_9, o_10, o_23, o_24, o_25, o_26, o_27, o_28, o_29, o_30, o_31, o_32, o_22, o_11, o_12, o_13, o_14, o_15), rfl, ⟨Or.inl ⟨by omega, e_f, w_5.1, w_5.2.2.2.1, w_21.2.2.2⟩, (by (try dsimp only); rw [e_f]; exact shorts_fill s1 (by omega) (by omega)), (fun _ => ⟨w_5.2.1, (by have h9 := w_21.2.2.1; rw [w_5.2.1] at h9; exact h9)⟩), w_21.2.1⟩, by rw [ht]; exact hP9, va_K.moved hW.alike hK9, hD9⟩, hS.F ht⟩) hS.2.2 dX4_fill_32
        · exact absurd c_4 (by decide)
      · have w_3 : (p2.toInt < -32768 ∨ 32767 < p2.toInt) := w_3
        refine lv_if_ne (tgt := 21) hx hb dX4_fill_16 (by decide) (fun c_33 => ?_) (fun c_33 => ?_)
        · exact absurd c_33 (by decide)
        · refine lv_iconst (v := (-1)) hx hb dX4_fill_19 (by decide) ?_
          have hP9 := hP
          have hD9 := hD
          have hK9 := hK
          exact W.iret (v := (-1)) hx hb hr (fun t ht hW => ⟨⟨(-1), (old, nodes, here, ff, ft, fs, fo, fe, uv, un, js, jl, je, jv, jn, f, fs, fo, fe, uv, un), rfl, ⟨Or.inr ⟨by omega, rfl, rfl⟩, s1, l0, s0⟩, by rw [ht]; exact hP9, va_K.moved hW.alike hK9, hD9⟩, hS.F ht⟩) hS.2.2 dX4_fill_20
  · have w_1 : (p0.toInt < 0 ∨ p1.toInt ≤ p0.toInt ∨ len.toInt < p1.toInt) := w_1
    refine lv_if_eq (tgt := 19) hx hb dX4_fill_9 (by decide) (fun c_34 => ?_) (fun c_34 => ?_)
    · refine lv_iconst (v := (-1)) hx hb dX4_fill_19 (by decide) ?_
      have hP9 := hP
      have hD9 := hD
      have hK9 := hK
      exact W.iret (v := (-1)) hx hb hr (fun t ht hW => ⟨⟨(-1), (old, nodes, here, ff, ft, fs, fo, fe, uv, un, js, jl, je, jv, jn, f, fs, fo, fe, uv, un), rfl, ⟨Or.inr ⟨by omega, rfl, rfl⟩, s1, l0, s0⟩, by rw [ht]; exact hP9, va_K.moved hW.alike hK9, hD9⟩, hS.F ht⟩) hS.2.2 dX4_fill_20
    · exact absurd c_34 (by decide)


