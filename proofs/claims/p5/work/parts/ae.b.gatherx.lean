/-! the summary of a range, of the class -/
theorem mj_ok_vs {K : Nat} {f ff ft fs fo fe uv un : Nat → Int32} {nd n : Int} {k : Nat} (h : mj_ok K f ff ft fs fo fe uv un k) (ht : treeOk ff ft nd n) (hk : (k : Int) < nd) (hn : n ≤ 160) : 0 ≤ (fs k).toInt ∧ (fs k).toInt ≤ 6 ∧ (fs k).toInt ≤ (K : Int) ∧ ∃ μ : Int32 → Int, mj_vs uv un (6 * k) (fs k).toNatClampNeg μ ∧ mj_srt uv un (6 * k) (fs k).toNatClampNeg ∧ ∀ v : Int32, 0 ≤ μ v ∧ μ v ≤ 160 := by
  obtain ⟨d, μ, L, c, t⟩ := h
  obtain ⟨a1, a2, a3, a4⟩ := ht k hk
  have n1 := ki_nat (ff k) rfl a1
  have n2 := ki_nat (ft k) rfl (by omega)
  have b := mj_T_nd t
  refine ⟨b.2.2.1, b.2.2.2.1, b.2.2.2.2.1, μ, b.2.2.2.2.2.2.2.1, b.2.2.2.2.2.2.2.2, fun v => ?_⟩
  have := mj_T_le _ _ _ _ _ _ _ t v
  omega
def mj_GA (K : Nat) (ff ft fs fo uv un : Nat → Int32) (l r : Int) (j : Nat) (vs lo : Int32) (fv fn : Nat → Int32) : Prop := ∃ (μ : Int32 → Int) (L : Int32), mj_H K ff ft fs fo uv un l r j μ L ∧ mj_vs fv fn 0 vs.toNatClampNeg μ ∧ mj_srt fv fn 0 vs.toNatClampNeg ∧ 0 ≤ vs.toInt ∧ vs.toInt ≤ (K : Int) ∧ lo = L ∧ ∀ v : Int32, 0 ≤ μ v ∧ μ v ≤ 160 * (j : Int)
theorem mj_GA_0 (K : Nat) (ff ft fs fo uv un : Nat → Int32) (l r : Int) (fv fn : Nat → Int32) {j : Nat} (h : j = 0) : mj_GA K ff ft fs fo uv un l r j 0 0 fv fn := by
  subst h
  refine ⟨mj_z, 0, ⟨rfl, rfl⟩, mj_vs_zero fv fn 0, mj_srt_1 _ _ (Nat.zero_le 1), by decide, ?_, rfl, fun v => ?_⟩
  · show (0 : Int) ≤ (K : Int)
    omega
  · show (0 : Int) ≤ 0 ∧ (0 : Int) ≤ _
    omega
theorem mj_GA_step {K : Nat} {ff ft fs fo uv un fv fn : Nat → Int32} {l r : Int} {j j2 k : Nat} {mua mub mu : Int32 → Int} {L0 c lo lo1 lo2 vs2 : Int32} (hH : mj_H K ff ft fs fo uv un l r j mua L0) (hk : k < 320) (hp : mj_isp ff ft l r k) (hq : mj_pq ff ft l r k = j) (b0 : 0 ≤ (fs k).toInt) (b6 : (fs k).toInt ≤ 6) (hv : mj_vs uv un (6 * k) (fs k).toNatClampNeg mub) (tg : mj_can K (fun w => mua w + mub w) mu c) (e0 : lo = L0) (e1 : lo1 = lo + fo k) (e2 : lo2 = lo1 + c) (v3 : mj_vs fv fn 0 vs2.toNatClampNeg mu) (s3 : mj_srt fv fn 0 vs2.toNatClampNeg) (c0 : 0 ≤ vs2.toInt) (cK : vs2.toInt ≤ (K : Int)) (ha : ∀ v : Int32, 0 ≤ mua v ∧ mua v ≤ 160 * (j : Int)) (hb : ∀ v : Int32, 0 ≤ mub v ∧ mub v ≤ 160) (ej : j2 = j + 1) : mj_GA K ff ft fs fo uv un l r j2 vs2 lo2 fv fn := by
  subst ej
  have tg2 := mj_can_tog tg (fun v => rfl)
  refine ⟨mu, lo2, ⟨k, mua, L0, c, mub, hk, hH, hp, hq, hv, b0, b6, tg2, by rw [e2, e1, e0]⟩, v3, s3, c0, cK, rfl, fun v => ?_⟩
  have h1 := mj_tog_le tg2 (fun w => (ha w).1) (fun w => (hb w).1) v
  have h2 := ha v
  have h3 := hb v
  omega
theorem mj_pbq_yes {nl nr : Nat → Int32} {l r : Int} {k k2 : Nat} (hp : mj_isp nl nr l r k) (e : k2 = k + 1) : mj_pb nl nr l r k2 = (nr k).toInt ∧ mj_pq nl nr l r k2 = mj_pq nl nr l r k + 1 := by
  subst e
  have h : (nl k).toInt = mj_pb nl nr l r k ∧ (nr k).toInt ≤ r := hp
  simp only [mj_pb, mj_pq]
  rw [if_pos h, if_pos h]
  exact ⟨rfl, rfl⟩
theorem mj_pbq_no {nl nr : Nat → Int32} {l r : Int} {k k2 : Nat} (hp : ¬ mj_isp nl nr l r k) (e : k2 = k + 1) : mj_pb nl nr l r k2 = mj_pb nl nr l r k ∧ mj_pq nl nr l r k2 = mj_pq nl nr l r k := by
  subst e
  have h : ¬ ((nl k).toInt = mj_pb nl nr l r k ∧ (nr k).toInt ≤ r) := hp
  simp only [mj_pb, mj_pq]
  rw [if_neg h, if_neg h]
  exact ⟨rfl, rfl⟩

set_option maxHeartbeats 4000000 in
set_option maxRecDepth 100000 in
theorem c_X2_gather_x (l : Launch) (dC : Nat → ClassId) (dI : Nat → Nat → Nat) (q_t : Nat) (q_row : Nat) (q_joined : Nat) (q_from : Nat) (q_to : Nat) (q_size : Nat) (q_lossOf : Nat) (q_lessBy : Nat) (q_value : Nat) (q_number : Nat) (nodes : Int32) (here : Int32) (h0 : Nat) (a_v : Nat) (a_n : Nat) (cyI : ClassId) (vs : Int32) (lo : Int32) (le : Int32) (fv : Nat → Int32) (fn : Nat → Int32) (len : Int32) (f : Nat → Int32) (ff : Nat → Int32) (ft : Nat → Int32) (fs : Nat → Int32) (fo : Nat → Int32) (uv : Nat → Int32) (un : Nat → Int32) (fe : Nat → Int32) (p0 : Int32) (p1 : Int32) (sz : Nat) (b0 : 0 ≤ nodes.toInt) (c0 : nodes.toInt ≤ 319) (s0 : sixes fs) (c1 : len.toInt ≤ 160) (k0 : 1 ≤ here.toInt) (k1 : here.toInt ≤ 6) (t0 : treeOk ff ft nodes.toInt len.toInt) (hok : ∀ k : Nat, (k : Int) < nodes.toInt → mj_ok here.toNatClampNeg f ff ft fs fo fe uv un k) : Met l yX2_gather wsX2_gather ({ frames := 3, cells := 0, slots := 0, locals := 135 }) (va_Pc [.ref q_t, .ref h0, .int p0, .int p1] (fun U => U.heap.size = sz ∧ va_P (dC, dI) vwCl [kx_2 q_t q_row q_joined q_from q_to q_size q_lossOf q_lessBy q_value q_number nodes here, kx_a q_from cyI 319 ff, kx_a q_to cyI 319 ft, kx_a q_size cyI 319 fs, kx_a q_lossOf cyI 319 fo, kx_a q_value cyI 1914 uv, kx_a q_number cyI 1914 un, kx_3 h0 a_v a_n vs lo le, kx_a a_v cyI 12 fv, kx_a a_n cyI 12 fn] U.heap ∧ va_K (dC, dI) vwCl [(cyI, .int)] U ∧ va_D (fun _ => True) [kx_2 q_t q_row q_joined q_from q_to q_size q_lossOf q_lessBy q_value q_number nodes here, kx_a q_from cyI 319 ff, kx_a q_to cyI 319 ft, kx_a q_size cyI 319 fs, kx_a q_lossOf cyI 319 fo, kx_a q_value cyI 1914 uv, kx_a q_number cyI 1914 un, kx_3 h0 a_v a_n vs lo le, kx_a a_v cyI 12 fv, kx_a a_n cyI 12 fn])) (va_Qv (fun u : Int32 × Int32 × Int32 × (Nat → Int32) × (Nat → Int32) => mj_GA here.toNatClampNeg ff ft fs fo uv un p0.toInt p1.toInt (mj_pq ff ft p0.toInt p1.toInt nodes.toNatClampNeg) u.1 u.2.1 u.2.2.2.1 u.2.2.2.2 ∧ 0 ≤ u.1.toInt ∧ u.1.toInt ≤ here.toInt) (fun (u : Int32 × Int32 × Int32 × (Nat → Int32) × (Nat → Int32)) (t : State) => va_P (dC, dI) vwCl [kx_2 q_t q_row q_joined q_from q_to q_size q_lossOf q_lessBy q_value q_number nodes here, kx_a q_from cyI 319 ff, kx_a q_to cyI 319 ft, kx_a q_size cyI 319 fs, kx_a q_lossOf cyI 319 fo, kx_a q_value cyI 1914 uv, kx_a q_number cyI 1914 un, kx_3 h0 a_v a_n u.1 u.2.1 u.2.2.1, kx_a a_v cyI 12 u.2.2.2.1, kx_a a_n cyI 12 u.2.2.2.2] t.heap ∧ va_K (dC, dI) vwCl [(cyI, .int)] t ∧ va_D (va_A [kx_2 q_t q_row q_joined q_from q_to q_size q_lossOf q_lessBy q_value q_number nodes here, kx_a q_from cyI 319 ff, kx_a q_to cyI 319 ft, kx_a q_size cyI 319 fs, kx_a q_lossOf cyI 319 fo, kx_a q_value cyI 1914 uv, kx_a q_number cyI 1914 un, kx_3 h0 a_v a_n vs lo le, kx_a a_v cyI 12 fv, kx_a a_n cyI 12 fn] sz) [kx_2 q_t q_row q_joined q_from q_to q_size q_lossOf q_lessBy q_value q_number nodes here, kx_a q_from cyI 319 ff, kx_a q_to cyI 319 ft, kx_a q_size cyI 319 fs, kx_a q_lossOf cyI 319 fo, kx_a q_value cyI 1914 uv, kx_a q_number cyI 1914 un, kx_3 h0 a_v a_n u.1 u.2.1 u.2.2.1, kx_a a_v cyI 12 u.2.2.2.1, kx_a a_n cyI 12 u.2.2.2.2]) (va_A [kx_2 q_t q_row q_joined q_from q_to q_size q_lossOf q_lessBy q_value q_number nodes here, kx_a q_from cyI 319 ff, kx_a q_to cyI 319 ft, kx_a q_size cyI 319 fs, kx_a q_lossOf cyI 319 fo, kx_a q_value cyI 1914 uv, kx_a q_number cyI 1914 un, kx_3 h0 a_v a_n vs lo le, kx_a a_v cyI 12 fv, kx_a a_n cyI 12 fn] sz)) 0 0 (va_A [kx_2 q_t q_row q_joined q_from q_to q_size q_lossOf q_lessBy q_value q_number nodes here, kx_a q_from cyI 319 ff, kx_a q_to cyI 319 ft, kx_a q_size cyI 319 fs, kx_a q_lossOf cyI 319 fo, kx_a q_value cyI 1914 uv, kx_a q_number cyI 1914 un, kx_3 h0 a_v a_n vs lo le, kx_a a_v cyI 12 fv, kx_a a_n cyI 12 fn] sz) := by
  refine Met.ofW (cc := cX2_gather) (maxL := 6) (ret := none) (by decide) rfl ?_
  intro p e s m args below meth c s₁ B hml hv
  obtain ⟨rfl, hsz, hP, hK, hD0⟩ := hv
  have hx := B.exec
  have hb := B.bytes
  have hr := B.returns
  have hts := atoms_spec (ws := wsX2_gather) B.pre
  have hown : s.vm.findClass RX2 = some m.cls := findClass_of_methodNamed B.named
  have hlocks := B.notSynchronized
  subst hsz
  have hD := hD0.self (sz := s.heap.size)
  generalize hAe : va_A [kx_2 q_t q_row q_joined q_from q_to q_size q_lossOf q_lessBy q_value q_number nodes here, kx_a q_from cyI 319 ff, kx_a q_to cyI 319 ft, kx_a q_size cyI 319 fs, kx_a q_lossOf cyI 319 fo, kx_a q_value cyI 1914 uv, kx_a q_number cyI 1914 un, kx_3 h0 a_v a_n vs lo le, kx_a a_v cyI 12 fv, kx_a a_n cyI 12 fn] s.heap.size = A at hD ⊢
  have hA : ∀ q : Nat, s.heap.size ≤ q → A q := fun q h => by rw [← hAe]; exact Or.inr h
  have hS : va_S A s.heap s.heap [] := va_S.rf
  have hP : va_P (dC, dI) vwCl [kx_2 q_t q_row q_joined q_from q_to q_size q_lossOf q_lessBy q_value q_number nodes here, kx_a q_from cyI 319 ff, kx_a q_to cyI 319 ft, kx_a q_size cyI 319 fs, kx_a q_lossOf cyI 319 fo, kx_a q_value cyI 1914 uv, kx_a q_number cyI 1914 un, kx_3 h0 a_v a_n vs lo le, kx_a a_v cyI 12 fv, kx_a a_n cyI 12 fn] s.heap := hP
  have hl := lv_entry ([.ref q_t, .ref h0, .int p0, .int p1]) (n := 6) (Nat.le_of_ble_eq_true rfl)
  rw [lg_entry_eq]
  generalize (lg_sl ([.ref q_t, .ref h0, .int p0, .int p1]) ++ List.replicate (6 - (lg_sl ([.ref q_t, .ref h0, .int p0, .int p1])).length) Slot.unset).toArray = ls at hl ⊢
  have hl : lv_has ls 6 [(0, .ref q_t), (1, .ref h0), (2, .int p0), (3, .int p1)] := hl
  have hf_50 := hts (.fieldLink RX2 50 "MajorityIndex$Tree" "nodes" "I") (List.mem_of_getElem? (i := 1) rfl)
  have hi_2 : ∀ w ∈ u_ws RX2 TX2 11, w ∈ wsX2_gather := fun w h => List.mem_cons_of_mem _ (List.mem_append_left _ (List.mem_append_right _ h))
  have hf_22 := hts (.fieldLink RX2 22 "MajorityIndex$Tree" "to" "[I") (List.mem_of_getElem? (i := 2) rfl)
  have hf_85 := hts (.fieldLink RX2 85 "MajorityIndex$Tree" "slotsHere" "I") (List.mem_of_getElem? (i := 3) rfl)
  have n_nd := ki_nat nodes rfl (om_8 b0)
  have n_h := ki_nat here rfl (om_44 k0)
  refine lv_aload_n hx hb dX2_gather_0 rfl (lv_at hl 1 rfl) ?_
  have hPc := hP.sub (ws' := [kx_3 h0 a_v a_n vs lo le]) [7] rfl
  have hKc := hK.sub (tys' := []) [] rfl
  have hDc := hD.sub (ws' := [kx_3 h0 a_v a_n vs lo le]) [7] (by decide) rfl
  have hFc := va_free (wc := [kx_3 h0 a_v a_n vs lo le]) hD hS hA [7] rfl
  refine va_callv (va_runV (As := []) (rest := []) ⟨hx, hb, hml, hown, hts⟩ (c_X3_clear l dC dI h0 a_v a_n vs lo le s.heap.size) (cwV 0 hts gX2_gather_X3_clear rfl rfl rfl (by decide +kernel) ⟨Nat.le_of_ble_eq_true rfl, Nat.le_of_ble_eq_true rfl⟩) ⟨fun a U g mk q => by obtain ⟨q0, q1, qP, qK, qD⟩ := q; exact ⟨q0, q1, qP, va_K.moved (u := U) (U := U.calling g mk a) (Vm.Alike.refl U.vm) qK, qD⟩, va_recv hKc hPc (ci := 3) (q0 := 0) rfl rfl, fun U hU hW => ⟨rfl, by rw [hU], by rw [hU]; exact hPc, va_K.moved hW.alike hKc, hDc.weaken (fun _ _ _ _ => trivial)⟩⟩ rfl rfl hl.1 rfl (lv_room (Nat.le_of_ble_eq_true rfl)) dX2_gather_1 ⟨Nat.le_of_ble_eq_true rfl, Nat.le_of_ble_eq_true rfl⟩) hS (fun q _ h => hFc q h) hFc (fun u t H1 locs ht hvm w_1 hB hz1 hk1 hS => ?_)
  obtain ⟨hP1, hK1, hD1⟩ := hB
  rw [ht] at hP1
  have hK1 := va_K.moved hvm.symm hK1
  obtain ⟨hP, hD⟩ := va_join (wr := [kx_2 q_t q_row q_joined q_from q_to q_size q_lossOf q_lessBy q_value q_number nodes here, kx_a q_from cyI 319 ff, kx_a q_to cyI 319 ft, kx_a q_size cyI 319 fs, kx_a q_lossOf cyI 319 fo, kx_a q_value cyI 1914 uv, kx_a q_number cyI 1914 un, kx_a a_v cyI 12 fv, kx_a a_n cyI 12 fn]) (w1 := [kx_3 h0 a_v a_n 0 0 0]) hP hD [7] [0, 1, 2, 3, 4, 5, 6, 8, 9] rfl rfl (by decide) (by decide) hk1 hFc hP1 hD1
  clear hP1 hD1 hK1 hk1 hz1 hFc hDc hPc hKc
  generalize H1 = H at hP hS ⊢
  have hP : va_P (dC, dI) vwCl [kx_2 q_t q_row q_joined q_from q_to q_size q_lossOf q_lessBy q_value q_number nodes here, kx_a q_from cyI 319 ff, kx_a q_to cyI 319 ft, kx_a q_size cyI 319 fs, kx_a q_lossOf cyI 319 fo, kx_a q_value cyI 1914 uv, kx_a q_number cyI 1914 un, kx_a a_v cyI 12 fv, kx_a a_n cyI 12 fn, kx_3 h0 a_v a_n 0 0 0] H := hP
  have hD : va_D A [kx_2 q_t q_row q_joined q_from q_to q_size q_lossOf q_lessBy q_value q_number nodes here, kx_a q_from cyI 319 ff, kx_a q_to cyI 319 ft, kx_a q_size cyI 319 fs, kx_a q_lossOf cyI 319 fo, kx_a q_value cyI 1914 uv, kx_a q_number cyI 1914 un, kx_a a_v cyI 12 fv, kx_a a_n cyI 12 fn, kx_3 h0 a_v a_n 0 0 0] := hD
  refine lv_iload_n hx hb dX2_gather_4 rfl (lv_at hl 2 rfl) ?_
  refine lv_istore (lv' := [(4, .int p0), (0, .ref q_t), (1, .ref h0), (2, .int p0), (3, .int p1)]) hx hb dX2_gather_5 hl (by decide) rfl (fun ls hl => ?_)
  refine lv_iconst (v := 0) hx hb dX2_gather_7 (by decide) ?_
  refine lv_istore (lv' := [(5, .int 0), (4, .int p0), (0, .ref q_t), (1, .ref h0), (2, .int p0), (3, .int p1)]) hx hb dX2_gather_8 hl (by decide) rfl (fun ls hl => ?_)
  have LP1 : ∀ (n : Nat) (i : Int32) (nxt : Int32) (zz : Int32) (zl : Int32) (zb : Int32) (yv : Nat → Int32) (yn : Nat → Int32), (0 ≤ i.toInt) → (i.toInt ≤ nodes.toInt) → (nxt.toInt = mj_pb ff ft p0.toInt p1.toInt i.toNatClampNeg) → (mj_GA here.toNatClampNeg ff ft fs fo uv un p0.toInt p1.toInt (mj_pq ff ft p0.toInt p1.toInt i.toNatClampNeg) zz zl yv yn) → (0 ≤ zz.toInt) → (zz.toInt ≤ 6) → (nodes.toInt - i.toInt).toNat < n → ∀ (H : Heap) (locs : List Loc), va_P (dC, dI) vwCl [kx_2 q_t q_row q_joined q_from q_to q_size q_lossOf q_lessBy q_value q_number nodes here, kx_a q_from cyI 319 ff, kx_a q_to cyI 319 ft, kx_a q_size cyI 319 fs, kx_a q_lossOf cyI 319 fo, kx_a q_value cyI 1914 uv, kx_a q_number cyI 1914 un, kx_a a_v cyI 12 yv, kx_a a_n cyI 12 yn, kx_3 h0 a_v a_n zz zl zb] H → va_D A [kx_2 q_t q_row q_joined q_from q_to q_size q_lossOf q_lessBy q_value q_number nodes here, kx_a q_from cyI 319 ff, kx_a q_to cyI 319 ft, kx_a q_size cyI 319 fs, kx_a q_lossOf cyI 319 fo, kx_a q_value cyI 1914 uv, kx_a q_number cyI 1914 un, kx_a a_v cyI 12 yv, kx_a a_n cyI 12 yn, kx_3 h0 a_v a_n zz zl zb] → va_S A s.heap H locs → ∀ (ls : Array Slot), lv_has ls 6 [(5, .int i), (4, .int nxt), (0, .ref q_t), (1, .ref h0), (2, .int p0), (3, .int p1)] → W p l e (headSpec wsX2_gather ({ frames := 3, cells := 0, slots := 0, locals := 135 })).room s m ([.ref q_t, .ref h0, .int p0, .int p1] : List Value).toArray below meth c H locs 0 0 (MQ below (va_Qv (fun u : Int32 × Int32 × Int32 × (Nat → Int32) × (Nat → Int32) => mj_GA here.toNatClampNeg ff ft fs fo uv un p0.toInt p1.toInt (mj_pq ff ft p0.toInt p1.toInt nodes.toNatClampNeg) u.1 u.2.1 u.2.2.2.1 u.2.2.2.2 ∧ 0 ≤ u.1.toInt ∧ u.1.toInt ≤ here.toInt) (fun (u : Int32 × Int32 × Int32 × (Nat → Int32) × (Nat → Int32)) (t : State) => va_P (dC, dI) vwCl [kx_2 q_t q_row q_joined q_from q_to q_size q_lossOf q_lessBy q_value q_number nodes here, kx_a q_from cyI 319 ff, kx_a q_to cyI 319 ft, kx_a q_size cyI 319 fs, kx_a q_lossOf cyI 319 fo, kx_a q_value cyI 1914 uv, kx_a q_number cyI 1914 un, kx_3 h0 a_v a_n u.1 u.2.1 u.2.2.1, kx_a a_v cyI 12 u.2.2.2.1, kx_a a_n cyI 12 u.2.2.2.2] t.heap ∧ va_K (dC, dI) vwCl [(cyI, .int)] t ∧ va_D A [kx_2 q_t q_row q_joined q_from q_to q_size q_lossOf q_lessBy q_value q_number nodes here, kx_a q_from cyI 319 ff, kx_a q_to cyI 319 ft, kx_a q_size cyI 319 fs, kx_a q_lossOf cyI 319 fo, kx_a q_value cyI 1914 uv, kx_a q_number cyI 1914 un, kx_3 h0 a_v a_n u.1 u.2.1 u.2.2.1, kx_a a_v cyI 12 u.2.2.2.1, kx_a a_n cyI 12 u.2.2.2.2]) A) ([.ref q_t, .ref h0, .int p0, .int p1] : List Value).toArray s 0 0 A) (F0 m 10 ls []) := by
    intro n
    induction n with
    | zero => intro i nxt zz zl zb yv yn LP1_h0 LP1_h1 LP1_h2 LP1_h3 LP1_h4 LP1_h5 hn; exact absurd hn (Nat.not_lt_zero _)
    | succ n ih1 =>
      intro i nxt zz zl zb yv yn LP1_h0 LP1_h1 LP1_h2 LP1_h3 LP1_h4 LP1_h5 hn1 H locs hP hD hS ls hl
      have n_i := ki_nat i rfl (om_8 LP1_h0)
      refine lv_iload hx hb dX2_gather_10 (lv_at hl 0 rfl) ?_
      refine lv_aload_n hx hb dX2_gather_12 rfl (lv_at hl 2 rfl) ?_
      refine va_get (D := (dC, dI)) (ci := 2) (v := .int nodes) (C := RX2) (T := TX2) (N := 11) hx hb hts hi_2 hown hK hP 0 rfl rfl 9 (by decide) hf_50 (fun _ h9 => h9) rfl dX2_gather_13 ?_
      refine lv_icmp_ge (tgt := 61) hx hb dX2_gather_16 (by decide) (fun c_2 => ?_) (fun c_2 => ?_)
      · have i_2 : nodes.toInt ≤ i.toInt := kc_le c_2
        have hP9 := hP.sub (ws' := [kx_2 q_t q_row q_joined q_from q_to q_size q_lossOf q_lessBy q_value q_number nodes here, kx_a q_from cyI 319 ff, kx_a q_to cyI 319 ft, kx_a q_size cyI 319 fs, kx_a q_lossOf cyI 319 fo, kx_a q_value cyI 1914 uv, kx_a q_number cyI 1914 un, kx_3 h0 a_v a_n zz zl zb, kx_a a_v cyI 12 yv, kx_a a_n cyI 12 yn]) [0, 1, 2, 3, 4, 5, 6, 9, 7, 8] rfl
        have hD9 := hD.sub (ws' := [kx_2 q_t q_row q_joined q_from q_to q_size q_lossOf q_lessBy q_value q_number nodes here, kx_a q_from cyI 319 ff, kx_a q_to cyI 319 ft, kx_a q_size cyI 319 fs, kx_a q_lossOf cyI 319 fo, kx_a q_value cyI 1914 uv, kx_a q_number cyI 1914 un, kx_3 h0 a_v a_n zz zl zb, kx_a a_v cyI 12 yv, kx_a a_n cyI 12 yn]) [0, 1, 2, 3, 4, 5, 6, 9, 7, 8] (by decide) rfl
        have hK9 := hK
        have q_i : i.toNatClampNeg = nodes.toNatClampNeg := by omega
        have h_g := LP1_h3
        rw [q_i] at h_g
        have h_k : zz.toInt ≤ here.toInt := by obtain ⟨_, _, _, _, _, _, h9, _⟩ := h_g; omega
        exact W.vret hx hb hr (fun t ht hW => ⟨⟨(zz, zl, zb, yv, yn), rfl, ⟨h_g, (by (try dsimp only); omega), (by (try dsimp only); omega)⟩, by rw [ht]; exact hP9, va_K.moved hW.alike hK9, hD9⟩, hS.F ht⟩) hS.2.2 dX2_gather_61
      · have i_2 : i.toInt < nodes.toInt := kc_nle c_2
        refine lv_aload_n hx hb dX2_gather_19 rfl (lv_at hl 2 rfl) ?_
        refine lv_iload hx hb dX2_gather_20 (lv_at hl 0 rfl) ?_
        refine lv_iload hx hb dX2_gather_22 (lv_at hl 1 rfl) ?_
        refine lv_iload_n hx hb dX2_gather_24 rfl (lv_at hl 5 rfl) ?_
        have hPc := hP.sub (ws' := [kx_2 q_t q_row q_joined q_from q_to q_size q_lossOf q_lessBy q_value q_number nodes here, kx_a q_from cyI 319 ff, kx_a q_to cyI 319 ft]) [0, 1, 2] rfl
        have hKc := hK
        refine vp_callSi (W.runV (As := [.int i, .int nxt, .int p1]) (rest := []) ⟨hx, hb, hml, hown, hts⟩ (c_X2_isPart l dC dI q_t q_row q_joined q_from q_to q_size q_lossOf q_lessBy q_value q_number nodes here cyI ff ft i nxt p1 LP1_h0 (om_99 c0 i_2)) (cwV 3 hts gX2_gather_X2_isPart rfl rfl rfl (by decide +kernel) ⟨Nat.le_of_ble_eq_true rfl, Nat.le_of_ble_eq_true rfl⟩) ⟨fun a U g mk q => by obtain ⟨q0, qP, qK⟩ := q; exact ⟨q0, qP, va_K.moved (u := U) (U := U.calling g mk a) (Vm.Alike.refl U.vm) qK⟩, va_recv hKc hPc (ci := 2) (q0 := 0) rfl rfl, fun U hU hW => ⟨rfl, by rw [hU]; exact hPc, va_K.moved hW.alike hKc⟩⟩ rfl rfl hl.1 rfl (lv_room (Nat.le_of_ble_eq_true rfl)) dX2_gather_25 ⟨Nat.le_of_ble_eq_true rfl, Nat.le_of_ble_eq_true rfl⟩) (fun r_3 w_3 => ?_)
        rcases w_3 with ⟨rfl, w_3⟩ | ⟨rfl, w_3⟩
        · have w_3 : ((ff i.toNatClampNeg).toInt = nxt.toInt ∧ (ft i.toNatClampNeg).toInt ≤ p1.toInt) := w_3
          refine lv_if_eq (tgt := 55) hx hb dX2_gather_28 (by decide) (fun c_4 => ?_) (fun c_4 => ?_)
          · exact absurd c_4 (by decide)
          · refine lv_aload_n hx hb dX2_gather_31 rfl (lv_at hl 2 rfl) ?_
            refine va_get (D := (dC, dI)) (ci := 2) (v := .ref q_to) (C := RX2) (T := TX2) (N := 11) hx hb hts hi_2 hown hK hP 0 rfl rfl 3 (by decide) hf_22 (fun _ h9 => h9) rfl dX2_gather_32 ?_
            refine lv_iload hx hb dX2_gather_35 (lv_at hl 0 rfl) ?_
            refine va_iald hx hb hK hP 2 0 rfl rfl (ki_in (om_8 LP1_h0) (om_92 c0 i_2)) dX2_gather_37 ?_
            refine lv_topi (fun y_5 ey_5 => ?_)
            have j_5 : y_5.toInt = (ft i.toNatClampNeg).toInt := congrArg Int32.toInt ey_5
            refine lv_istore (lv' := [(4, .int y_5), (5, .int i), (0, .ref q_t), (1, .ref h0), (2, .int p0), (3, .int p1)]) hx hb dX2_gather_38 hl (by decide) rfl (fun ls hl => ?_)
            refine lv_aload_n hx hb dX2_gather_40 rfl (lv_at hl 2 rfl) ?_
            refine lv_aload_n hx hb dX2_gather_41 rfl (lv_at hl 3 rfl) ?_
            refine lv_iload hx hb dX2_gather_42 (lv_at hl 1 rfl) ?_
            obtain ⟨mua, L0, hH, hva, hsa, c0, cK, eL, hba⟩ := LP1_h3
            obtain ⟨w0, w6, wK, mub, hvb, hsb, hbb⟩ := mj_ok_vs (hok i.toNatClampNeg (by omega)) t0 (by omega) c1
            have hpq := mj_pq_le ff ft p0.toInt p1.toInt i.toNatClampNeg
            have hPc := hP.sub (ws' := [kx_2 q_t q_row q_joined q_from q_to q_size q_lossOf q_lessBy q_value q_number nodes here, kx_a q_size cyI 319 fs, kx_a q_lossOf cyI 319 fo, kx_a q_value cyI 1914 uv, kx_a q_number cyI 1914 un, kx_3 h0 a_v a_n zz zl zb, kx_a a_v cyI 12 yv, kx_a a_n cyI 12 yn]) [0, 3, 4, 5, 6, 9, 7, 8] rfl
            have hKc := hK
            have hDc := hD.sub (ws' := [kx_2 q_t q_row q_joined q_from q_to q_size q_lossOf q_lessBy q_value q_number nodes here, kx_a q_size cyI 319 fs, kx_a q_lossOf cyI 319 fo, kx_a q_value cyI 1914 uv, kx_a q_number cyI 1914 un, kx_3 h0 a_v a_n zz zl zb, kx_a a_v cyI 12 yv, kx_a a_n cyI 12 yn]) [0, 3, 4, 5, 6, 9, 7, 8] (by decide) rfl
            have hFc := va_free (wc := [kx_2 q_t q_row q_joined q_from q_to q_size q_lossOf q_lessBy q_value q_number nodes here, kx_a q_size cyI 319 fs, kx_a q_lossOf cyI 319 fo, kx_a q_value cyI 1914 uv, kx_a q_number cyI 1914 un, kx_3 h0 a_v a_n zz zl zb, kx_a a_v cyI 12 yv, kx_a a_n cyI 12 yn]) hD hS hA [0, 3, 4, 5, 6, 9, 7, 8] rfl
            refine va_callv (va_runV (As := [.ref h0, .int i]) (rest := []) ⟨hx, hb, hml, hown, hts⟩ (c_X2_joinNode_x l dC dI q_t q_row q_joined q_from q_to q_size q_lossOf q_lessBy q_value q_number nodes here h0 a_v a_n cyI zz zl zb yv yn fs fo uv un mua mub i H.size (by omega) (by omega) (by omega) (by omega) w0 w6 hva hvb (fun v => by have h1 := hba v; have h2 := hbb v; omega)) (cwV 2 hts gX2_gather_X2_joinNode rfl rfl rfl (by decide +kernel) ⟨Nat.le_of_ble_eq_true rfl, Nat.le_of_ble_eq_true rfl⟩) ⟨fun a U g mk q => by obtain ⟨q0, q1, qP, qK, qD⟩ := q; exact ⟨q0, q1, qP, va_K.moved (u := U) (U := U.calling g mk a) (Vm.Alike.refl U.vm) qK, qD⟩, va_recv hKc hPc (ci := 2) (q0 := 0) rfl rfl, fun U hU hW => ⟨rfl, by rw [hU], by rw [hU]; exact hPc, va_K.moved hW.alike hKc, hDc.weaken (fun _ _ _ _ => trivial)⟩⟩ rfl rfl hl.1 rfl (lv_room (Nat.le_of_ble_eq_true rfl)) dX2_gather_44 ⟨Nat.le_of_ble_eq_true rfl, Nat.le_of_ble_eq_true rfl⟩) hS (fun q _ h => hFc q h) hFc (fun u t H1 locs ht hvm w_6 hB hz1 hk1 hS => ?_)
            obtain ⟨o_7, o_8, o_9, o_10⟩ := u
            dsimp only at w_6 hB
            obtain ⟨hP1, hK1, hD1⟩ := hB
            rw [ht] at hP1
            have hK1 := va_K.moved hvm.symm hK1
            obtain ⟨hP, hD⟩ := va_join (wr := [kx_a q_from cyI 319 ff, kx_a q_to cyI 319 ft]) (w1 := [kx_2 q_t q_row q_joined q_from q_to q_size q_lossOf q_lessBy q_value q_number nodes here, kx_a q_size cyI 319 fs, kx_a q_lossOf cyI 319 fo, kx_a q_value cyI 1914 uv, kx_a q_number cyI 1914 un, kx_3 h0 a_v a_n o_7 o_8 zb, kx_a a_v cyI 12 o_9, kx_a a_n cyI 12 o_10]) hP hD [0, 3, 4, 5, 6, 9, 7, 8] [1, 2] rfl rfl (by decide) (by decide) hk1 hFc hP1 hD1
            clear hP1 hD1 hK1 hk1 hz1 hFc hDc hPc hKc
            generalize H1 = H at hP hS ⊢
            have hP : va_P (dC, dI) vwCl [kx_a q_from cyI 319 ff, kx_a q_to cyI 319 ft, kx_2 q_t q_row q_joined q_from q_to q_size q_lossOf q_lessBy q_value q_number nodes here, kx_a q_size cyI 319 fs, kx_a q_lossOf cyI 319 fo, kx_a q_value cyI 1914 uv, kx_a q_number cyI 1914 un, kx_3 h0 a_v a_n o_7 o_8 zb, kx_a a_v cyI 12 o_9, kx_a a_n cyI 12 o_10] H := hP
            have hD : va_D A [kx_a q_from cyI 319 ff, kx_a q_to cyI 319 ft, kx_2 q_t q_row q_joined q_from q_to q_size q_lossOf q_lessBy q_value q_number nodes here, kx_a q_size cyI 319 fs, kx_a q_lossOf cyI 319 fo, kx_a q_value cyI 1914 uv, kx_a q_number cyI 1914 un, kx_3 h0 a_v a_n o_7 o_8 zb, kx_a a_v cyI 12 o_9, kx_a a_n cyI 12 o_10] := hD
            have w_6 : mj_vs o_9 o_10 0 o_7.toNatClampNeg (fun w => mua w + mub w) ∧ o_8 = zl + fo i.toNatClampNeg ∧ 0 ≤ o_7.toInt ∧ o_7.toInt ≤ zz.toInt + (fs i.toNatClampNeg).toInt := w_6
            refine lv_aload_n hx hb dX2_gather_47 rfl (lv_at hl 3 rfl) ?_
            refine lv_aload_n hx hb dX2_gather_48 rfl (lv_at hl 2 rfl) ?_
            refine va_get (D := (dC, dI)) (ci := 2) (v := .int here) (C := RX2) (T := TX2) (N := 11) hx hb hts hi_2 hown hK hP 2 rfl rfl 10 (by decide) hf_85 (fun _ h9 => h9) rfl dX2_gather_49 ?_
            have hPc := hP.sub (ws' := [kx_3 h0 a_v a_n o_7 o_8 zb, kx_a a_v cyI 12 o_9, kx_a a_n cyI 12 o_10]) [7, 8, 9] rfl
            have hKc := hK
            have hDc := hD.sub (ws' := [kx_3 h0 a_v a_n o_7 o_8 zb, kx_a a_v cyI 12 o_9, kx_a a_n cyI 12 o_10]) [7, 8, 9] (by decide) rfl
            have hFc := va_free (wc := [kx_3 h0 a_v a_n o_7 o_8 zb, kx_a a_v cyI 12 o_9, kx_a a_n cyI 12 o_10]) hD hS hA [7, 8, 9] rfl
            refine va_callv (va_runV (As := [.int here]) (rest := []) ⟨hx, hb, hml, hown, hts⟩ (c_X3_cancel_x l dC dI h0 a_v a_n cyI o_7 o_8 zb o_9 o_10 (fun w => mua w + mub w) here H.size (by omega) (by omega) (by omega) (by omega) w_6.1 (fun v => by have h1 := hba v; have h2 := hbb v; (try dsimp only); omega)) (cwV 1 hts gX2_gather_X3_cancel rfl rfl rfl (by decide +kernel) ⟨Nat.le_of_ble_eq_true rfl, Nat.le_of_ble_eq_true rfl⟩) ⟨fun a U g mk q => by obtain ⟨q0, q1, qP, qK, qD⟩ := q; exact ⟨q0, q1, qP, va_K.moved (u := U) (U := U.calling g mk a) (Vm.Alike.refl U.vm) qK, qD⟩, va_recv hKc hPc (ci := 3) (q0 := 0) rfl rfl, fun U hU hW => ⟨rfl, by rw [hU], by rw [hU]; exact hPc, va_K.moved hW.alike hKc, hDc.weaken (fun _ _ _ _ => trivial)⟩⟩ rfl rfl hl.1 rfl (lv_room (Nat.le_of_ble_eq_true rfl)) dX2_gather_52 ⟨Nat.le_of_ble_eq_true rfl, Nat.le_of_ble_eq_true rfl⟩) hS (fun q _ h => hFc q h) hFc (fun u t H1 locs ht hvm w_11 hB hz1 hk1 hS => ?_)
            obtain ⟨o_12, o_13, o_14, o_15, o_16, o_17⟩ := u
            dsimp only at w_11 hB
            obtain ⟨hP1, hK1, hD1⟩ := hB
            rw [ht] at hP1
            have hK1 := va_K.moved hvm.symm hK1
            obtain ⟨hP, hD⟩ := va_join (wr := [kx_a q_from cyI 319 ff, kx_a q_to cyI 319 ft, kx_2 q_t q_row q_joined q_from q_to q_size q_lossOf q_lessBy q_value q_number nodes here, kx_a q_size cyI 319 fs, kx_a q_lossOf cyI 319 fo, kx_a q_value cyI 1914 uv, kx_a q_number cyI 1914 un]) (w1 := [kx_3 h0 a_v a_n o_12 o_13 o_14, kx_a a_v cyI 12 o_15, kx_a a_n cyI 12 o_16]) hP hD [7, 8, 9] [0, 1, 2, 3, 4, 5, 6] rfl rfl (by decide) (by decide) hk1 hFc hP1 hD1
            clear hP1 hD1 hK1 hk1 hz1 hFc hDc hPc hKc
            generalize H1 = H at hP hS ⊢
            have hP : va_P (dC, dI) vwCl [kx_a q_from cyI 319 ff, kx_a q_to cyI 319 ft, kx_2 q_t q_row q_joined q_from q_to q_size q_lossOf q_lessBy q_value q_number nodes here, kx_a q_size cyI 319 fs, kx_a q_lossOf cyI 319 fo, kx_a q_value cyI 1914 uv, kx_a q_number cyI 1914 un, kx_3 h0 a_v a_n o_12 o_13 o_14, kx_a a_v cyI 12 o_15, kx_a a_n cyI 12 o_16] H := hP
            have hD : va_D A [kx_a q_from cyI 319 ff, kx_a q_to cyI 319 ft, kx_2 q_t q_row q_joined q_from q_to q_size q_lossOf q_lessBy q_value q_number nodes here, kx_a q_size cyI 319 fs, kx_a q_lossOf cyI 319 fo, kx_a q_value cyI 1914 uv, kx_a q_number cyI 1914 un, kx_3 h0 a_v a_n o_12 o_13 o_14, kx_a a_v cyI 12 o_15, kx_a a_n cyI 12 o_16] := hD
            have w_11 : mj_can here.toNatClampNeg (fun w => mua w + mub w) o_17 o_14 ∧ o_13 = o_8 + o_14 ∧ 0 ≤ o_12.toInt ∧ o_12.toInt ≤ here.toInt ∧ mj_vs o_15 o_16 0 o_12.toNatClampNeg o_17 ∧ mj_srt o_15 o_16 0 o_12.toNatClampNeg ∧ 0 ≤ o_14.toInt := w_11
            obtain ⟨x_18, ex_18⟩ : ∃ y : Int32, y = i + 1 := ⟨_, rfl⟩
            have i_18 : x_18.toInt = i.toInt + 1 := ki_add ex_18 rfl rfl (om_10 LP1_h0) (by omega)
            refine lv_iinc (v := x_18) (lv' := [(5, .int x_18), (4, .int y_5), (0, .ref q_t), (1, .ref h0), (2, .int p0), (3, .int p1)]) hx hb dX2_gather_55 hl (k := 1) rfl (by rw [ex_18]; rfl) (by decide) rfl (fun ls hl => ?_)
            refine lv_goto (tgt := 10) hx hb dX2_gather_58 (by decide) ?_
            have hP : va_P (dC, dI) vwCl [kx_2 q_t q_row q_joined q_from q_to q_size q_lossOf q_lessBy q_value q_number nodes here, kx_a q_from cyI 319 ff, kx_a q_to cyI 319 ft, kx_a q_size cyI 319 fs, kx_a q_lossOf cyI 319 fo, kx_a q_value cyI 1914 uv, kx_a q_number cyI 1914 un, kx_a a_v cyI 12 o_15, kx_a a_n cyI 12 o_16, kx_3 h0 a_v a_n o_12 o_13 o_14] _ := hP.sub [2, 0, 1, 3, 4, 5, 6, 8, 9, 7] rfl
            have hD : va_D A [kx_2 q_t q_row q_joined q_from q_to q_size q_lossOf q_lessBy q_value q_number nodes here, kx_a q_from cyI 319 ff, kx_a q_to cyI 319 ft, kx_a q_size cyI 319 fs, kx_a q_lossOf cyI 319 fo, kx_a q_value cyI 1914 uv, kx_a q_number cyI 1914 un, kx_a a_v cyI 12 o_15, kx_a a_n cyI 12 o_16, kx_3 h0 a_v a_n o_12 o_13 o_14] := hD.sub [2, 0, 1, 3, 4, 5, 6, 8, 9, 7] (by decide) rfl
            have n_19 := ki_nat x_18 rfl (om_31 LP1_h0 i_18)
            have isp : mj_isp ff ft p0.toInt p1.toInt i.toNatClampNeg := by unfold mj_isp; omega
            have st2 : mj_pb ff ft p0.toInt p1.toInt x_18.toNatClampNeg = (ft i.toNatClampNeg).toInt ∧ mj_pq ff ft p0.toInt p1.toInt x_18.toNatClampNeg = mj_pq ff ft p0.toInt p1.toInt i.toNatClampNeg + 1 := mj_pbq_yes isp (by omega)
            exact ih1 x_18 y_5 o_12 o_13 o_14 o_15 o_16 (om_31 LP1_h0 i_18) (om_47 i_2 i_18) (by rw [st2.1]; omega) (mj_GA_step hH (by omega) isp rfl w0 w6 hvb w_11.1 eL w_6.2.1 w_11.2.1 w_11.2.2.2.2.1 w_11.2.2.2.2.2.1 (by omega) (by omega) hba hbb st2.2) (om_8 w_11.2.2.1) (om_332 k1 w_11.2.2.2.1) (om_mu hn1 (om_5 i_18) (om_6 i_2)) _ _ hP hD hS ls (lv_sub hl [0, 1, 2, 3, 4, 5] rfl)
        · have w_3 : (¬ (ff i.toNatClampNeg).toInt = nxt.toInt ∨ p1.toInt < (ft i.toNatClampNeg).toInt) := w_3
          refine lv_if_eq (tgt := 55) hx hb dX2_gather_28 (by decide) (fun c_20 => ?_) (fun c_20 => ?_)
          · obtain ⟨x_21, ex_21⟩ : ∃ y : Int32, y = i + 1 := ⟨_, rfl⟩
            have i_21 : x_21.toInt = i.toInt + 1 := ki_add ex_21 rfl rfl (om_10 LP1_h0) (om_249 c0 LP1_h1)
            refine lv_iinc (v := x_21) (lv' := [(5, .int x_21), (4, .int nxt), (0, .ref q_t), (1, .ref h0), (2, .int p0), (3, .int p1)]) hx hb dX2_gather_55 hl (k := 0) rfl (by rw [ex_21]; rfl) (by decide) rfl (fun ls hl => ?_)
            refine lv_goto (tgt := 10) hx hb dX2_gather_58 (by decide) ?_
            have n_22 := ki_nat x_21 rfl (om_31 LP1_h0 i_21)
            have st2 : mj_pb ff ft p0.toInt p1.toInt x_21.toNatClampNeg = mj_pb ff ft p0.toInt p1.toInt i.toNatClampNeg ∧ mj_pq ff ft p0.toInt p1.toInt x_21.toNatClampNeg = mj_pq ff ft p0.toInt p1.toInt i.toNatClampNeg := mj_pbq_no (fun h => by unfold mj_isp at h; omega) (by omega)
            exact ih1 x_21 nxt zz zl zb yv yn (om_31 LP1_h0 i_21) (om_47 i_2 i_21) (by rw [st2.1]; omega) (by rw [st2.2]; exact LP1_h3) (om_8 LP1_h4) (om_335 LP1_h5) (om_mu hn1 (om_5 i_21) (om_6 i_2)) _ _ hP hD hS ls (lv_sub hl [0, 1, 2, 3, 4, 5] rfl)
          · exact absurd c_20 (by decide)
  have k_23 : (0 : Int32).toInt = 0 := rfl
  have k_24 : (0 : Int32).toInt = 0 := rfl
  have k_25 : (0 : Int32).toInt = 0 := rfl
  have k_26 : (0 : Int32).toInt = 0 := rfl
  exact LP1 ((nodes.toInt - 0 : Int).toNat + 1) 0 p0 0 0 0 fv fn om_32 (om_8 b0) rfl (mj_GA_0 _ _ _ _ _ _ _ _ _ _ _ rfl) om_32 om_247 (Nat.lt_succ_self _) _ _ hP hD hS ls (lv_sub hl [0, 1, 2, 3, 4, 5] rfl)


