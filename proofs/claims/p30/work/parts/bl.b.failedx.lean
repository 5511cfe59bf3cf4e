def mj_hp (p q n : Int) (V : Nat → Int32) (g : Int32 → Int) : Nat → Int32 → Int
  | 0, _ => 0
  | i + 1, v => mj_hp p q n V g i v + (if V i = v ∧ p * n < g v * q then g v else 0)
def mj_hk (p q n : Int) (V : Nat → Int32) (g : Int32 → Int) : Nat → Nat
  | 0 => 0
  | i + 1 => mj_hk p q n V g i + (if p * n < g (V i) * q then 1 else 0)
theorem mj_hk_yes {p q n : Int} {V : Nat → Int32} {g : Int32 → Int} {i i2 : Nat} (h : p * n < g (V i) * q) (e : i2 = i + 1) : mj_hk p q n V g i2 = mj_hk p q n V g i + 1 := by
  subst e
  simp only [mj_hk]
  rw [if_pos h]
theorem mj_hk_no {p q n : Int} {V : Nat → Int32} {g : Int32 → Int} {i i2 : Nat} (h : g (V i) * q ≤ p * n) (e : i2 = i + 1) : mj_hk p q n V g i2 = mj_hk p q n V g i := by
  subst e
  simp only [mj_hk]
  rw [if_neg (Int.not_lt.mpr h), Nat.add_zero]
theorem mj_hk_le (p q n : Int) (V : Nat → Int32) (g : Int32 → Int) : ∀ i : Nat, mj_hk p q n V g i ≤ i
  | 0 => Nat.le_refl 0
  | i + 1 => by
    have := mj_hk_le p q n V g i
    simp only [mj_hk]
    split <;> omega
theorem mj_hp_supp {p q n : Int} {V : Nat → Int32} {g : Int32 → Int} : ∀ (i : Nat) (v : Int32), ¬ mj_hp p q n V g i v = 0 → ∃ j : Nat, j < i ∧ V j = v
  | 0, v, h => absurd rfl h
  | i + 1, v, h => by
    by_cases e : V i = v
    · exact ⟨i, by omega, e⟩
    · simp only [mj_hp] at h
      rw [if_neg (show ¬ (V i = v ∧ p * n < g v * q) from fun c => e c.1), Int.add_zero] at h
      obtain ⟨j, h1, h2⟩ := mj_hp_supp i v h
      exact ⟨j, by omega, h2⟩
theorem mj_hp_no {p q n : Int} {V : Nat → Int32} {g : Int32 → Int} {i i2 : Nat} (h : g (V i) * q ≤ p * n) (e : i2 = i + 1) (v : Int32) : mj_hp p q n V g i2 v = mj_hp p q n V g i v := by
  subst e
  simp only [mj_hp]
  rw [if_neg (show ¬ (V i = v ∧ p * n < g v * q) from fun c => absurd c.2 (by rw [← c.1]; exact Int.not_lt.mpr h)), Int.add_zero]
theorem mj_hp_yes {p q n : Int} {V : Nat → Int32} {g : Int32 → Int} {i i2 : Nat} (h : p * n < g (V i) * q) (e : i2 = i + 1) (v : Int32) : mj_hp p q n V g i2 v = mj_hp p q n V g i v + (if v = V i then g (V i) else 0) := by
  subst e
  simp only [mj_hp]
  by_cases c : V i = v
  · subst c
    rw [if_pos (And.intro rfl h), if_pos rfl]
  · rw [if_neg (show ¬ (V i = v ∧ p * n < g v * q) from fun z => c z.1), if_neg (show ¬ v = V i from fun z => c z.symm)]
theorem mj_kh_0 {p q n : Int} {V V2 N2 : Nat → Int32} {g : Int32 → Int} {m i : Nat} (hm : m = 0) (hi : i = 0) : mj_vs V2 N2 0 m (mj_hp p q n V g i) := by
  subst hm; subst hi
  exact mj_vs_congr (mj_vs_zero _ _ _) (fun w => rfl)
theorem mj_kh_yes {p q n : Int} {V N kv kn : Nat → Int32} {g : Int32 → Int} {i i2 k k2 m : Nat} (h : mj_vs kv kn 0 k (mj_hp p q n V g i)) (hv : p * n < (N i).toInt * q) (hN : (N i).toInt = g (V i)) (hpos : 0 < (N i).toInt) (hb : (N i).toInt ≤ 1000) (dist : ∀ a b : Nat, a < m → b < m → V a = V b → a = b) (him : i < m) (hki : k ≤ i) (hun : kv i = V i ∧ kn i = N i) (e : i2 = i + 1) (e2 : k2 = k + 1) : mj_vs (mj_ex kv i k) (mj_ex kn i k) 0 k2 (mj_hp p q n V g i2) := by
  subst e; subst e2
  have h9 : mj_hp p q n V g i (V i) = 0 := by
    by_cases c : mj_hp p q n V g i (V i) = 0
    · exact c
    · obtain ⟨a, a1, a2⟩ := mj_hp_supp i (V i) c
      have := dist a i (by omega) him a2
      omega
  have new : ∀ j : Nat, j < k → ¬ kv j = V i := fun j hj c => by
    have h1 := (h.1 j hj).2
    rw [Nat.zero_add, c, h9] at h1
    omega
  have ad : mj_vs (upd kv k (V i)) (upd kn k (N i)) 0 (k + 1) (fun w => mj_hp p q n V g i w + (if w = V i then (N i).toInt else 0)) := mj_vs_add h hpos (by rw [h9]; omega) (Or.inr ⟨new, rfl, rfl, rfl⟩)
  refine mj_vs_congr (mj_vs_seg ad (fun j hj => ?_)) (fun w => ?_)
  · rw [Nat.zero_add]
    by_cases c : j = k
    · rw [c, mj_ex_k, mj_ex_k, upd_at, upd_at, hun.1, hun.2]
      exact ⟨rfl, rfl⟩
    · rw [mj_ex_o (by omega) c, mj_ex_o (by omega) c, upd_ne c, upd_ne c]
      exact ⟨rfl, rfl⟩
  · rw [mj_hp_yes (by rw [← hN]; exact hv) rfl, hN]

set_option maxHeartbeats 4000000 in
set_option maxRecDepth 100000 in
theorem c_X3_keepHeavy_x (l : Launch) (dC : Nat → ClassId) (dI : Nat → Nat → Nat) (h0 : Nat) (a_v : Nat) (a_n : Nat) (cyI : ClassId) (vs : Int32) (lo : Int32) (le : Int32) (fv : Nat → Int32) (fn : Nat → Int32) (g9 : Int32 → Int) (p0 : Int32) (p1 : Int32) (p2 : Int32) (sz : Nat) (a0 : 0 ≤ vs.toInt) (a1 : vs.toInt ≤ 12) (b0 : 0 ≤ p0.toInt) (b1 : p0.toInt ≤ 320) (b2 : 1 ≤ p1.toInt) (b3 : p1.toInt ≤ 999) (b4 : 1 ≤ p2.toInt) (b5 : p2.toInt ≤ 999) (gn : ∀ j : Nat, j < vs.toNatClampNeg → (fn j).toInt = g9 (fv j) ∧ 0 ≤ (fn j).toInt ∧ (fn j).toInt ≤ 320) (ds : ∀ a b : Nat, a < vs.toNatClampNeg → b < vs.toNatClampNeg → fv a = fv b → a = b) : Met l yX3_keepHeavy wsX3_keepHeavy ({ frames := 2, cells := 0, slots := 0, locals := 90 }) (va_Pc [.ref h0, .int p0, .int p1, .int p2] (fun U => U.heap.size = sz ∧ va_P (dC, dI) vwCl [kx_3 h0 a_v a_n vs lo le, kx_a a_v cyI 12 fv, kx_a a_n cyI 12 fn] U.heap ∧ va_K (dC, dI) vwCl [(cyI, .int)] U ∧ va_D (fun _ => True) [kx_3 h0 a_v a_n vs lo le, kx_a a_v cyI 12 fv, kx_a a_n cyI 12 fn] ∧ va_Nw (.methodLinkNest RX3 42 yX4_isHeavy RX4) U)) (va_Qv (fun u : Int32 × (Nat → Int32) × (Nat → Int32) => mj_vs u.2.1 u.2.2 0 u.1.toNatClampNeg (mj_hp p1.toInt p2.toInt p0.toInt fv g9 vs.toNatClampNeg) ∧ mj_srt u.2.1 u.2.2 0 u.1.toNatClampNeg ∧ u.1.toInt = (mj_hk p1.toInt p2.toInt p0.toInt fv g9 vs.toNatClampNeg : Int) ∧ 0 ≤ u.1.toInt ∧ u.1.toInt ≤ vs.toInt) (fun (u : Int32 × (Nat → Int32) × (Nat → Int32)) (t : State) => va_P (dC, dI) vwCl [kx_3 h0 a_v a_n u.1 lo le, kx_a a_v cyI 12 u.2.1, kx_a a_n cyI 12 u.2.2] t.heap ∧ va_K (dC, dI) vwCl [(cyI, .int)] t ∧ va_D (va_A [kx_3 h0 a_v a_n vs lo le, kx_a a_v cyI 12 fv, kx_a a_n cyI 12 fn] sz) [kx_3 h0 a_v a_n u.1 lo le, kx_a a_v cyI 12 u.2.1, kx_a a_n cyI 12 u.2.2]) (va_A [kx_3 h0 a_v a_n vs lo le, kx_a a_v cyI 12 fv, kx_a a_n cyI 12 fn] sz)) 0 0 (va_A [kx_3 h0 a_v a_n vs lo le, kx_a a_v cyI 12 fv, kx_a a_n cyI 12 fn] sz) := by
  refine Met.ofW (cc := cX3_keepHeavy) (maxL := 6) (ret := none) (by decide) rfl ?_
  intro p e s m args below meth c s₁ B hml hv
  obtain ⟨rfl, hsz, hP, hK, hD0, hN0⟩ := hv
  have hx := B.exec
  have hb := B.bytes
  have hr := B.returns
  have hts := atoms_spec (ws := wsX3_keepHeavy) B.pre
  have hown : s.vm.findClass RX3 = some m.cls := findClass_of_methodNamed B.named
  have hlocks := B.notSynchronized
  subst hsz
  have hD := hD0.self (sz := s.heap.size)
  generalize hAe : va_A [kx_3 h0 a_v a_n vs lo le, kx_a a_v cyI 12 fv, kx_a a_n cyI 12 fn] s.heap.size = A at hD ⊢
  have hA : ∀ q : Nat, s.heap.size ≤ q → A q := fun q h => by rw [← hAe]; exact Or.inr h
  have hS : va_S A s.heap s.heap [] := va_S.rf
  have hP : va_P (dC, dI) vwCl [kx_3 h0 a_v a_n vs lo le, kx_a a_v cyI 12 fv, kx_a a_n cyI 12 fn] s.heap := hP
  have hl := lv_entry ([.ref h0, .int p0, .int p1, .int p2]) (n := 6) (Nat.le_of_ble_eq_true rfl)
  rw [lg_entry_eq]
  generalize (lg_sl ([.ref h0, .int p0, .int p1, .int p2]) ++ List.replicate (6 - (lg_sl ([.ref h0, .int p0, .int p1, .int p2])).length) Slot.unset).toArray = ls at hl ⊢
  have hl : lv_has ls 6 [(0, .ref h0), (1, .int p0), (2, .int p1), (3, .int p2)] := hl
  have hf_18 := hts (.fieldLink RX3 18 "MajorityIndex$Votes" "size" "I") (List.mem_of_getElem? (i := 1) rfl)
  have hi_3 : ∀ w ∈ u_ws RX3 TX3 5, w ∈ wsX3_keepHeavy := fun w h => List.mem_cons_of_mem _ (List.mem_append_right _ h)
  have hf_15 := hts (.fieldLink RX3 15 "MajorityIndex$Votes" "number" "[I") (List.mem_of_getElem? (i := 2) rfl)
  have hz_RX4 := hts (.initialized RX4) (List.mem_of_getElem? (i := 4) rfl)
  have ht_X4_isHeavy := hts (.static yX4_isHeavy) (List.mem_of_getElem? (i := 3) rfl)
  have n_vs := ki_nat vs rfl (by omega)
  refine lv_iconst (v := 0) hx hb dX3_keepHeavy_0 (by decide) ?_
  refine lv_istore (lv' := [(4, .int 0), (0, .ref h0), (1, .int p0), (2, .int p1), (3, .int p2)]) hx hb dX3_keepHeavy_1 hl (by decide) rfl (fun ls hl => ?_)
  refine lv_iconst (v := 0) hx hb dX3_keepHeavy_3 (by decide) ?_
  refine lv_istore (lv' := [(5, .int 0), (4, .int 0), (0, .ref h0), (1, .int p0), (2, .int p1), (3, .int p2)]) hx hb dX3_keepHeavy_4 hl (by decide) rfl (fun ls hl => ?_)
  have LP1 : ∀ (n : Nat) (i : Int32) (kp : Int32) (kv : Nat → Int32) (kn : Nat → Int32), (0 ≤ i.toInt) → (i.toInt ≤ vs.toInt) → (0 ≤ kp.toInt) → (kp.toInt = (mj_hk p1.toInt p2.toInt p0.toInt fv g9 i.toNatClampNeg : Int)) → (mj_vs kv kn 0 kp.toNatClampNeg (mj_hp p1.toInt p2.toInt p0.toInt fv g9 i.toNatClampNeg)) → (∀ j : Nat, i.toNatClampNeg ≤ j → kv j = fv j ∧ kn j = fn j) → (vs.toInt - i.toInt).toNat < n → ∀ (H : Heap) (locs : List Loc), va_P (dC, dI) vwCl [kx_3 h0 a_v a_n vs lo le, kx_a a_v cyI 12 kv, kx_a a_n cyI 12 kn] H → va_D A [kx_3 h0 a_v a_n vs lo le, kx_a a_v cyI 12 kv, kx_a a_n cyI 12 kn] → va_S A s.heap H locs → ∀ (ls : Array Slot), lv_has ls 6 [(5, .int i), (4, .int kp), (0, .ref h0), (1, .int p0), (2, .int p1), (3, .int p2)] → W p l e (headSpec wsX3_keepHeavy ({ frames := 2, cells := 0, slots := 0, locals := 90 })).room s m ([.ref h0, .int p0, .int p1, .int p2] : List Value).toArray below meth c H locs 0 0 (MQ below (va_Qv (fun u : Int32 × (Nat → Int32) × (Nat → Int32) => mj_vs u.2.1 u.2.2 0 u.1.toNatClampNeg (mj_hp p1.toInt p2.toInt p0.toInt fv g9 vs.toNatClampNeg) ∧ mj_srt u.2.1 u.2.2 0 u.1.toNatClampNeg ∧ u.1.toInt = (mj_hk p1.toInt p2.toInt p0.toInt fv g9 vs.toNatClampNeg : Int) ∧ 0 ≤ u.1.toInt ∧ u.1.toInt ≤ vs.toInt) (fun (u : Int32 × (Nat → Int32) × (Nat → Int32)) (t : State) => va_P (dC, dI) vwCl [kx_3 h0 a_v a_n u.1 lo le, kx_a a_v cyI 12 u.2.1, kx_a a_n cyI 12 u.2.2] t.heap ∧ va_K (dC, dI) vwCl [(cyI, .int)] t ∧ va_D A [kx_3 h0 a_v a_n u.1 lo le, kx_a a_v cyI 12 u.2.1, kx_a a_n cyI 12 u.2.2]) A) ([.ref h0, .int p0, .int p1, .int p2] : List Value).toArray s 0 0 A) (F0 m 6 ls []) := by
    intro n
    induction n with
    | zero => intro i kp kv kn LP1_h0 LP1_h1 LP1_h2 LP1_h3 LP1_h4 LP1_h5 hn; exact absurd hn (Nat.not_lt_zero _)
    | succ n ih1 =>
      intro i kp kv kn LP1_h0 LP1_h1 LP1_h2 LP1_h3 LP1_h4 LP1_h5 hn1 H locs hP hD hS ls hl
      have n_i := ki_nat i rfl (by omega)
      have n_kp := ki_nat kp rfl (by omega)
      have hle := mj_hk_le p1.toInt p2.toInt p0.toInt fv g9 i.toNatClampNeg
      refine lv_iload hx hb dX3_keepHeavy_6 (lv_at hl 0 rfl) ?_
      refine lv_aload_n hx hb dX3_keepHeavy_8 rfl (lv_at hl 2 rfl) ?_
      refine va_get (D := (dC, dI)) (ci := 3) (v := .int vs) (C := RX3) (T := TX3) (N := 5) hx hb hts hi_3 hown hK hP 0 rfl rfl 2 (by decide) hf_18 (fun _ h9 => h9) rfl dX3_keepHeavy_9 ?_
      refine lv_icmp_ge (tgt := 48) hx hb dX3_keepHeavy_12 (by decide) (fun c_1 => ?_) (fun c_1 => ?_)
      · have i_1 : vs.toInt ≤ i.toInt := kc_le c_1
        refine lv_aload_n hx hb dX3_keepHeavy_48 rfl (lv_at hl 2 rfl) ?_
        refine lv_iload hx hb dX3_keepHeavy_49 (lv_at hl 1 rfl) ?_
        refine va_put (D := (dC, dI)) (ci := 3) (v := .int kp) (ty := .int) (C := RX3) (T := TX3) (N := 5) hx hb hts hi_3 tyX3 tyX3_ok nmX3 hown hK hP hD hS 0 rfl rfl 2 (by decide) hf_18 (fun _ h9 => h9) rfl (by decide +kernel) rfl rfl (Nat.le_of_ble_eq_true rfl) dX3_keepHeavy_51 (fun H locs hP hD hS => ?_)
        have hP : va_P (dC, dI) vwCl [kx_3 h0 a_v a_n kp lo le, kx_a a_v cyI 12 kv, kx_a a_n cyI 12 kn] H := hP
        have hD : va_D A [kx_3 h0 a_v a_n kp lo le, kx_a a_v cyI 12 kv, kx_a a_n cyI 12 kn] := hD
        refine lv_aload_n hx hb dX3_keepHeavy_54 rfl (lv_at hl 2 rfl) ?_
        have hPc := hP
        have hKc := hK
        have hDc := hD
        have hFc := kx_free hD hS hA
        refine va_callv (va_runV (As := []) (rest := []) ⟨hx, hb, hml, hown, hts⟩ (c_X3_order_x l dC dI h0 a_v a_n cyI kp lo le kv kn H.size LP1_h2 (by omega)) (cwV 0 hts gX3_keepHeavy_X3_order rfl rfl rfl (by decide +kernel) ⟨Nat.le_of_ble_eq_true rfl, Nat.le_of_ble_eq_true rfl⟩) ⟨fun a U g mk q => by obtain ⟨q0, q1, qP, qK, qD⟩ := q; exact ⟨q0, q1, qP, va_K.moved (u := U) (U := U.calling g mk a) (Vm.Alike.refl U.vm) qK, qD⟩, va_recv hKc hPc (ci := 3) (q0 := 0) rfl rfl, fun U hU hW => ⟨rfl, by rw [hU], by rw [hU]; exact hPc, va_K.moved hW.alike hKc, hDc.weaken (fun _ _ _ _ => trivial)⟩⟩ rfl rfl hl.1 rfl (lv_room (Nat.le_of_ble_eq_true rfl)) dX3_keepHeavy_55 ⟨Nat.le_of_ble_eq_true rfl, Nat.le_of_ble_eq_true rfl⟩) hS (fun q _ h => hFc q h) hFc (fun u t H1 locs ht hvm w_2 hB hz1 hk1 hS => ?_)
        obtain ⟨o_3, o_4⟩ := u
        dsimp only at w_2 hB
        obtain ⟨hP1, hK1, hD1⟩ := hB
        rw [ht] at hP1
        have hK1 := va_K.moved hvm.symm hK1
        have hD := hD1.weaken (fun _ q _ h => hFc q.1 h)
        have hP := hP1
        clear hP1 hD1 hK1 hk1 hz1 hFc hDc hPc hKc
        generalize H1 = H at hP hS ⊢
        have w_2 : mj_srt o_3 o_4 0 kp.toNatClampNeg ∧ ∀ mu : Int32 → Int, mj_vs kv kn 0 kp.toNatClampNeg mu → mj_vs o_3 o_4 0 kp.toNatClampNeg mu := w_2
        have hP9 := hP
        have hD9 := hD
        have hK9 := hK
        have q_i : i.toNatClampNeg = vs.toNatClampNeg := by omega
        exact W.vret hx hb hr (fun t ht hW => ⟨⟨(kp, o_3, o_4), rfl, ⟨w_2.2 _ (mj_vs_congr LP1_h4 (fun v => by rw [q_i])), w_2.1, (by (try dsimp only); rw [← q_i]; omega), (by (try dsimp only); omega), (by (try dsimp only); omega)⟩, by rw [ht]; exact hP9, va_K.moved hW.alike hK9, hD9⟩, hS.F ht⟩) hS.2.2 dX3_keepHeavy_58
      · have i_1 : i.toInt < vs.toInt := kc_nle c_1
        refine lv_aload_n hx hb dX3_keepHeavy_15 rfl (lv_at hl 2 rfl) ?_
        refine va_get (D := (dC, dI)) (ci := 3) (v := .ref a_n) (C := RX3) (T := TX3) (N := 5) hx hb hts hi_3 hown hK hP 0 rfl rfl 1 (by decide) hf_15 (fun _ h9 => h9) rfl dX3_keepHeavy_16 ?_
        refine lv_iload hx hb dX3_keepHeavy_19 (lv_at hl 0 rfl) ?_
        refine va_iald hx hb hK hP 2 0 rfl rfl (ki_in (by omega) (by omega)) dX3_keepHeavy_21 ?_
        refine lv_topi (fun y_5 ey_5 => ?_)
        have j_5 : y_5.toInt = (kn i.toNatClampNeg).toInt := congrArg Int32.toInt ey_5
        have q_u := LP1_h5 i.toNatClampNeg (Nat.le_refl _)
        have q_g := gn i.toNatClampNeg (by omega)
        have q_y : y_5.toInt = (fn i.toNatClampNeg).toInt := by rw [ey_5, q_u.2]
        refine lv_iload_n hx hb dX3_keepHeavy_22 rfl (lv_at hl 3 rfl) ?_
        refine lv_iload_n hx hb dX3_keepHeavy_23 rfl (lv_at hl 4 rfl) ?_
        refine lv_iload_n hx hb dX3_keepHeavy_24 rfl (lv_at hl 5 rfl) ?_
        have hPc := hP.sub (ws' := []) [] rfl
        have hKc := hK.sub (tys' := []) [] rfl
        refine vp_callSi (ki_ofRun (va_runSN (As := [.int y_5, .int p0, .int p1, .int p2]) (rest := []) ⟨hx, hb, hml, hown, hts⟩ (c_X4_isHeavy_x l dC dI y_5 p0 p1 p2 (by omega) (by omega) b0 b1 (by omega) b3 (by omega) b5) ⟨(va_cnB 4 hts ggX3_keepHeavy_X4_isHeavy rfl rfl rfl hN0 hz_RX4 (by decide +kernel) ⟨Nat.le_of_ble_eq_true rfl, Nat.le_of_ble_eq_true rfl⟩), ht_X4_isHeavy, trivial⟩ ⟨fun a U g mk q => by obtain ⟨q0, qP, qK⟩ := q; exact ⟨q0, qP, va_K.moved (u := U) (U := U.calling g mk a) (Vm.Alike.refl U.vm) qK⟩, fun U hU hW => ⟨rfl, by rw [hU]; exact hPc, va_K.moved hW.alike hKc⟩⟩ rfl rfl hl.1 rfl (lv_room (Nat.le_of_ble_eq_true rfl)) dX3_keepHeavy_25 ⟨Nat.le_of_ble_eq_true rfl, Nat.le_of_ble_eq_true rfl⟩)) (fun r_6 w_6 => ?_)
        rcases w_6 with ⟨rfl, w_6⟩ | ⟨rfl, w_6⟩
        · have w_6 : p1.toInt * p0.toInt < y_5.toInt * p2.toInt := w_6
          refine lv_if_eq (tgt := 42) hx hb dX3_keepHeavy_28 (by decide) (fun c_7 => ?_) (fun c_7 => ?_)
          · exact absurd c_7 (by decide)
          · refine lv_aload_n hx hb dX3_keepHeavy_31 rfl (lv_at hl 2 rfl) ?_
            refine lv_iload hx hb dX3_keepHeavy_32 (lv_at hl 0 rfl) ?_
            refine lv_iload hx hb dX3_keepHeavy_34 (lv_at hl 1 rfl) ?_
            have hPc := hP
            have hKc := hK
            have hDc := hD
            have hFc := kx_free hD hS hA
            refine va_callv (va_runV (As := [.int i, .int kp]) (rest := []) ⟨hx, hb, hml, hown, hts⟩ (c_X3_exchange l dC dI h0 a_v a_n cyI vs lo le kv kn i kp H.size LP1_h0 (by omega) LP1_h2 (by omega)) (cwV 2 hts gX3_keepHeavy_X3_exchange rfl rfl rfl (by decide +kernel) ⟨Nat.le_of_ble_eq_true rfl, Nat.le_of_ble_eq_true rfl⟩) ⟨fun a U g mk q => by obtain ⟨q0, q1, qP, qK, qD⟩ := q; exact ⟨q0, q1, qP, va_K.moved (u := U) (U := U.calling g mk a) (Vm.Alike.refl U.vm) qK, qD⟩, va_recv hKc hPc (ci := 3) (q0 := 0) rfl rfl, fun U hU hW => ⟨rfl, by rw [hU], by rw [hU]; exact hPc, va_K.moved hW.alike hKc, hDc.weaken (fun _ _ _ _ => trivial)⟩⟩ rfl rfl hl.1 rfl (lv_room (Nat.le_of_ble_eq_true rfl)) dX3_keepHeavy_36 ⟨Nat.le_of_ble_eq_true rfl, Nat.le_of_ble_eq_true rfl⟩) hS (fun q _ h => hFc q h) hFc (fun u t H1 locs ht hvm w_8 hB hz1 hk1 hS => ?_)
            obtain ⟨o_9, o_10⟩ := u
            dsimp only at w_8 hB
            obtain ⟨hP1, hK1, hD1⟩ := hB
            rw [ht] at hP1
            have hK1 := va_K.moved hvm.symm hK1
            have hD := hD1.weaken (fun _ q _ h => hFc q.1 h)
            have hP := hP1
            clear hP1 hD1 hK1 hk1 hz1 hFc hDc hPc hKc
            generalize H1 = H at hP hS ⊢
            have w_8 : o_9 = upd (upd kv i.toNatClampNeg (kv kp.toNatClampNeg)) kp.toNatClampNeg (kv i.toNatClampNeg) ∧ o_10 = upd (upd kn i.toNatClampNeg (kn kp.toNatClampNeg)) kp.toNatClampNeg (kn i.toNatClampNeg) := w_8
            obtain ⟨x_11, ex_11⟩ : ∃ y : Int32, y = kp + 1 := ⟨_, rfl⟩
            have i_11 : x_11.toInt = kp.toInt + 1 := ki_add ex_11 rfl rfl (by omega) (by omega)
            refine lv_iinc (v := x_11) (lv' := [(4, .int x_11), (5, .int i), (0, .ref h0), (1, .int p0), (2, .int p1), (3, .int p2)]) hx hb dX3_keepHeavy_39 hl (k := 1) rfl (by rw [ex_11]; rfl) (by decide) rfl (fun ls hl => ?_)
            obtain ⟨x_12, ex_12⟩ : ∃ y : Int32, y = i + 1 := ⟨_, rfl⟩
            have i_12 : x_12.toInt = i.toInt + 1 := ki_add ex_12 rfl rfl (by omega) (by omega)
            refine lv_iinc (v := x_12) (lv' := [(5, .int x_12), (4, .int x_11), (0, .ref h0), (1, .int p0), (2, .int p1), (3, .int p2)]) hx hb dX3_keepHeavy_42 hl (k := 1) rfl (by rw [ex_12]; rfl) (by decide) rfl (fun ls hl => ?_)
            refine lv_goto (tgt := 6) hx hb dX3_keepHeavy_45 (by decide) ?_
            have n_13 := ki_nat x_12 rfl (by omega)
            have q_h : p1.toInt * p0.toInt < g9 (fv i.toNatClampNeg) * p2.toInt := by rw [← q_g.1, ← q_y]; exact w_6
            have st := mj_hk_yes (p := p1.toInt) (q := p2.toInt) (n := p0.toInt) (V := fv) (g := g9) (i := i.toNatClampNeg) (i2 := x_12.toNatClampNeg) q_h (by omega)
            have n_14 := ki_nat x_11 rfl (by omega)
            have q_p : 0 < (fn i.toNatClampNeg).toInt := ki_mulpos (z := p1.toInt * p0.toInt) (b := p2.toInt) (by rw [← q_y]; exact w_6) (Int.mul_nonneg (by omega) (by omega)) (by omega)
            exact ih1 x_12 x_11 o_9 o_10 (by omega) (by omega) (by omega) (by rw [st]; omega) (by rw [w_8.1, w_8.2]; exact mj_kh_yes (N := fn) (m := vs.toNatClampNeg) LP1_h4 (by rw [← q_y]; exact w_6) q_g.1 q_p (by omega) ds (by omega) (by omega) q_u (by omega) (by omega)) (fun j hj => by have ex9 : ∀ z : Nat → Int32, upd (upd z i.toNatClampNeg (z kp.toNatClampNeg)) kp.toNatClampNeg (z i.toNatClampNeg) j = z j := fun z => mj_ex_o (f := z) (by omega) (by omega); rw [w_8.1, w_8.2, ex9, ex9]; exact LP1_h5 j (by omega)) (by omega) _ _ hP hD hS ls (lv_sub hl [0, 1, 2, 3, 4, 5] rfl)
        · have w_6 : y_5.toInt * p2.toInt ≤ p1.toInt * p0.toInt := w_6
          refine lv_if_eq (tgt := 42) hx hb dX3_keepHeavy_28 (by decide) (fun c_15 => ?_) (fun c_15 => ?_)
          · obtain ⟨x_16, ex_16⟩ : ∃ y : Int32, y = i + 1 := ⟨_, rfl⟩
            have i_16 : x_16.toInt = i.toInt + 1 := ki_add ex_16 rfl rfl (by omega) (by omega)
            refine lv_iinc (v := x_16) (lv' := [(5, .int x_16), (4, .int kp), (0, .ref h0), (1, .int p0), (2, .int p1), (3, .int p2)]) hx hb dX3_keepHeavy_42 hl (k := 0) rfl (by rw [ex_16]; rfl) (by decide) rfl (fun ls hl => ?_)
            refine lv_goto (tgt := 6) hx hb dX3_keepHeavy_45 (by decide) ?_
            have n_17 := ki_nat x_16 rfl (by omega)
            have q_h : g9 (fv i.toNatClampNeg) * p2.toInt ≤ p1.toInt * p0.toInt := by rw [← q_g.1, ← q_y]; exact w_6
            have st := mj_hk_no (p := p1.toInt) (q := p2.toInt) (n := p0.toInt) (V := fv) (g := g9) (i := i.toNatClampNeg) (i2 := x_16.toNatClampNeg) q_h (by omega)
            exact ih1 x_16 kp kv kn (by omega) (by omega) (by omega) (by rw [st]; omega) (mj_vs_congr LP1_h4 (fun v => (mj_hp_no q_h (by omega) v).symm)) (fun j hj => LP1_h5 j (by omega)) (by omega) _ _ hP hD hS ls (lv_sub hl [0, 1, 2, 3, 4, 5] rfl)
          · exact absurd c_15 (by decide)
  have k_18 : (0 : Int32).toInt = 0 := rfl
  have k_19 : (0 : Int32).toInt = 0 := rfl
  exact LP1 ((vs.toInt - 0 : Int).toNat + 1) 0 0 fv fn (by omega) (by omega) (by omega) rfl (mj_kh_0 rfl rfl) (fun j _ => ⟨rfl, rfl⟩) (Nat.lt_succ_self _) _ _ hP hD hS ls (lv_sub hl [0, 1, 2, 3, 4, 5] rfl)

set_option maxHeartbeats 4000000 in
set_option maxRecDepth 100000 in
theorem c_X4_gatherHeavy_x (l : Launch) (dC : Nat → ClassId) (dI : Nat → Nat → Nat) (m_ : Nat) (q_row : Nat) (q_t : Nat) (t_ : Nat) (h0 : Nat) (k0 : Nat) (w_ : Nat) (z_ : Nat) (slots : Int32) (old : Int32) (q_joined : Nat) (q_from : Nat) (q_to : Nat) (q_size : Nat) (q_lossOf : Nat) (q_lessBy : Nat) (q_value : Nat) (q_number : Nat) (nodes : Int32) (here : Int32) (q_cell : Nat) (cyI : ClassId) (len : Int32) (f : Nat → Int32) (ff : Nat → Int32) (ft : Nat → Int32) (fs : Nat → Int32) (fo : Nat → Int32) (uv : Nat → Int32) (un : Nat → Int32) (a_v : Nat) (a_n : Nat) (cyI : ClassId) (vs : Int32) (lo : Int32) (le : Int32) (fv : Nat → Int32) (fn : Nat → Int32) (fe : Nat → Int32) (p0 : Int32) (p1 : Int32) (p2 : Int32) (p3 : Int32) (sz : Nat) (b0 : 0 ≤ nodes.toInt) (c0 : nodes.toInt ≤ 319) (s0 : sixes fs) (c1 : len.toInt ≤ 160) (kh0 : 1 ≤ here.toInt) (kh1 : here.toInt ≤ 6) (t0 : treeOk ff ft nodes.toInt len.toInt) (hok : ∀ k : Nat, (k : Int) < nodes.toInt → mj_ok here.toNatClampNeg f ff ft fs fo fe uv un k) (d0 : 0 ≤ p0.toInt) (d1 : p1.toInt ≤ 160) (d2 : p0.toInt < p1.toInt) (e0 : 1 ≤ p2.toInt) (e1 : p2.toInt ≤ p3.toInt) (e2 : p3.toInt ≤ 999) : Met l yX4_gatherHeavy wsX4_gatherHeavy ({ frames := 4, cells := 0, slots := 0, locals := 180 }) (va_Pc [.ref m_, .ref q_t, .int p0, .int p1, .int p2, .int p3] (fun U => U.heap.size = sz ∧ va_P (dC, dI) vwCl [kx_4 m_ q_row q_t t_ h0 k0 w_ z_ slots old, kx_0 q_row q_cell len, kx_a q_cell cyI 160 f, kx_2 q_t q_row q_joined q_from q_to q_size q_lossOf q_lessBy q_value q_number nodes here, kx_a q_from cyI 319 ff, kx_a q_to cyI 319 ft, kx_a q_size cyI 319 fs, kx_a q_lossOf cyI 319 fo, kx_a q_lessBy cyI 319 fe, kx_a q_value cyI 1914 uv, kx_a q_number cyI 1914 un, kx_3 h0 a_v a_n vs lo le, kx_a a_v cyI 12 fv, kx_a a_n cyI 12 fn] U.heap ∧ va_K (dC, dI) vwCl [(cyI, .int)] U ∧ va_D (fun _ => True) [kx_4 m_ q_row q_t t_ h0 k0 w_ z_ slots old, kx_0 q_row q_cell len, kx_a q_cell cyI 160 f, kx_2 q_t q_row q_joined q_from q_to q_size q_lossOf q_lessBy q_value q_number nodes here, kx_a q_from cyI 319 ff, kx_a q_to cyI 319 ft, kx_a q_size cyI 319 fs, kx_a q_lossOf cyI 319 fo, kx_a q_lessBy cyI 319 fe, kx_a q_value cyI 1914 uv, kx_a q_number cyI 1914 un, kx_3 h0 a_v a_n vs lo le, kx_a a_v cyI 12 fv, kx_a a_n cyI 12 fn] ∧ va_Nw (.methodLinkNest RX3 42 yX4_isHeavy RX4) U)) (va_Qv (fun u : Int32 × Int32 × Int32 × (Nat → Int32) × (Nat → Int32) × (Nat → Int32) × (Nat → Int32) × Int32 => mj_GA here.toNatClampNeg ff ft fs fo uv un p0.toInt p1.toInt (mj_pq ff ft p0.toInt p1.toInt nodes.toNatClampNeg) u.2.2.2.2.2.2.2 u.2.1 u.2.2.2.2.2.1 u.2.2.2.2.2.2.1 ∧ mj_vs u.2.2.2.1 u.2.2.2.2.1 0 u.1.toNatClampNeg (mj_hp p2.toInt p3.toInt (p1.toInt - p0.toInt) u.2.2.2.2.2.1 (fun v => (cnt f v p0.toNatClampNeg (p1.toInt - p0.toInt).toNat : Int)) u.2.2.2.2.2.2.2.toNatClampNeg) ∧ mj_srt u.2.2.2.1 u.2.2.2.2.1 0 u.1.toNatClampNeg ∧ u.1.toInt = (mj_hk p2.toInt p3.toInt (p1.toInt - p0.toInt) u.2.2.2.2.2.1 (fun v => (cnt f v p0.toNatClampNeg (p1.toInt - p0.toInt).toNat : Int)) u.2.2.2.2.2.2.2.toNatClampNeg : Int) ∧ 0 ≤ u.1.toInt ∧ u.1.toInt ≤ 6) (fun (u : Int32 × Int32 × Int32 × (Nat → Int32) × (Nat → Int32) × (Nat → Int32) × (Nat → Int32) × Int32) (t : State) => va_P (dC, dI) vwCl [kx_4 m_ q_row q_t t_ h0 k0 w_ z_ slots old, kx_0 q_row q_cell len, kx_a q_cell cyI 160 f, kx_2 q_t q_row q_joined q_from q_to q_size q_lossOf q_lessBy q_value q_number nodes here, kx_a q_from cyI 319 ff, kx_a q_to cyI 319 ft, kx_a q_size cyI 319 fs, kx_a q_lossOf cyI 319 fo, kx_a q_lessBy cyI 319 fe, kx_a q_value cyI 1914 uv, kx_a q_number cyI 1914 un, kx_3 h0 a_v a_n u.1 u.2.1 u.2.2.1, kx_a a_v cyI 12 u.2.2.2.1, kx_a a_n cyI 12 u.2.2.2.2.1] t.heap ∧ va_K (dC, dI) vwCl [(cyI, .int)] t ∧ va_D (va_A [kx_4 m_ q_row q_t t_ h0 k0 w_ z_ slots old, kx_0 q_row q_cell len, kx_a q_cell cyI 160 f, kx_2 q_t q_row q_joined q_from q_to q_size q_lossOf q_lessBy q_value q_number nodes here, kx_a q_from cyI 319 ff, kx_a q_to cyI 319 ft, kx_a q_size cyI 319 fs, kx_a q_lossOf cyI 319 fo, kx_a q_lessBy cyI 319 fe, kx_a q_value cyI 1914 uv, kx_a q_number cyI 1914 un, kx_3 h0 a_v a_n vs lo le, kx_a a_v cyI 12 fv, kx_a a_n cyI 12 fn] sz) [kx_4 m_ q_row q_t t_ h0 k0 w_ z_ slots old, kx_0 q_row q_cell len, kx_a q_cell cyI 160 f, kx_2 q_t q_row q_joined q_from q_to q_size q_lossOf q_lessBy q_value q_number nodes here, kx_a q_from cyI 319 ff, kx_a q_to cyI 319 ft, kx_a q_size cyI 319 fs, kx_a q_lossOf cyI 319 fo, kx_a q_lessBy cyI 319 fe, kx_a q_value cyI 1914 uv, kx_a q_number cyI 1914 un, kx_3 h0 a_v a_n u.1 u.2.1 u.2.2.1, kx_a a_v cyI 12 u.2.2.2.1, kx_a a_n cyI 12 u.2.2.2.2.1]) (va_A [kx_4 m_ q_row q_t t_ h0 k0 w_ z_ slots old, kx_0 q_row q_cell len, kx_a q_cell cyI 160 f, kx_2 q_t q_row q_joined q_from q_to q_size q_lossOf q_lessBy q_value q_number nodes here, kx_a q_from cyI 319 ff, kx_a q_to cyI 319 ft, kx_a q_size cyI 319 fs, kx_a q_lossOf cyI 319 fo, kx_a q_lessBy cyI 319 fe, kx_a q_value cyI 1914 uv, kx_a q_number cyI 1914 un, kx_3 h0 a_v a_n vs lo le, kx_a a_v cyI 12 fv, kx_a a_n cyI 12 fn] sz)) 0 0 (va_A [kx_4 m_ q_row q_t t_ h0 k0 w_ z_ slots old, kx_0 q_row q_cell len, kx_a q_cell cyI 160 f, kx_2 q_t q_row q_joined q_from q_to q_size q_lossOf q_lessBy q_value q_number nodes here, kx_a q_from cyI 319 ff, kx_a q_to cyI 319 ft, kx_a q_size cyI 319 fs, kx_a q_lossOf cyI 319 fo, kx_a q_lessBy cyI 319 fe, kx_a q_value cyI 1914 uv, kx_a q_number cyI 1914 un, kx_3 h0 a_v a_n vs lo le, kx_a a_v cyI 12 fv, kx_a a_n cyI 12 fn] sz) := by
  refine Met.ofW (cc := cX4_gatherHeavy) (maxL := 7) (ret := none) (by decide) rfl ?_
  intro p e s m args below meth c s₁ B hml hv
  obtain ⟨rfl, hsz, hP, hK, hD0, hN0⟩ := hv
  have hx := B.exec
  have hb := B.bytes
  have hr := B.returns
  have hts := atoms_spec (ws := wsX4_gatherHeavy) B.pre
  have hown : s.vm.findClass RX4 = some m.cls := findClass_of_methodNamed B.named
  have hlocks := B.notSynchronized
  subst hsz
  have hD := hD0.self (sz := s.heap.size)
  generalize hAe : va_A [kx_4 m_ q_row q_t t_ h0 k0 w_ z_ slots old, kx_0 q_row q_cell len, kx_a q_cell cyI 160 f, kx_2 q_t q_row q_joined q_from q_to q_size q_lossOf q_lessBy q_value q_number nodes here, kx_a q_from cyI 319 ff, kx_a q_to cyI 319 ft, kx_a q_size cyI 319 fs, kx_a q_lossOf cyI 319 fo, kx_a q_lessBy cyI 319 fe, kx_a q_value cyI 1914 uv, kx_a q_number cyI 1914 un, kx_3 h0 a_v a_n vs lo le, kx_a a_v cyI 12 fv, kx_a a_n cyI 12 fn] s.heap.size = A at hD ⊢
  have hA : ∀ q : Nat, s.heap.size ≤ q → A q := fun q h => by rw [← hAe]; exact Or.inr h
  have hS : va_S A s.heap s.heap [] := va_S.rf
  have hP : va_P (dC, dI) vwCl [kx_4 m_ q_row q_t t_ h0 k0 w_ z_ slots old, kx_0 q_row q_cell len, kx_a q_cell cyI 160 f, kx_2 q_t q_row q_joined q_from q_to q_size q_lossOf q_lessBy q_value q_number nodes here, kx_a q_from cyI 319 ff, kx_a q_to cyI 319 ft, kx_a q_size cyI 319 fs, kx_a q_lossOf cyI 319 fo, kx_a q_lessBy cyI 319 fe, kx_a q_value cyI 1914 uv, kx_a q_number cyI 1914 un, kx_3 h0 a_v a_n vs lo le, kx_a a_v cyI 12 fv, kx_a a_n cyI 12 fn] s.heap := hP
  have hl := lv_entry ([.ref m_, .ref q_t, .int p0, .int p1, .int p2, .int p3]) (n := 7) (Nat.le_of_ble_eq_true rfl)
  rw [lg_entry_eq]
  generalize (lg_sl ([.ref m_, .ref q_t, .int p0, .int p1, .int p2, .int p3]) ++ List.replicate (7 - (lg_sl ([.ref m_, .ref q_t, .int p0, .int p1, .int p2, .int p3])).length) Slot.unset).toArray = ls at hl ⊢
  have hl : lv_has ls 7 [(0, .ref m_), (1, .ref q_t), (2, .int p0), (3, .int p1), (4, .int p2), (5, .int p3)] := hl
  have hf_35 := hts (.fieldLink RX4 35 "MajorityIndex" "votes" "LMajorityIndex$Votes;") (List.mem_of_getElem? (i := 1) rfl)
  have hi_4 : ∀ w ∈ u_ws RX4 TX4 9, w ∈ wsX4_gatherHeavy := fun w h => List.mem_cons_of_mem _ (List.mem_append_left _ (List.mem_append_left _ (List.mem_append_left _ (List.mem_append_right _ h))))
  have hf_174 := hts (.fieldLink RX4 174 "MajorityIndex$Votes" "size" "I") (List.mem_of_getElem? (i := 2) rfl)
  have hi_3 : ∀ w ∈ u_ws RX3 TX3 5, w ∈ wsX4_gatherHeavy := fun w h => List.mem_cons_of_mem _ (List.mem_append_left _ (List.mem_append_left _ (List.mem_append_right _ h)))
  have hf_136 := hts (.fieldLink RX4 136 "MajorityIndex$Votes" "number" "[I") (List.mem_of_getElem? (i := 3) rfl)
  have hf_12 := hts (.fieldLink RX4 12 "MajorityIndex" "row" "LMajorityIndex$Row;") (List.mem_of_getElem? (i := 4) rfl)
  have hf_133 := hts (.fieldLink RX4 133 "MajorityIndex$Votes" "value" "[I") (List.mem_of_getElem? (i := 5) rfl)
  refine lv_aload_n hx hb dX4_gatherHeavy_0 rfl (lv_at hl 1 rfl) ?_
  refine lv_aload_n hx hb dX4_gatherHeavy_1 rfl (lv_at hl 0 rfl) ?_
  refine va_get (D := (dC, dI)) (ci := 4) (v := .ref h0) (C := RX4) (T := TX4) (N := 9) hx hb hts hi_4 hown hK hP 0 rfl rfl 3 (by decide) hf_35 (fun _ h9 => h9) rfl dX4_gatherHeavy_2 ?_
  refine lv_iload_n hx hb dX4_gatherHeavy_5 rfl (lv_at hl 2 rfl) ?_
  refine lv_iload_n hx hb dX4_gatherHeavy_6 rfl (lv_at hl 3 rfl) ?_
  have hPc := hP.sub (ws' := [kx_2 q_t q_row q_joined q_from q_to q_size q_lossOf q_lessBy q_value q_number nodes here, kx_a q_from cyI 319 ff, kx_a q_to cyI 319 ft, kx_a q_size cyI 319 fs, kx_a q_lossOf cyI 319 fo, kx_a q_value cyI 1914 uv, kx_a q_number cyI 1914 un, kx_3 h0 a_v a_n vs lo le, kx_a a_v cyI 12 fv, kx_a a_n cyI 12 fn]) [3, 4, 5, 6, 7, 9, 10, 11, 12, 13] rfl
  have hKc := hK
  have hDc := hD.sub (ws' := [kx_2 q_t q_row q_joined q_from q_to q_size q_lossOf q_lessBy q_value q_number nodes here, kx_a q_from cyI 319 ff, kx_a q_to cyI 319 ft, kx_a q_size cyI 319 fs, kx_a q_lossOf cyI 319 fo, kx_a q_value cyI 1914 uv, kx_a q_number cyI 1914 un, kx_3 h0 a_v a_n vs lo le, kx_a a_v cyI 12 fv, kx_a a_n cyI 12 fn]) [3, 4, 5, 6, 7, 9, 10, 11, 12, 13] (by decide) rfl
  have hFc := va_free (wc := [kx_2 q_t q_row q_joined q_from q_to q_size q_lossOf q_lessBy q_value q_number nodes here, kx_a q_from cyI 319 ff, kx_a q_to cyI 319 ft, kx_a q_size cyI 319 fs, kx_a q_lossOf cyI 319 fo, kx_a q_value cyI 1914 uv, kx_a q_number cyI 1914 un, kx_3 h0 a_v a_n vs lo le, kx_a a_v cyI 12 fv, kx_a a_n cyI 12 fn]) hD hS hA [3, 4, 5, 6, 7, 9, 10, 11, 12, 13] rfl
  refine va_callv (va_runV (As := [.ref h0, .int p0, .int p1]) (rest := []) ⟨hx, hb, hml, hown, hts⟩ (c_X2_gather_x l dC dI q_t q_row q_joined q_from q_to q_size q_lossOf q_lessBy q_value q_number nodes here h0 a_v a_n cyI vs lo le fv fn len f ff ft fs fo uv un fe p0 p1 s.heap.size b0 c0 s0 c1 kh0 kh1 t0 hok) (cwV 3 hts gX4_gatherHeavy_X2_gather rfl rfl rfl (by decide +kernel) ⟨Nat.le_of_ble_eq_true rfl, Nat.le_of_ble_eq_true rfl⟩) ⟨fun a U g mk q => by obtain ⟨q0, q1, qP, qK, qD⟩ := q; exact ⟨q0, q1, qP, va_K.moved (u := U) (U := U.calling g mk a) (Vm.Alike.refl U.vm) qK, qD⟩, va_recv hKc hPc (ci := 2) (q0 := 0) rfl rfl, fun U hU hW => ⟨rfl, by rw [hU], by rw [hU]; exact hPc, va_K.moved hW.alike hKc, hDc.weaken (fun _ _ _ _ => trivial)⟩⟩ rfl rfl hl.1 rfl (lv_room (Nat.le_of_ble_eq_true rfl)) dX4_gatherHeavy_7 ⟨Nat.le_of_ble_eq_true rfl, Nat.le_of_ble_eq_true rfl⟩) hS (fun q _ h => hFc q h) hFc (fun u t H1 locs ht hvm w_1 hB hz1 hk1 hS => ?_)
  obtain ⟨o_2, o_3, o_4, o_5, o_6⟩ := u
  dsimp only at w_1 hB
  obtain ⟨hP1, hK1, hD1⟩ := hB
  rw [ht] at hP1
  have hK1 := va_K.moved hvm.symm hK1
  obtain ⟨hP, hD⟩ := va_join (wr := [kx_4 m_ q_row q_t t_ h0 k0 w_ z_ slots old, kx_0 q_row q_cell len, kx_a q_cell cyI 160 f, kx_a q_lessBy cyI 319 fe]) (w1 := [kx_2 q_t q_row q_joined q_from q_to q_size q_lossOf q_lessBy q_value q_number nodes here, kx_a q_from cyI 319 ff, kx_a q_to cyI 319 ft, kx_a q_size cyI 319 fs, kx_a q_lossOf cyI 319 fo, kx_a q_value cyI 1914 uv, kx_a q_number cyI 1914 un, kx_3 h0 a_v a_n o_2 o_3 o_4, kx_a a_v cyI 12 o_5, kx_a a_n cyI 12 o_6]) hP hD [3, 4, 5, 6, 7, 9, 10, 11, 12, 13] [0, 1, 2, 8] rfl rfl (by decide) (by decide) hk1 hFc hP1 hD1
  clear hP1 hD1 hK1 hk1 hz1 hFc hDc hPc hKc
  generalize H1 = H at hP hS ⊢
  have hP : va_P (dC, dI) vwCl [kx_4 m_ q_row q_t t_ h0 k0 w_ z_ slots old, kx_0 q_row q_cell len, kx_a q_cell cyI 160 f, kx_a q_lessBy cyI 319 fe, kx_2 q_t q_row q_joined q_from q_to q_size q_lossOf q_lessBy q_value q_number nodes here, kx_a q_from cyI 319 ff, kx_a q_to cyI 319 ft, kx_a q_size cyI 319 fs, kx_a q_lossOf cyI 319 fo, kx_a q_value cyI 1914 uv, kx_a q_number cyI 1914 un, kx_3 h0 a_v a_n o_2 o_3 o_4, kx_a a_v cyI 12 o_5, kx_a a_n cyI 12 o_6] H := hP
  have hD : va_D A [kx_4 m_ q_row q_t t_ h0 k0 w_ z_ slots old, kx_0 q_row q_cell len, kx_a q_cell cyI 160 f, kx_a q_lessBy cyI 319 fe, kx_2 q_t q_row q_joined q_from q_to q_size q_lossOf q_lessBy q_value q_number nodes here, kx_a q_from cyI 319 ff, kx_a q_to cyI 319 ft, kx_a q_size cyI 319 fs, kx_a q_lossOf cyI 319 fo, kx_a q_value cyI 1914 uv, kx_a q_number cyI 1914 un, kx_3 h0 a_v a_n o_2 o_3 o_4, kx_a a_v cyI 12 o_5, kx_a a_n cyI 12 o_6] := hD
  have w_1 : mj_GA here.toNatClampNeg ff ft fs fo uv un p0.toInt p1.toInt (mj_pq ff ft p0.toInt p1.toInt nodes.toNatClampNeg) o_2 o_3 o_5 o_6 ∧ 0 ≤ o_2.toInt ∧ o_2.toInt ≤ here.toInt := w_1
  refine lv_iconst (v := 0) hx hb dX4_gatherHeavy_10 (by decide) ?_
  refine lv_istore (lv' := [(6, .int 0), (0, .ref m_), (1, .ref q_t), (2, .int p0), (3, .int p1), (4, .int p2), (5, .int p3)]) hx hb dX4_gatherHeavy_11 hl (by decide) rfl (fun ls hl => ?_)
  have LP1 : ∀ (n : Nat) (i : Int32) (wn : Nat → Int32), (0 ≤ i.toInt) → (i.toInt ≤ o_2.toInt) → (∀ j : Nat, j < i.toNatClampNeg → (wn j).toInt = (cnt f (o_5 j) p0.toNatClampNeg (p1.toInt - p0.toInt).toNat : Int)) → (o_2.toInt - i.toInt).toNat < n → ∀ (H : Heap) (locs : List Loc), va_P (dC, dI) vwCl [kx_4 m_ q_row q_t t_ h0 k0 w_ z_ slots old, kx_0 q_row q_cell len, kx_a q_cell cyI 160 f, kx_a q_lessBy cyI 319 fe, kx_2 q_t q_row q_joined q_from q_to q_size q_lossOf q_lessBy q_value q_number nodes here, kx_a q_from cyI 319 ff, kx_a q_to cyI 319 ft, kx_a q_size cyI 319 fs, kx_a q_lossOf cyI 319 fo, kx_a q_value cyI 1914 uv, kx_a q_number cyI 1914 un, kx_3 h0 a_v a_n o_2 o_3 o_4, kx_a a_v cyI 12 o_5, kx_a a_n cyI 12 wn] H → va_D A [kx_4 m_ q_row q_t t_ h0 k0 w_ z_ slots old, kx_0 q_row q_cell len, kx_a q_cell cyI 160 f, kx_a q_lessBy cyI 319 fe, kx_2 q_t q_row q_joined q_from q_to q_size q_lossOf q_lessBy q_value q_number nodes here, kx_a q_from cyI 319 ff, kx_a q_to cyI 319 ft, kx_a q_size cyI 319 fs, kx_a q_lossOf cyI 319 fo, kx_a q_value cyI 1914 uv, kx_a q_number cyI 1914 un, kx_3 h0 a_v a_n o_2 o_3 o_4, kx_a a_v cyI 12 o_5, kx_a a_n cyI 12 wn] → va_S A s.heap H locs → ∀ (ls : Array Slot), lv_has ls 7 [(6, .int i), (0, .ref m_), (1, .ref q_t), (2, .int p0), (3, .int p1), (4, .int p2), (5, .int p3)] → W p l e (headSpec wsX4_gatherHeavy ({ frames := 4, cells := 0, slots := 0, locals := 180 })).room s m ([.ref m_, .ref q_t, .int p0, .int p1, .int p2, .int p3] : List Value).toArray below meth c H locs 0 0 (MQ below (va_Qv (fun u : Int32 × Int32 × Int32 × (Nat → Int32) × (Nat → Int32) × (Nat → Int32) × (Nat → Int32) × Int32 => mj_GA here.toNatClampNeg ff ft fs fo uv un p0.toInt p1.toInt (mj_pq ff ft p0.toInt p1.toInt nodes.toNatClampNeg) u.2.2.2.2.2.2.2 u.2.1 u.2.2.2.2.2.1 u.2.2.2.2.2.2.1 ∧ mj_vs u.2.2.2.1 u.2.2.2.2.1 0 u.1.toNatClampNeg (mj_hp p2.toInt p3.toInt (p1.toInt - p0.toInt) u.2.2.2.2.2.1 (fun v => (cnt f v p0.toNatClampNeg (p1.toInt - p0.toInt).toNat : Int)) u.2.2.2.2.2.2.2.toNatClampNeg) ∧ mj_srt u.2.2.2.1 u.2.2.2.2.1 0 u.1.toNatClampNeg ∧ u.1.toInt = (mj_hk p2.toInt p3.toInt (p1.toInt - p0.toInt) u.2.2.2.2.2.1 (fun v => (cnt f v p0.toNatClampNeg (p1.toInt - p0.toInt).toNat : Int)) u.2.2.2.2.2.2.2.toNatClampNeg : Int) ∧ 0 ≤ u.1.toInt ∧ u.1.toInt ≤ 6) (fun (u : Int32 × Int32 × Int32 × (Nat → Int32) × (Nat → Int32) × (Nat → Int32) × (Nat → Int32) × Int32) (t : State) => va_P (dC, dI) vwCl [kx_4 m_ q_row q_t t_ h0 k0 w_ z_ slots old, kx_0 q_row q_cell len, kx_a q_cell cyI 160 f, kx_2 q_t q_row q_joined q_from q_to q_size q_lossOf q_lessBy q_value q_number nodes here, kx_a q_from cyI 319 ff, kx_a q_to cyI 319 ft, kx_a q_size cyI 319 fs, kx_a q_lossOf cyI 319 fo, kx_a q_lessBy cyI 319 fe, kx_a q_value cyI 1914 uv, kx_a q_number cyI 1914 un, kx_3 h0 a_v a_n u.1 u.2.1 u.2.2.1, kx_a a_v cyI 12 u.2.2.2.1, kx_a a_n cyI 12 u.2.2.2.2.1] t.heap ∧ va_K (dC, dI) vwCl [(cyI, .int)] t ∧ va_D A [kx_4 m_ q_row q_t t_ h0 k0 w_ z_ slots old, kx_0 q_row q_cell len, kx_a q_cell cyI 160 f, kx_2 q_t q_row q_joined q_from q_to q_size q_lossOf q_lessBy q_value q_number nodes here, kx_a q_from cyI 319 ff, kx_a q_to cyI 319 ft, kx_a q_size cyI 319 fs, kx_a q_lossOf cyI 319 fo, kx_a q_lessBy cyI 319 fe, kx_a q_value cyI 1914 uv, kx_a q_number cyI 1914 un, kx_3 h0 a_v a_n u.1 u.2.1 u.2.2.1, kx_a a_v cyI 12 u.2.2.2.1, kx_a a_n cyI 12 u.2.2.2.2.1]) A) ([.ref m_, .ref q_t, .int p0, .int p1, .int p2, .int p3] : List Value).toArray s 0 0 A) (F0 m 13 ls []) := by
    intro n
    induction n with
    | zero => intro i wn LP1_h0 LP1_h1 LP1_h2 hn; exact absurd hn (Nat.not_lt_zero _)
    | succ n ih1 =>
      intro i wn LP1_h0 LP1_h1 LP1_h2 hn1 H locs hP hD hS ls hl
      have n_i := ki_nat i rfl (by omega)
      refine lv_iload hx hb dX4_gatherHeavy_13 (lv_at hl 0 rfl) ?_
      refine lv_aload_n hx hb dX4_gatherHeavy_15 rfl (lv_at hl 1 rfl) ?_
      refine va_get (D := (dC, dI)) (ci := 4) (v := .ref h0) (C := RX4) (T := TX4) (N := 9) hx hb hts hi_4 hown hK hP 0 rfl rfl 3 (by decide) hf_35 (fun _ h9 => h9) rfl dX4_gatherHeavy_16 ?_
      refine va_get (D := (dC, dI)) (ci := 3) (v := .int o_2) (C := RX3) (T := TX3) (N := 5) hx hb hts hi_3 hown hK hP 11 rfl rfl 2 (by decide) hf_174 (fun _ h9 => h9) rfl dX4_gatherHeavy_19 ?_
      refine lv_icmp_ge (tgt := 60) hx hb dX4_gatherHeavy_22 (by decide) (fun c_7 => ?_) (fun c_7 => ?_)
      · have i_7 : o_2.toInt ≤ i.toInt := kc_le c_7
        refine lv_aload_n hx hb dX4_gatherHeavy_60 rfl (lv_at hl 1 rfl) ?_
        refine va_get (D := (dC, dI)) (ci := 4) (v := .ref h0) (C := RX4) (T := TX4) (N := 9) hx hb hts hi_4 hown hK hP 0 rfl rfl 3 (by decide) hf_35 (fun _ h9 => h9) rfl dX4_gatherHeavy_61 ?_
        refine lv_iload_n hx hb dX4_gatherHeavy_64 rfl (lv_at hl 4 rfl) ?_
        refine lv_iload_n hx hb dX4_gatherHeavy_65 rfl (lv_at hl 3 rfl) ?_
        refine lv_isub hx hb dX4_gatherHeavy_66 ?_
        refine lv_topi (fun y_8 ey_8 => ?_)
        have i_8 : y_8.toInt = p1.toInt - p0.toInt := ki_sub ey_8 rfl rfl (by omega) (by omega)
        refine lv_iload hx hb dX4_gatherHeavy_67 (lv_at hl 5 rfl) ?_
        refine lv_iload hx hb dX4_gatherHeavy_69 (lv_at hl 6 rfl) ?_
        have hPc := hP.sub (ws' := [kx_3 h0 a_v a_n o_2 o_3 o_4, kx_a a_v cyI 12 o_5, kx_a a_n cyI 12 wn]) [11, 12, 13] rfl
        have hKc := hK
        have hDc := hD.sub (ws' := [kx_3 h0 a_v a_n o_2 o_3 o_4, kx_a a_v cyI 12 o_5, kx_a a_n cyI 12 wn]) [11, 12, 13] (by decide) rfl
        have hFc := va_free (wc := [kx_3 h0 a_v a_n o_2 o_3 o_4, kx_a a_v cyI 12 o_5, kx_a a_n cyI 12 wn]) hD hS hA [11, 12, 13] rfl
        refine va_callv (va_runV (As := [.int y_8, .int p2, .int p3]) (rest := []) ⟨hx, hb, hml, hown, hts⟩ (c_X3_keepHeavy_x l dC dI h0 a_v a_n cyI o_2 o_3 o_4 o_5 wn (fun v => (cnt f v p0.toNatClampNeg (p1.toInt - p0.toInt).toNat : Int)) y_8 p2 p3 H.size (by omega) (by omega) (by omega) (by omega) (by omega) (by omega) (by omega) (by omega) (fun j hj => by have n9 := ki_nat o_2 rfl (by omega); have h9 := LP1_h2 j (by omega); have h8 := cnt_le f (o_5 j) p0.toNatClampNeg (p1.toInt - p0.toInt).toNat; exact ⟨h9, by omega, by omega⟩) (by obtain ⟨_, _, _, h9, _⟩ := w_1.1; exact fun a b ha hb hab => h9.2.1 a b ha hb (by rw [Nat.zero_add, Nat.zero_add]; exact hab))) (cwV 3 hts gX4_gatherHeavy_X3_keepHeavy rfl rfl rfl (by decide +kernel) ⟨Nat.le_of_ble_eq_true rfl, Nat.le_of_ble_eq_true rfl⟩) ⟨fun a U g mk q => by obtain ⟨q0, q1, qP, qK, qD, qn0⟩ := q; exact ⟨q0, q1, qP, va_K.moved (u := U) (U := U.calling g mk a) (Vm.Alike.refl U.vm) qK, qD, va_Nw.same (u := U) (U := U.calling g mk a) rfl rfl qn0⟩, va_recv hKc hPc (ci := 3) (q0 := 0) rfl rfl, fun U hU hW => ⟨rfl, by rw [hU], by rw [hU]; exact hPc, va_K.moved hW.alike hKc, hDc.weaken (fun _ _ _ _ => trivial), va_Nw.warmM hW hN0⟩⟩ rfl rfl hl.1 rfl (lv_room (Nat.le_of_ble_eq_true rfl)) dX4_gatherHeavy_71 ⟨Nat.le_of_ble_eq_true rfl, Nat.le_of_ble_eq_true rfl⟩) hS (fun q _ h => hFc q h) hFc (fun u t H1 locs ht hvm w_9 hB hz1 hk1 hS => ?_)
        obtain ⟨o_10, o_11, o_12⟩ := u
        dsimp only at w_9 hB
        obtain ⟨hP1, hK1, hD1⟩ := hB
        rw [ht] at hP1
        have hK1 := va_K.moved hvm.symm hK1
        obtain ⟨hP, hD⟩ := va_join (wr := [kx_4 m_ q_row q_t t_ h0 k0 w_ z_ slots old, kx_0 q_row q_cell len, kx_a q_cell cyI 160 f, kx_a q_lessBy cyI 319 fe, kx_2 q_t q_row q_joined q_from q_to q_size q_lossOf q_lessBy q_value q_number nodes here, kx_a q_from cyI 319 ff, kx_a q_to cyI 319 ft, kx_a q_size cyI 319 fs, kx_a q_lossOf cyI 319 fo, kx_a q_value cyI 1914 uv, kx_a q_number cyI 1914 un]) (w1 := [kx_3 h0 a_v a_n o_10 o_3 o_4, kx_a a_v cyI 12 o_11, kx_a a_n cyI 12 o_12]) hP hD [11, 12, 13] [0, 1, 2, 3, 4, 5, 6, 7, 8, 9, 10] rfl rfl (by decide) (by decide) hk1 hFc hP1 hD1
        clear hP1 hD1 hK1 hk1 hz1 hFc hDc hPc hKc
        generalize H1 = H at hP hS ⊢
        have hP : va_P (dC, dI) vwCl [kx_4 m_ q_row q_t t_ h0 k0 w_ z_ slots old, kx_0 q_row q_cell len, kx_a q_cell cyI 160 f, kx_a q_lessBy cyI 319 fe, kx_2 q_t q_row q_joined q_from q_to q_size q_lossOf q_lessBy q_value q_number nodes here, kx_a q_from cyI 319 ff, kx_a q_to cyI 319 ft, kx_a q_size cyI 319 fs, kx_a q_lossOf cyI 319 fo, kx_a q_value cyI 1914 uv, kx_a q_number cyI 1914 un, kx_3 h0 a_v a_n o_10 o_3 o_4, kx_a a_v cyI 12 o_11, kx_a a_n cyI 12 o_12] H := hP
        have hD : va_D A [kx_4 m_ q_row q_t t_ h0 k0 w_ z_ slots old, kx_0 q_row q_cell len, kx_a q_cell cyI 160 f, kx_a q_lessBy cyI 319 fe, kx_2 q_t q_row q_joined q_from q_to q_size q_lossOf q_lessBy q_value q_number nodes here, kx_a q_from cyI 319 ff, kx_a q_to cyI 319 ft, kx_a q_size cyI 319 fs, kx_a q_lossOf cyI 319 fo, kx_a q_value cyI 1914 uv, kx_a q_number cyI 1914 un, kx_3 h0 a_v a_n o_10 o_3 o_4, kx_a a_v cyI 12 o_11, kx_a a_n cyI 12 o_12] := hD
        have w_9 : mj_vs o_11 o_12 0 o_10.toNatClampNeg (mj_hp p2.toInt p3.toInt y_8.toInt o_5 (fun v => (cnt f v p0.toNatClampNeg (p1.toInt - p0.toInt).toNat : Int)) o_2.toNatClampNeg) ∧ mj_srt o_11 o_12 0 o_10.toNatClampNeg ∧ o_10.toInt = (mj_hk p2.toInt p3.toInt y_8.toInt o_5 (fun v => (cnt f v p0.toNatClampNeg (p1.toInt - p0.toInt).toNat : Int)) o_2.toNatClampNeg : Int) ∧ 0 ≤ o_10.toInt ∧ o_10.toInt ≤ o_2.toInt := w_9
        have hP9 := hP.sub (ws' := [kx_4 m_ q_row q_t t_ h0 k0 w_ z_ slots old, kx_0 q_row q_cell len, kx_a q_cell cyI 160 f, kx_2 q_t q_row q_joined q_from q_to q_size q_lossOf q_lessBy q_value q_number nodes here, kx_a q_from cyI 319 ff, kx_a q_to cyI 319 ft, kx_a q_size cyI 319 fs, kx_a q_lossOf cyI 319 fo, kx_a q_lessBy cyI 319 fe, kx_a q_value cyI 1914 uv, kx_a q_number cyI 1914 un, kx_3 h0 a_v a_n o_10 o_3 o_4, kx_a a_v cyI 12 o_11, kx_a a_n cyI 12 o_12]) [0, 1, 2, 4, 5, 6, 7, 8, 3, 9, 10, 11, 12, 13] rfl
        have hD9 := hD.sub (ws' := [kx_4 m_ q_row q_t t_ h0 k0 w_ z_ slots old, kx_0 q_row q_cell len, kx_a q_cell cyI 160 f, kx_2 q_t q_row q_joined q_from q_to q_size q_lossOf q_lessBy q_value q_number nodes here, kx_a q_from cyI 319 ff, kx_a q_to cyI 319 ft, kx_a q_size cyI 319 fs, kx_a q_lossOf cyI 319 fo, kx_a q_lessBy cyI 319 fe, kx_a q_value cyI 1914 uv, kx_a q_number cyI 1914 un, kx_3 h0 a_v a_n o_10 o_3 o_4, kx_a a_v cyI 12 o_11, kx_a a_n cyI 12 o_12]) [0, 1, 2, 4, 5, 6, 7, 8, 3, 9, 10, 11, 12, 13] (by decide) rfl
        have hK9 := hK
        have h_k := w_9
        rw [i_8] at h_k
        exact W.vret hx hb hr (fun t ht hW => ⟨⟨(o_10, o_3, o_4, o_11, o_12, o_5, o_6, o_2), rfl, ⟨w_1.1, h_k.1, h_k.2.1, h_k.2.2.1, (by (try dsimp only); omega), (by (try dsimp only); omega)⟩, by rw [ht]; exact hP9, va_K.moved hW.alike hK9, hD9⟩, hS.F ht⟩) hS.2.2 dX4_gatherHeavy_74
      · have i_7 : i.toInt < o_2.toInt := kc_nle c_7
        refine lv_aload_n hx hb dX4_gatherHeavy_25 rfl (lv_at hl 1 rfl) ?_
        refine va_get (D := (dC, dI)) (ci := 4) (v := .ref h0) (C := RX4) (T := TX4) (N := 9) hx hb hts hi_4 hown hK hP 0 rfl rfl 3 (by decide) hf_35 (fun _ h9 => h9) rfl dX4_gatherHeavy_26 ?_
        refine va_get (D := (dC, dI)) (ci := 3) (v := .ref a_n) (C := RX3) (T := TX3) (N := 5) hx hb hts hi_3 hown hK hP 11 rfl rfl 1 (by decide) hf_136 (fun _ h9 => h9) rfl dX4_gatherHeavy_29 ?_
        refine lv_iload hx hb dX4_gatherHeavy_32 (lv_at hl 0 rfl) ?_
        refine lv_aload_n hx hb dX4_gatherHeavy_34 rfl (lv_at hl 1 rfl) ?_
        refine va_get (D := (dC, dI)) (ci := 4) (v := .ref q_row) (C := RX4) (T := TX4) (N := 9) hx hb hts hi_4 hown hK hP 0 rfl rfl 0 (by decide) hf_12 (fun _ h9 => h9) rfl dX4_gatherHeavy_35 ?_
        refine lv_aload_n hx hb dX4_gatherHeavy_38 rfl (lv_at hl 1 rfl) ?_
        refine va_get (D := (dC, dI)) (ci := 4) (v := .ref h0) (C := RX4) (T := TX4) (N := 9) hx hb hts hi_4 hown hK hP 0 rfl rfl 3 (by decide) hf_35 (fun _ h9 => h9) rfl dX4_gatherHeavy_39 ?_
        refine va_get (D := (dC, dI)) (ci := 3) (v := .ref a_v) (C := RX3) (T := TX3) (N := 5) hx hb hts hi_3 hown hK hP 11 rfl rfl 0 (by decide) hf_133 (fun _ h9 => h9) rfl dX4_gatherHeavy_42 ?_
        refine lv_iload hx hb dX4_gatherHeavy_45 (lv_at hl 0 rfl) ?_
        refine va_iald hx hb hK hP 12 0 rfl rfl (ki_in (by omega) (by omega)) dX4_gatherHeavy_47 ?_
        refine lv_topi (fun y_13 ey_13 => ?_)
        have j_13 : y_13.toInt = (o_5 i.toNatClampNeg).toInt := congrArg Int32.toInt ey_13
        refine lv_iload_n hx hb dX4_gatherHeavy_48 rfl (lv_at hl 3 rfl) ?_
        refine lv_iload_n hx hb dX4_gatherHeavy_49 rfl (lv_at hl 4 rfl) ?_
        have hPc := hP.sub (ws' := [kx_0 q_row q_cell len, kx_a q_cell cyI 160 f]) [1, 2] rfl
        have hKc := hK
        refine vp_callSi (W.runV (As := [.int y_13, .int p0, .int p1]) (rest := [.int i, .ref a_n]) ⟨hx, hb, hml, hown, hts⟩ (c_X0_oftenIn l dC dI q_row q_cell cyI len f y_13 p0 p1 d0 d1) (cwV 3 hts gX4_gatherHeavy_X0_oftenIn rfl rfl rfl (by decide +kernel) ⟨Nat.le_of_ble_eq_true rfl, Nat.le_of_ble_eq_true rfl⟩) ⟨fun a U g mk q => by obtain ⟨q0, qP, qK⟩ := q; exact ⟨q0, qP, va_K.moved (u := U) (U := U.calling g mk a) (Vm.Alike.refl U.vm) qK⟩, va_recv hKc hPc (ci := 0) (q0 := 0) rfl rfl, fun U hU hW => ⟨rfl, by rw [hU]; exact hPc, va_K.moved hW.alike hKc⟩⟩ rfl rfl hl.1 rfl (lv_room (Nat.le_of_ble_eq_true rfl)) dX4_gatherHeavy_50 ⟨Nat.le_of_ble_eq_true rfl, Nat.le_of_ble_eq_true rfl⟩) (fun r_14 w_14 => ?_)
        have w_14 : r_14.toInt = (cnt f y_13 p0.toNatClampNeg (p1.toInt - p0.toInt).toNat : Int) := w_14
        refine va_iast hx hb hK hP hD hS 13 0 rfl rfl (ki_in (by omega) (by omega)) dX4_gatherHeavy_53 (fun H locs hP hD hS => ?_)
        have hP : va_P (dC, dI) vwCl [kx_4 m_ q_row q_t t_ h0 k0 w_ z_ slots old, kx_0 q_row q_cell len, kx_a q_cell cyI 160 f, kx_a q_lessBy cyI 319 fe, kx_2 q_t q_row q_joined q_from q_to q_size q_lossOf q_lessBy q_value q_number nodes here, kx_a q_from cyI 319 ff, kx_a q_to cyI 319 ft, kx_a q_size cyI 319 fs, kx_a q_lossOf cyI 319 fo, kx_a q_value cyI 1914 uv, kx_a q_number cyI 1914 un, kx_3 h0 a_v a_n o_2 o_3 o_4, kx_a a_v cyI 12 o_5, kx_a a_n cyI 12 (upd wn i.toNatClampNeg r_14)] H := hP
        have hD : va_D A [kx_4 m_ q_row q_t t_ h0 k0 w_ z_ slots old, kx_0 q_row q_cell len, kx_a q_cell cyI 160 f, kx_a q_lessBy cyI 319 fe, kx_2 q_t q_row q_joined q_from q_to q_size q_lossOf q_lessBy q_value q_number nodes here, kx_a q_from cyI 319 ff, kx_a q_to cyI 319 ft, kx_a q_size cyI 319 fs, kx_a q_lossOf cyI 319 fo, kx_a q_value cyI 1914 uv, kx_a q_number cyI 1914 un, kx_3 h0 a_v a_n o_2 o_3 o_4, kx_a a_v cyI 12 o_5, kx_a a_n cyI 12 (upd wn i.toNatClampNeg r_14)] := hD
        obtain ⟨x_15, ex_15⟩ : ∃ y : Int32, y = i + 1 := ⟨_, rfl⟩
        have i_15 : x_15.toInt = i.toInt + 1 := ki_add ex_15 rfl rfl (by omega) (by omega)
        refine lv_iinc (v := x_15) (lv' := [(6, .int x_15), (0, .ref m_), (1, .ref q_t), (2, .int p0), (3, .int p1), (4, .int p2), (5, .int p3)]) hx hb dX4_gatherHeavy_54 hl (k := 0) rfl (by rw [ex_15]; rfl) (by decide) rfl (fun ls hl => ?_)
        refine lv_goto (tgt := 13) hx hb dX4_gatherHeavy_57 (by decide) ?_
        have n_16 := ki_nat x_15 rfl (by omega)
        exact ih1 x_15 (upd wn i.toNatClampNeg r_14) (by omega) (by omega) (fun j hj => if h9 : j = i.toNatClampNeg then (by rw [h9, upd_at, ← ey_13]; exact w_14) else (by rw [upd_ne h9]; exact LP1_h2 j (by omega))) (by omega) _ _ hP hD hS ls (lv_sub hl [0, 1, 2, 3, 4, 5, 6] rfl)
  have k_17 : (0 : Int32).toInt = 0 := rfl
  exact LP1 ((o_2.toInt - 0 : Int).toNat + 1) 0 o_6 (by omega) (by omega) (fun j hj => absurd hj (Nat.not_lt_zero j)) (Nat.lt_succ_self _) _ _ hP hD hS ls (lv_sub hl [0, 1, 2, 3, 4, 5, 6] rfl)

set_option maxHeartbeats 4000000 in
set_option maxRecDepth 100000 in
theorem c_X4_isEnough_x (l : Launch) (dC : Nat → ClassId) (dI : Nat → Nat → Nat) (m_ : Nat) (q_row : Nat) (q_t : Nat) (t_ : Nat) (h0 : Nat) (k0 : Nat) (w_ : Nat) (z_ : Nat) (slots : Int32) (old : Int32) (p0 : Int32) (p1 : Int32) (sl0 : 1 ≤ slots.toInt) (sl1 : slots.toInt ≤ 6) (b0 : 1 ≤ p0.toInt) (b1 : p0.toInt ≤ 999) : Met l yX4_isEnough wsX4_isEnough ({ frames := 0, cells := 0, slots := 0, locals := 0 }) (va_Pc [.ref m_, .int p0, .int p1] (fun U => va_P (dC, dI) vwCl [kx_4 m_ q_row q_t t_ h0 k0 w_ z_ slots old] U.heap ∧ va_K (dC, dI) vwCl [] U)) (vp_Si (fun r : Int32 => (r = 1 ∧ p1.toInt ≤ p0.toInt * (slots.toInt + 1)) ∨ (r = 0 ∧ p0.toInt * (slots.toInt + 1) < p1.toInt))) 0 0 (fun _ => False) := by
  refine Met.ofW (cc := cX4_isEnough) (maxL := 3) (ret := (some .boolean)) (by decide) rfl ?_
  intro p e s m args below meth c s₁ B hml hv
  obtain ⟨rfl, hP, hK⟩ := hv
  have hx := B.exec
  have hb := B.bytes
  have hr := B.returns
  have hts := atoms_spec (ws := wsX4_isEnough) B.pre
  have hown : s.vm.findClass RX4 = some m.cls := findClass_of_methodNamed B.named
  have hlocks := B.notSynchronized
  have hP : va_P (dC, dI) vwCl [kx_4 m_ q_row q_t t_ h0 k0 w_ z_ slots old] s.heap := hP
  have hl := lv_entry ([.ref m_, .int p0, .int p1]) (n := 3) (Nat.le_of_ble_eq_true rfl)
  rw [lg_entry_eq]
  generalize (lg_sl ([.ref m_, .int p0, .int p1]) ++ List.replicate (3 - (lg_sl ([.ref m_, .int p0, .int p1])).length) Slot.unset).toArray = ls at hl ⊢
  have hl : lv_has ls 3 [(0, .ref m_), (1, .int p0), (2, .int p1)] := hl
  have hf_49 := hts (.fieldLink RX4 49 "MajorityIndex" "slotsNow" "I") (List.mem_of_getElem? (i := 1) rfl)
  have hi_4 : ∀ w ∈ u_ws RX4 TX4 9, w ∈ wsX4_isEnough := fun w h => List.mem_cons_of_mem _ (List.mem_append_right _ h)
  refine lv_iload_n hx hb dX4_isEnough_0 rfl (lv_at hl 1 rfl) ?_
  refine lv_aload_n hx hb dX4_isEnough_1 rfl (lv_at hl 0 rfl) ?_
  refine va_get (D := (dC, dI)) (ci := 4) (v := .int slots) (C := RX4) (T := TX4) (N := 9) hx hb hts hi_4 hown hK hP 0 rfl rfl 7 (by decide) hf_49 (fun _ h9 => h9) rfl dX4_isEnough_2 ?_
  refine lv_iconst (v := 1) hx hb dX4_isEnough_5 (by decide) ?_
  refine lv_iadd hx hb dX4_isEnough_6 ?_
  refine lv_topi (fun y_1 ey_1 => ?_)
  have i_1 : y_1.toInt = slots.toInt + 1 := ki_add ey_1 rfl rfl (by omega) (by omega)
  refine lv_imul hx hb dX4_isEnough_7 ?_
  refine lv_topi (fun y_2 ey_2 => ?_)
  have h1 := ki_mulb (a := p0.toInt) (b := y_1.toInt) (A := 999) (B := 7) (by omega) (by omega) (by omega) (by omega)
  have m1 : y_2.toInt = p0.toInt * y_1.toInt := ki_mul ey_2 rfl rfl (by omega) (by omega)
  rw [i_1] at m1
  refine lv_iload_n hx hb dX4_isEnough_8 rfl (lv_at hl 2 rfl) ?_
  refine lv_icmp_lt (tgt := 16) hx hb dX4_isEnough_9 (by decide) (fun c_3 => ?_) (fun c_3 => ?_)
  · have i_3 : y_2.toInt < p1.toInt := kc_lt c_3
    refine lv_iconst (v := 0) hx hb dX4_isEnough_16 (by decide) ?_
    exact W.zret (v := 0) hx hb hr (by decide) (fun t ht hW => ⟨0, rfl, Or.inr (⟨rfl, by omega⟩), ht⟩) (fun q hq => by cases hq) dX4_isEnough_17
  · have i_3 : p1.toInt ≤ y_2.toInt := kc_nlt c_3
    refine lv_iconst (v := 1) hx hb dX4_isEnough_12 (by decide) ?_
    refine lv_goto (tgt := 17) hx hb dX4_isEnough_13 (by decide) ?_
    exact W.zret (v := 1) hx hb hr (by decide) (fun t ht hW => ⟨1, rfl, Or.inl ⟨rfl, by omega⟩, ht⟩) (fun q hq => by cases hq) dX4_isEnough_17

set_option maxHeartbeats 4000000 in
set_option maxRecDepth 100000 in
theorem c_X5_isEnough_x (l : Launch) (dC : Nat → ClassId) (dI : Nat → Nat → Nat) (h0 : Nat) (g_row : Nat) (g_many : Nat) (g_loss : Nat) (g_less : Nat) (g_voteValue : Nat) (g_voteNumber : Nat) (g_allValue : Nat) (g_allNumber : Nat) (g_nodeL : Nat) (g_nodeR : Nat) (g_part : Nat) (g_wasMany : Nat) (g_wasLoss : Nat) (g_wasValue : Nat) (g_wasNumber : Nat) (g_path : Nat) (g_heavyValue : Nat) (g_heavyTimes : Nat) (g_fewest : Nat) (g_which : Nat) (g_met : Nat) (m_n : Int32) (m_slots : Int32) (m_thrown : Int32) (m_allMany : Int32) (m_nodes : Int32) (m_partMany : Int32) (m_pathMany : Int32) (m_heavyMany : Int32) (m_mostMet : Int32) (p0 : Int32) (p1 : Int32) (sl0 : 1 ≤ m_slots.toInt) (sl1 : m_slots.toInt ≤ 6) (b0 : 1 ≤ p0.toInt) (b1 : p0.toInt ≤ 999) : Met l yX5_isEnough wsX5_isEnough ({ frames := 0, cells := 0, slots := 0, locals := 0 }) (va_Pc [.ref h0, .int p0, .int p1] (fun U => va_P (dC, dI) vwCl [kx_5 h0 g_row m_n m_slots m_thrown g_many g_loss g_less g_voteValue g_voteNumber g_allValue g_allNumber m_allMany g_nodeL g_nodeR m_nodes g_part m_partMany g_wasMany g_wasLoss g_wasValue g_wasNumber g_path m_pathMany g_heavyValue g_heavyTimes m_heavyMany g_fewest g_which g_met m_mostMet] U.heap ∧ va_K (dC, dI) vwCl [] U)) (vp_Si (fun r : Int32 => (r = 1 ∧ p1.toInt ≤ p0.toInt * (m_slots.toInt + 1)) ∨ (r = 0 ∧ p0.toInt * (m_slots.toInt + 1) < p1.toInt))) 0 0 (fun _ => False) := by
  refine Met.ofW (cc := cX5_isEnough) (maxL := 3) (ret := (some .boolean)) (by decide) rfl ?_
  intro p e s m args below meth c s₁ B hml hv
  obtain ⟨rfl, hP, hK⟩ := hv
  have hx := B.exec
  have hb := B.bytes
  have hr := B.returns
  have hts := atoms_spec (ws := wsX5_isEnough) B.pre
  have hown : s.vm.findClass RX5 = some m.cls := findClass_of_methodNamed B.named
  have hlocks := B.notSynchronized
  have hP : va_P (dC, dI) vwCl [kx_5 h0 g_row m_n m_slots m_thrown g_many g_loss g_less g_voteValue g_voteNumber g_allValue g_allNumber m_allMany g_nodeL g_nodeR m_nodes g_part m_partMany g_wasMany g_wasLoss g_wasValue g_wasNumber g_path m_pathMany g_heavyValue g_heavyTimes m_heavyMany g_fewest g_which g_met m_mostMet] s.heap := hP
  have hl := lv_entry ([.ref h0, .int p0, .int p1]) (n := 3) (Nat.le_of_ble_eq_true rfl)
  rw [lg_entry_eq]
  generalize (lg_sl ([.ref h0, .int p0, .int p1]) ++ List.replicate (3 - (lg_sl ([.ref h0, .int p0, .int p1])).length) Slot.unset).toArray = ls at hl ⊢
  have hl : lv_has ls 3 [(0, .ref h0), (1, .int p0), (2, .int p1)] := hl
  have hf_13 := hts (.fieldLink RX5 13 "MajorityIndexModel" "slots" "I") (List.mem_of_getElem? (i := 1) rfl)
  have hi_5 : ∀ w ∈ u_ws RX5 TX5 30, w ∈ wsX5_isEnough := fun w h => List.mem_cons_of_mem _ (List.mem_append_right _ h)
  refine lv_iload_n hx hb dX5_isEnough_0 rfl (lv_at hl 1 rfl) ?_
  refine lv_aload_n hx hb dX5_isEnough_1 rfl (lv_at hl 0 rfl) ?_
  refine va_get (D := (dC, dI)) (ci := 5) (v := .int m_slots) (C := RX5) (T := TX5) (N := 30) hx hb hts hi_5 hown hK hP 0 rfl rfl 2 (by decide) hf_13 (fun _ h9 => h9) rfl dX5_isEnough_2 ?_
  refine lv_iconst (v := 1) hx hb dX5_isEnough_5 (by decide) ?_
  refine lv_iadd hx hb dX5_isEnough_6 ?_
  refine lv_topi (fun y_1 ey_1 => ?_)
  have i_1 : y_1.toInt = m_slots.toInt + 1 := ki_add ey_1 rfl rfl (by omega) (by omega)
  refine lv_imul hx hb dX5_isEnough_7 ?_
  refine lv_topi (fun y_2 ey_2 => ?_)
  have h1 := ki_mulb (a := p0.toInt) (b := y_1.toInt) (A := 999) (B := 7) (by omega) (by omega) (by omega) (by omega)
  have m1 : y_2.toInt = p0.toInt * y_1.toInt := ki_mul ey_2 rfl rfl (by omega) (by omega)
  rw [i_1] at m1
  refine lv_iload_n hx hb dX5_isEnough_8 rfl (lv_at hl 2 rfl) ?_
  refine lv_icmp_lt (tgt := 16) hx hb dX5_isEnough_9 (by decide) (fun c_3 => ?_) (fun c_3 => ?_)
  · have i_3 : y_2.toInt < p1.toInt := kc_lt c_3
    refine lv_iconst (v := 0) hx hb dX5_isEnough_16 (by decide) ?_
    exact W.zret (v := 0) hx hb hr (by decide) (fun t ht hW => ⟨0, rfl, Or.inr (⟨rfl, by omega⟩), ht⟩) (fun q hq => by cases hq) dX5_isEnough_17
  · have i_3 : p1.toInt ≤ y_2.toInt := kc_nlt c_3
    refine lv_iconst (v := 1) hx hb dX5_isEnough_12 (by decide) ?_
    refine lv_goto (tgt := 17) hx hb dX5_isEnough_13 (by decide) ?_
    exact W.zret (v := 1) hx hb hr (by decide) (fun t ht hW => ⟨1, rfl, Or.inl ⟨rfl, by omega⟩, ht⟩) (fun q hq => by cases hq) dX5_isEnough_17

set_option maxHeartbeats 4000000 in
set_option maxRecDepth 100000 in
theorem c_X4_failed_y (l : Launch) (dC : Nat → ClassId) (dI : Nat → Nat → Nat) (m_ : Nat) (q_row : Nat) (q_t : Nat) (t_ : Nat) (h0 : Nat) (k0 : Nat) (w_ : Nat) (z_ : Nat) (slots : Int32) (old : Int32) (q_joined : Nat) (q_from : Nat) (q_to : Nat) (q_size : Nat) (q_lossOf : Nat) (q_lessBy : Nat) (q_value : Nat) (q_number : Nat) (nodes : Int32) (here : Int32) (q_cell : Nat) (cyI : ClassId) (len : Int32) (f : Nat → Int32) (ff : Nat → Int32) (ft : Nat → Int32) (fs : Nat → Int32) (fo : Nat → Int32) (uv : Nat → Int32) (un : Nat → Int32) (fe : Nat → Int32) (j_v : Nat) (j_n : Nat) (js : Int32) (jl : Int32) (je : Int32) (jv : Nat → Int32) (jn : Nat → Int32) (a_v : Nat) (a_n : Nat) (vs : Int32) (lo : Int32) (le : Int32) (fv : Nat → Int32) (fn : Nat → Int32) (p0 : Int32) (p1 : Int32) (p2 : Int32) (p3 : Int32) (sz : Nat) (a0 : 0 ≤ len.toInt) (a1 : len.toInt ≤ 160) (s0 : sixes fs) (sl0 : 1 ≤ slots.toInt) (sl1 : slots.toInt ≤ 6) (l0 : laidX old slots here f ff ft fs fo fe uv un nodes len) : Met l yX4_failed wsX4_failed ({ frames := 6, cells := 0, slots := 0, locals := 270 }) (va_Pc [.ref m_, .int p0, .int p1, .int p2, .int p3] (fun U => U.heap.size = sz ∧ va_P (dC, dI) vwCl [kx_4 m_ q_row q_t t_ h0 k0 w_ z_ slots old, kx_2 q_t q_row q_joined q_from q_to q_size q_lossOf q_lessBy q_value q_number nodes here, kx_0 q_row q_cell len, kx_a q_cell cyI 160 f, kx_a q_from cyI 319 ff, kx_a q_to cyI 319 ft, kx_a q_size cyI 319 fs, kx_a q_lossOf cyI 319 fo, kx_a q_lessBy cyI 319 fe, kx_a q_value cyI 1914 uv, kx_a q_number cyI 1914 un, kx_3 q_joined j_v j_n js jl je, kx_a j_v cyI 12 jv, kx_a j_n cyI 12 jn, kx_3 h0 a_v a_n vs lo le, kx_a a_v cyI 12 fv, kx_a a_n cyI 12 fn] U.heap ∧ va_K (dC, dI) vwCl [(cyI, .int)] U ∧ va_D (fun _ => True) [kx_4 m_ q_row q_t t_ h0 k0 w_ z_ slots old, kx_2 q_t q_row q_joined q_from q_to q_size q_lossOf q_lessBy q_value q_number nodes here, kx_0 q_row q_cell len, kx_a q_cell cyI 160 f, kx_a q_from cyI 319 ff, kx_a q_to cyI 319 ft, kx_a q_size cyI 319 fs, kx_a q_lossOf cyI 319 fo, kx_a q_lessBy cyI 319 fe, kx_a q_value cyI 1914 uv, kx_a q_number cyI 1914 un, kx_3 q_joined j_v j_n js jl je, kx_a j_v cyI 12 jv, kx_a j_n cyI 12 jn, kx_3 h0 a_v a_n vs lo le, kx_a a_v cyI 12 fv, kx_a a_n cyI 12 fn] ∧ va_Nw (.methodLinkNest RX3 42 yX4_isHeavy RX4) U)) (va_Qi (fun (r : Int32) (u : Int32 × Int32 × Int32 × (Nat → Int32) × (Nat → Int32) × (Nat → Int32) × (Nat → Int32) × (Nat → Int32) × (Nat → Int32) × (Nat → Int32) × Int32 × Int32 × Int32 × (Nat → Int32) × (Nat → Int32) × Int32 × Int32 × Int32 × (Nat → Int32) × (Nat → Int32) × Int32 × Int32 × (Nat → Int32) × (Nat → Int32) × (Nat → Int32) × (Nat → Int32) × Int32) => (((0 ≤ p0.toInt ∧ p0.toInt < p1.toInt ∧ p1.toInt ≤ len.toInt ∧ 1 ≤ p2.toInt ∧ p2.toInt ≤ p3.toInt ∧ p3.toInt ≤ 999 ∧ p3.toInt ≤ p2.toInt * (slots.toInt + 1)) ∧ u.1.toInt = 0 ∧ mj_GA slots.toNatClampNeg u.2.2.2.1 u.2.2.2.2.1 u.2.2.2.2.2.1 u.2.2.2.2.2.2.1 u.2.2.2.2.2.2.2.2.1 u.2.2.2.2.2.2.2.2.2.1 p0.toInt p1.toInt (mj_pq u.2.2.2.1 u.2.2.2.2.1 p0.toInt p1.toInt u.2.1.toNatClampNeg) u.2.2.2.2.2.2.2.2.2.2.2.2.2.2.2.2.2.2.2.2.1 u.2.2.2.2.2.2.2.2.2.2.2.2.2.2.2.2.2.2.2.2.2.1 u.2.2.2.2.2.2.2.2.2.2.2.2.2.2.2.2.2.2.2.2.2.2.1 u.2.2.2.2.2.2.2.2.2.2.2.2.2.2.2.2.2.2.2.2.2.2.2.1 ∧ mj_GA slots.toNatClampNeg u.2.2.2.1 u.2.2.2.2.1 u.2.2.2.2.2.1 u.2.2.2.2.2.2.1 u.2.2.2.2.2.2.2.2.1 u.2.2.2.2.2.2.2.2.2.1 p0.toInt p1.toInt (mj_pq u.2.2.2.1 u.2.2.2.2.1 p0.toInt p1.toInt u.2.1.toNatClampNeg) u.2.2.2.2.2.2.2.2.2.2.2.2.2.2.2.2.2.2.2.2.2.2.2.2.2.2 u.2.2.2.2.2.2.2.2.2.2.2.2.2.2.2.2.1 u.2.2.2.2.2.2.2.2.2.2.2.2.2.2.2.2.2.2.2.2.2.2.2.2.1 u.2.2.2.2.2.2.2.2.2.2.2.2.2.2.2.2.2.2.2.2.2.2.2.2.2.1 ∧ r.toInt = u.2.2.2.2.2.2.2.2.2.2.2.2.2.2.2.2.2.2.2.2.1.toInt - (mj_hk p2.toInt p3.toInt (p1.toInt - p0.toInt) u.2.2.2.2.2.2.2.2.2.2.2.2.2.2.2.2.2.2.2.2.2.2.2.2.1 (fun v => (cnt f v p0.toNatClampNeg (p1.toInt - p0.toInt).toNat : Int)) u.2.2.2.2.2.2.2.2.2.2.2.2.2.2.2.2.2.2.2.2.2.2.2.2.2.2.toNatClampNeg : Int)) ∨ ((0 ≤ p0.toInt ∧ p0.toInt < p1.toInt ∧ p1.toInt ≤ len.toInt ∧ 1 ≤ p2.toInt ∧ p2.toInt ≤ p3.toInt ∧ p3.toInt ≤ 999 ∧ p2.toInt * (slots.toInt + 1) < p3.toInt) ∧ r = -2) ∨ (((p0.toInt < 0 ∨ p1.toInt ≤ p0.toInt ∨ len.toInt < p1.toInt) ∨ p2.toInt < 1 ∨ p3.toInt < p2.toInt ∨ 999 < p3.toInt) ∧ r = -1)) ∧ laidX u.1 slots u.2.2.1 f u.2.2.2.1 u.2.2.2.2.1 u.2.2.2.2.2.1 u.2.2.2.2.2.2.1 u.2.2.2.2.2.2.2.1 u.2.2.2.2.2.2.2.2.1 u.2.2.2.2.2.2.2.2.2.1 u.2.1 len ∧ sixes u.2.2.2.2.2.1) (fun (u : Int32 × Int32 × Int32 × (Nat → Int32) × (Nat → Int32) × (Nat → Int32) × (Nat → Int32) × (Nat → Int32) × (Nat → Int32) × (Nat → Int32) × Int32 × Int32 × Int32 × (Nat → Int32) × (Nat → Int32) × Int32 × Int32 × Int32 × (Nat → Int32) × (Nat → Int32) × Int32 × Int32 × (Nat → Int32) × (Nat → Int32) × (Nat → Int32) × (Nat → Int32) × Int32) (t : State) => va_P (dC, dI) vwCl [kx_4 m_ q_row q_t t_ h0 k0 w_ z_ slots u.1, kx_2 q_t q_row q_joined q_from q_to q_size q_lossOf q_lessBy q_value q_number u.2.1 u.2.2.1, kx_0 q_row q_cell len, kx_a q_cell cyI 160 f, kx_a q_from cyI 319 u.2.2.2.1, kx_a q_to cyI 319 u.2.2.2.2.1, kx_a q_size cyI 319 u.2.2.2.2.2.1, kx_a q_lossOf cyI 319 u.2.2.2.2.2.2.1, kx_a q_lessBy cyI 319 u.2.2.2.2.2.2.2.1, kx_a q_value cyI 1914 u.2.2.2.2.2.2.2.2.1, kx_a q_number cyI 1914 u.2.2.2.2.2.2.2.2.2.1, kx_3 q_joined j_v j_n u.2.2.2.2.2.2.2.2.2.2.1 u.2.2.2.2.2.2.2.2.2.2.2.1 u.2.2.2.2.2.2.2.2.2.2.2.2.1, kx_a j_v cyI 12 u.2.2.2.2.2.2.2.2.2.2.2.2.2.1, kx_a j_n cyI 12 u.2.2.2.2.2.2.2.2.2.2.2.2.2.2.1, kx_3 h0 a_v a_n u.2.2.2.2.2.2.2.2.2.2.2.2.2.2.2.1 u.2.2.2.2.2.2.2.2.2.2.2.2.2.2.2.2.1 u.2.2.2.2.2.2.2.2.2.2.2.2.2.2.2.2.2.1, kx_a a_v cyI 12 u.2.2.2.2.2.2.2.2.2.2.2.2.2.2.2.2.2.2.1, kx_a a_n cyI 12 u.2.2.2.2.2.2.2.2.2.2.2.2.2.2.2.2.2.2.2.1] t.heap ∧ va_K (dC, dI) vwCl [(cyI, .int)] t ∧ va_D (va_A [kx_4 m_ q_row q_t t_ h0 k0 w_ z_ slots old, kx_2 q_t q_row q_joined q_from q_to q_size q_lossOf q_lessBy q_value q_number nodes here, kx_0 q_row q_cell len, kx_a q_cell cyI 160 f, kx_a q_from cyI 319 ff, kx_a q_to cyI 319 ft, kx_a q_size cyI 319 fs, kx_a q_lossOf cyI 319 fo, kx_a q_lessBy cyI 319 fe, kx_a q_value cyI 1914 uv, kx_a q_number cyI 1914 un, kx_3 q_joined j_v j_n js jl je, kx_a j_v cyI 12 jv, kx_a j_n cyI 12 jn, kx_3 h0 a_v a_n vs lo le, kx_a a_v cyI 12 fv, kx_a a_n cyI 12 fn] sz) [kx_4 m_ q_row q_t t_ h0 k0 w_ z_ slots u.1, kx_2 q_t q_row q_joined q_from q_to q_size q_lossOf q_lessBy q_value q_number u.2.1 u.2.2.1, kx_0 q_row q_cell len, kx_a q_cell cyI 160 f, kx_a q_from cyI 319 u.2.2.2.1, kx_a q_to cyI 319 u.2.2.2.2.1, kx_a q_size cyI 319 u.2.2.2.2.2.1, kx_a q_lossOf cyI 319 u.2.2.2.2.2.2.1, kx_a q_lessBy cyI 319 u.2.2.2.2.2.2.2.1, kx_a q_value cyI 1914 u.2.2.2.2.2.2.2.2.1, kx_a q_number cyI 1914 u.2.2.2.2.2.2.2.2.2.1, kx_3 q_joined j_v j_n u.2.2.2.2.2.2.2.2.2.2.1 u.2.2.2.2.2.2.2.2.2.2.2.1 u.2.2.2.2.2.2.2.2.2.2.2.2.1, kx_a j_v cyI 12 u.2.2.2.2.2.2.2.2.2.2.2.2.2.1, kx_a j_n cyI 12 u.2.2.2.2.2.2.2.2.2.2.2.2.2.2.1, kx_3 h0 a_v a_n u.2.2.2.2.2.2.2.2.2.2.2.2.2.2.2.1 u.2.2.2.2.2.2.2.2.2.2.2.2.2.2.2.2.1 u.2.2.2.2.2.2.2.2.2.2.2.2.2.2.2.2.2.1, kx_a a_v cyI 12 u.2.2.2.2.2.2.2.2.2.2.2.2.2.2.2.2.2.2.1, kx_a a_n cyI 12 u.2.2.2.2.2.2.2.2.2.2.2.2.2.2.2.2.2.2.2.1]) (va_A [kx_4 m_ q_row q_t t_ h0 k0 w_ z_ slots old, kx_2 q_t q_row q_joined q_from q_to q_size q_lossOf q_lessBy q_value q_number nodes here, kx_0 q_row q_cell len, kx_a q_cell cyI 160 f, kx_a q_from cyI 319 ff, kx_a q_to cyI 319 ft, kx_a q_size cyI 319 fs, kx_a q_lossOf cyI 319 fo, kx_a q_lessBy cyI 319 fe, kx_a q_value cyI 1914 uv, kx_a q_number cyI 1914 un, kx_3 q_joined j_v j_n js jl je, kx_a j_v cyI 12 jv, kx_a j_n cyI 12 jn, kx_3 h0 a_v a_n vs lo le, kx_a a_v cyI 12 fv, kx_a a_n cyI 12 fn] sz)) 0 0 (va_A [kx_4 m_ q_row q_t t_ h0 k0 w_ z_ slots old, kx_2 q_t q_row q_joined q_from q_to q_size q_lossOf q_lessBy q_value q_number nodes here, kx_0 q_row q_cell len, kx_a q_cell cyI 160 f, kx_a q_from cyI 319 ff, kx_a q_to cyI 319 ft, kx_a q_size cyI 319 fs, kx_a q_lossOf cyI 319 fo, kx_a q_lessBy cyI 319 fe, kx_a q_value cyI 1914 uv, kx_a q_number cyI 1914 un, kx_3 q_joined j_v j_n js jl je, kx_a j_v cyI 12 jv, kx_a j_n cyI 12 jn, kx_3 h0 a_v a_n vs lo le, kx_a a_v cyI 12 fv, kx_a a_n cyI 12 fn] sz) := by
  refine Met.ofW (cc := cX4_failed) (maxL := 7) (ret := (some .int)) (by decide) rfl ?_
  intro p e s m args below meth c s₁ B hml hv
  obtain ⟨rfl, hsz, hP, hK, hD0, hN0⟩ := hv
  have hx := B.exec
  have hb := B.bytes
  have hr := B.returns
  have hts := atoms_spec (ws := wsX4_failed) B.pre
  have hown : s.vm.findClass RX4 = some m.cls := findClass_of_methodNamed B.named
  have hlocks := B.notSynchronized
  subst hsz
  have hD := hD0.self (sz := s.heap.size)
  generalize hAe : va_A [kx_4 m_ q_row q_t t_ h0 k0 w_ z_ slots old, kx_2 q_t q_row q_joined q_from q_to q_size q_lossOf q_lessBy q_value q_number nodes here, kx_0 q_row q_cell len, kx_a q_cell cyI 160 f, kx_a q_from cyI 319 ff, kx_a q_to cyI 319 ft, kx_a q_size cyI 319 fs, kx_a q_lossOf cyI 319 fo, kx_a q_lessBy cyI 319 fe, kx_a q_value cyI 1914 uv, kx_a q_number cyI 1914 un, kx_3 q_joined j_v j_n js jl je, kx_a j_v cyI 12 jv, kx_a j_n cyI 12 jn, kx_3 h0 a_v a_n vs lo le, kx_a a_v cyI 12 fv, kx_a a_n cyI 12 fn] s.heap.size = A at hD ⊢
  have hA : ∀ q : Nat, s.heap.size ≤ q → A q := fun q h => by rw [← hAe]; exact Or.inr h
  have hS : va_S A s.heap s.heap [] := va_S.rf
  have hP : va_P (dC, dI) vwCl [kx_4 m_ q_row q_t t_ h0 k0 w_ z_ slots old, kx_2 q_t q_row q_joined q_from q_to q_size q_lossOf q_lessBy q_value q_number nodes here, kx_0 q_row q_cell len, kx_a q_cell cyI 160 f, kx_a q_from cyI 319 ff, kx_a q_to cyI 319 ft, kx_a q_size cyI 319 fs, kx_a q_lossOf cyI 319 fo, kx_a q_lessBy cyI 319 fe, kx_a q_value cyI 1914 uv, kx_a q_number cyI 1914 un, kx_3 q_joined j_v j_n js jl je, kx_a j_v cyI 12 jv, kx_a j_n cyI 12 jn, kx_3 h0 a_v a_n vs lo le, kx_a a_v cyI 12 fv, kx_a a_n cyI 12 fn] s.heap := hP
  have hl := lv_entry ([.ref m_, .int p0, .int p1, .int p2, .int p3]) (n := 7) (Nat.le_of_ble_eq_true rfl)
  rw [lg_entry_eq]
  generalize (lg_sl ([.ref m_, .int p0, .int p1, .int p2, .int p3]) ++ List.replicate (7 - (lg_sl ([.ref m_, .int p0, .int p1, .int p2, .int p3])).length) Slot.unset).toArray = ls at hl ⊢
  have hl : lv_has ls 7 [(0, .ref m_), (1, .int p0), (2, .int p1), (3, .int p2), (4, .int p3)] := hl
  have hf_12 := hts (.fieldLink RX4 12 "MajorityIndex" "row" "LMajorityIndex$Row;") (List.mem_of_getElem? (i := 1) rfl)
  have hi_4 : ∀ w ∈ u_ws RX4 TX4 9, w ∈ wsX4_failed := fun w h => List.mem_cons_of_mem _ (List.mem_append_left _ (List.mem_append_left _ (List.mem_append_left _ (List.mem_append_right _ h))))
  have hf_35 := hts (.fieldLink RX4 35 "MajorityIndex" "votes" "LMajorityIndex$Votes;") (List.mem_of_getElem? (i := 2) rfl)
  have hf_174 := hts (.fieldLink RX4 174 "MajorityIndex$Votes" "size" "I") (List.mem_of_getElem? (i := 3) rfl)
  have hi_3 : ∀ w ∈ u_ws RX3 TX3 5, w ∈ wsX4_failed := fun w h => List.mem_cons_of_mem _ (List.mem_append_left _ (List.mem_append_left _ (List.mem_append_right _ h)))
  refine lv_aload_n hx hb dX4_failed_0 rfl (lv_at hl 0 rfl) ?_
  refine va_get (D := (dC, dI)) (ci := 4) (v := .ref q_row) (C := RX4) (T := TX4) (N := 9) hx hb hts hi_4 hown hK hP 0 rfl rfl 0 (by decide) hf_12 (fun _ h9 => h9) rfl dX4_failed_1 ?_
  refine lv_iload_n hx hb dX4_failed_4 rfl (lv_at hl 1 rfl) ?_
  refine lv_iload_n hx hb dX4_failed_5 rfl (lv_at hl 2 rfl) ?_
  have hPc := hP.sub (ws' := [kx_0 q_row q_cell len]) [2] rfl
  have hKc := hK.sub (tys' := []) [] rfl
  refine vp_callSi (W.runV (As := [.int p0, .int p1]) (rest := []) ⟨hx, hb, hml, hown, hts⟩ (c_X0_hasRange l dC dI q_row q_cell len p0 p1) (cwV 2 hts gX4_failed_X0_hasRange rfl rfl rfl (by decide +kernel) ⟨Nat.le_of_ble_eq_true rfl, Nat.le_of_ble_eq_true rfl⟩) ⟨fun a U g mk q => by obtain ⟨q0, qP, qK⟩ := q; exact ⟨q0, qP, va_K.moved (u := U) (U := U.calling g mk a) (Vm.Alike.refl U.vm) qK⟩, va_recv hKc hPc (ci := 0) (q0 := 0) rfl rfl, fun U hU hW => ⟨rfl, by rw [hU]; exact hPc, va_K.moved hW.alike hKc⟩⟩ rfl rfl hl.1 rfl (lv_room (Nat.le_of_ble_eq_true rfl)) dX4_failed_6 ⟨Nat.le_of_ble_eq_true rfl, Nat.le_of_ble_eq_true rfl⟩) (fun r_1 w_1 => ?_)
  rcases w_1 with ⟨rfl, w_1⟩ | ⟨rfl, w_1⟩
  · have w_1 : (0 ≤ p0.toInt ∧ p0.toInt < p1.toInt ∧ p1.toInt ≤ len.toInt) := w_1
    refine lv_if_eq (tgt := 21) hx hb dX4_failed_9 (by decide) (fun c_2 => ?_) (fun c_2 => ?_)
    · exact absurd c_2 (by decide)
    · refine lv_iload_n hx hb dX4_failed_12 rfl (lv_at hl 3 rfl) ?_
      refine lv_iload hx hb dX4_failed_13 (lv_at hl 4 rfl) ?_
      have hPc := hP.sub (ws' := []) [] rfl
      have hKc := hK.sub (tys' := []) [] rfl
      refine vp_callSi (W.runS (As := [.int p2, .int p3]) (rest := []) ⟨hx, hb, hml, hown, hts⟩ (c_X4_isShare l dC dI p2 p3) (va_cwS 2 hts gX4_failed_X4_isShare rfl rfl rfl (by decide +kernel) ⟨Nat.le_of_ble_eq_true rfl, Nat.le_of_ble_eq_true rfl⟩) ⟨fun a U g mk q => by obtain ⟨q0, qP, qK⟩ := q; exact ⟨q0, qP, va_K.moved (u := U) (U := U.calling g mk a) (Vm.Alike.refl U.vm) qK⟩, fun U hU hW => ⟨rfl, by rw [hU]; exact hPc, va_K.moved hW.alike hKc⟩⟩ rfl rfl hl.1 rfl (lv_room (Nat.le_of_ble_eq_true rfl)) dX4_failed_15 ⟨Nat.le_of_ble_eq_true rfl, Nat.le_of_ble_eq_true rfl⟩) (fun r_3 w_3 => ?_)
      rcases w_3 with ⟨rfl, w_3⟩ | ⟨rfl, w_3⟩
      · have w_3 : (1 ≤ p2.toInt ∧ p2.toInt ≤ p3.toInt ∧ p3.toInt ≤ 999) := w_3
        refine lv_if_ne (tgt := 23) hx hb dX4_failed_18 (by decide) (fun c_4 => ?_) (fun c_4 => ?_)
        · refine lv_aload_n hx hb dX4_failed_23 rfl (lv_at hl 0 rfl) ?_
          refine lv_iload_n hx hb dX4_failed_24 rfl (lv_at hl 3 rfl) ?_
          refine lv_iload hx hb dX4_failed_25 (lv_at hl 4 rfl) ?_
          have hPc := hP.sub (ws' := [kx_4 m_ q_row q_t t_ h0 k0 w_ z_ slots old]) [0] rfl
          have hKc := hK.sub (tys' := []) [] rfl
          refine vp_callSi (W.runV (As := [.int p2, .int p3]) (rest := []) ⟨hx, hb, hml, hown, hts⟩ (c_X4_isEnough_x l dC dI m_ q_row q_t t_ h0 k0 w_ z_ slots old p2 p3 sl0 sl1 (by omega) (by omega)) (cwV 2 hts gX4_failed_X4_isEnough rfl rfl rfl (by decide +kernel) ⟨Nat.le_of_ble_eq_true rfl, Nat.le_of_ble_eq_true rfl⟩) ⟨fun a U g mk q => by obtain ⟨q0, qP, qK⟩ := q; exact ⟨q0, qP, va_K.moved (u := U) (U := U.calling g mk a) (Vm.Alike.refl U.vm) qK⟩, va_recv hKc hPc (ci := 4) (q0 := 0) rfl rfl, fun U hU hW => ⟨rfl, by rw [hU]; exact hPc, va_K.moved hW.alike hKc⟩⟩ rfl rfl hl.1 rfl (lv_room (Nat.le_of_ble_eq_true rfl)) dX4_failed_27 ⟨Nat.le_of_ble_eq_true rfl, Nat.le_of_ble_eq_true rfl⟩) (fun r_5 w_5 => ?_)
          rcases w_5 with ⟨rfl, w_5⟩ | ⟨rfl, w_5⟩
          · have w_5 : p3.toInt ≤ p2.toInt * (slots.toInt + 1) := w_5
            refine lv_if_ne (tgt := 36) hx hb dX4_failed_30 (by decide) (fun c_6 => ?_) (fun c_6 => ?_)
            · refine lv_aload_n hx hb dX4_failed_36 rfl (lv_at hl 0 rfl) ?_
              have hPc := hP.sub (ws' := [kx_4 m_ q_row q_t t_ h0 k0 w_ z_ slots old, kx_2 q_t q_row q_joined q_from q_to q_size q_lossOf q_lessBy q_value q_number nodes here, kx_0 q_row q_cell len, kx_a q_cell cyI 160 f, kx_a q_from cyI 319 ff, kx_a q_to cyI 319 ft, kx_a q_size cyI 319 fs, kx_a q_lossOf cyI 319 fo, kx_a q_lessBy cyI 319 fe, kx_a q_value cyI 1914 uv, kx_a q_number cyI 1914 un, kx_3 q_joined j_v j_n js jl je, kx_a j_v cyI 12 jv, kx_a j_n cyI 12 jn]) [0, 1, 2, 3, 4, 5, 6, 7, 8, 9, 10, 11, 12, 13] rfl
              have hKc := hK
              have hDc := hD.sub (ws' := [kx_4 m_ q_row q_t t_ h0 k0 w_ z_ slots old, kx_2 q_t q_row q_joined q_from q_to q_size q_lossOf q_lessBy q_value q_number nodes here, kx_0 q_row q_cell len, kx_a q_cell cyI 160 f, kx_a q_from cyI 319 ff, kx_a q_to cyI 319 ft, kx_a q_size cyI 319 fs, kx_a q_lossOf cyI 319 fo, kx_a q_lessBy cyI 319 fe, kx_a q_value cyI 1914 uv, kx_a q_number cyI 1914 un, kx_3 q_joined j_v j_n js jl je, kx_a j_v cyI 12 jv, kx_a j_n cyI 12 jn]) [0, 1, 2, 3, 4, 5, 6, 7, 8, 9, 10, 11, 12, 13] (by decide) rfl
              have hFc := va_free (wc := [kx_4 m_ q_row q_t t_ h0 k0 w_ z_ slots old, kx_2 q_t q_row q_joined q_from q_to q_size q_lossOf q_lessBy q_value q_number nodes here, kx_0 q_row q_cell len, kx_a q_cell cyI 160 f, kx_a q_from cyI 319 ff, kx_a q_to cyI 319 ft, kx_a q_size cyI 319 fs, kx_a q_lossOf cyI 319 fo, kx_a q_lessBy cyI 319 fe, kx_a q_value cyI 1914 uv, kx_a q_number cyI 1914 un, kx_3 q_joined j_v j_n js jl je, kx_a j_v cyI 12 jv, kx_a j_n cyI 12 jn]) hD hS hA [0, 1, 2, 3, 4, 5, 6, 7, 8, 9, 10, 11, 12, 13] rfl
              refine va_callr (va_runV (As := []) (rest := []) ⟨hx, hb, hml, hown, hts⟩ (c_X4_laidTree_x l dC dI m_ q_row q_t t_ h0 k0 w_ z_ slots old q_joined q_from q_to q_size q_lossOf q_lessBy q_value q_number nodes here q_cell cyI len f ff ft fs fo uv un fe j_v j_n js jl je jv jn s.heap.size a0 a1 s0 sl0 sl1 l0) (cwV 0 hts gX4_failed_X4_laidTree rfl rfl rfl (by decide +kernel) ⟨Nat.le_of_ble_eq_true rfl, Nat.le_of_ble_eq_true rfl⟩) ⟨fun a U g mk q => by obtain ⟨q0, q1, qP, qK, qD⟩ := q; exact ⟨q0, q1, qP, va_K.moved (u := U) (U := U.calling g mk a) (Vm.Alike.refl U.vm) qK, qD⟩, va_recv hKc hPc (ci := 4) (q0 := 0) rfl rfl, fun U hU hW => ⟨rfl, by rw [hU], by rw [hU]; exact hPc, va_K.moved hW.alike hKc, hDc.weaken (fun _ _ _ _ => trivial)⟩⟩ rfl rfl hl.1 rfl (lv_room (Nat.le_of_ble_eq_true rfl)) dX4_failed_37 ⟨Nat.le_of_ble_eq_true rfl, Nat.le_of_ble_eq_true rfl⟩) hS (fun q _ h => hFc q h) hFc (fun u ra t H1 locs ht hvm w_7 hB hz1 hk1 hS => ?_)
              obtain ⟨o_8, o_9, o_10, o_11, o_12, o_13, o_14, o_15, o_16, o_17, o_18, o_19, o_20, o_21, o_22⟩ := u
              dsimp only at w_7 hB
              obtain ⟨er, hP1, hK1, hD1⟩ := hB
              rw [ht] at hP1
              have hK1 := va_K.moved hvm.symm hK1
              obtain ⟨hP, hD⟩ := va_join (wr := [kx_3 h0 a_v a_n vs lo le, kx_a a_v cyI 12 fv, kx_a a_n cyI 12 fn]) (w1 := [kx_4 m_ q_row q_t t_ h0 k0 w_ z_ slots o_8, kx_2 q_t q_row q_joined q_from q_to q_size q_lossOf q_lessBy q_value q_number o_9 o_10, kx_0 q_row q_cell len, kx_a q_cell cyI 160 f, kx_a q_from cyI 319 o_11, kx_a q_to cyI 319 o_12, kx_a q_size cyI 319 o_13, kx_a q_lossOf cyI 319 o_14, kx_a q_lessBy cyI 319 o_15, kx_a q_value cyI 1914 o_16, kx_a q_number cyI 1914 o_17, kx_3 q_joined j_v j_n o_18 o_19 o_20, kx_a j_v cyI 12 o_21, kx_a j_n cyI 12 o_22]) hP hD [0, 1, 2, 3, 4, 5, 6, 7, 8, 9, 10, 11, 12, 13] [14, 15, 16] rfl rfl (by decide) (by decide) hk1 hFc hP1 hD1
              clear hP1 hD1 hK1 hk1 hz1 hFc hDc hPc hKc
              generalize H1 = H at hP hS ⊢
              have hP : va_P (dC, dI) vwCl [kx_3 h0 a_v a_n vs lo le, kx_a a_v cyI 12 fv, kx_a a_n cyI 12 fn, kx_4 m_ q_row q_t t_ h0 k0 w_ z_ slots o_8, kx_2 q_t q_row q_joined q_from q_to q_size q_lossOf q_lessBy q_value q_number o_9 o_10, kx_0 q_row q_cell len, kx_a q_cell cyI 160 f, kx_a q_from cyI 319 o_11, kx_a q_to cyI 319 o_12, kx_a q_size cyI 319 o_13, kx_a q_lossOf cyI 319 o_14, kx_a q_lessBy cyI 319 o_15, kx_a q_value cyI 1914 o_16, kx_a q_number cyI 1914 o_17, kx_3 q_joined j_v j_n o_18 o_19 o_20, kx_a j_v cyI 12 o_21, kx_a j_n cyI 12 o_22] H := hP
              have hD : va_D A [kx_3 h0 a_v a_n vs lo le, kx_a a_v cyI 12 fv, kx_a a_n cyI 12 fn, kx_4 m_ q_row q_t t_ h0 k0 w_ z_ slots o_8, kx_2 q_t q_row q_joined q_from q_to q_size q_lossOf q_lessBy q_value q_number o_9 o_10, kx_0 q_row q_cell len, kx_a q_cell cyI 160 f, kx_a q_from cyI 319 o_11, kx_a q_to cyI 319 o_12, kx_a q_size cyI 319 o_13, kx_a q_lossOf cyI 319 o_14, kx_a q_lessBy cyI 319 o_15, kx_a q_value cyI 1914 o_16, kx_a q_number cyI 1914 o_17, kx_3 q_joined j_v j_n o_18 o_19 o_20, kx_a j_v cyI 12 o_21, kx_a j_n cyI 12 o_22] := hD
              have w_7 : o_8.toInt = 0 ∧ o_10 = slots ∧ sixes o_13 ∧ mj_C slots.toNatClampNeg f o_11 o_12 o_13 o_14 o_15 o_16 o_17 o_9.toInt len.toInt ∧ 0 ≤ o_9.toInt ∧ o_9.toInt ≤ 319 ∧ treeOk o_11 o_12 o_9.toInt len.toInt := w_7
              rw [er]
              have i_hs := congrArg Int32.toInt w_7.2.1
              refine lv_astore (lv' := [(5, .ref q_t), (0, .ref m_), (1, .int p0), (2, .int p1), (3, .int p2), (4, .int p3)]) hx hb dX4_failed_40 hl (by decide) rfl (fun ls hl => ?_)
              refine lv_aload hx hb dX4_failed_42 (lv_at hl 0 rfl) ?_
              refine lv_aload_n hx hb dX4_failed_44 rfl (lv_at hl 1 rfl) ?_
              refine va_get (D := (dC, dI)) (ci := 4) (v := .ref h0) (C := RX4) (T := TX4) (N := 9) hx hb hts hi_4 hown hK hP 3 rfl rfl 3 (by decide) hf_35 (fun _ h9 => h9) rfl dX4_failed_45 ?_
              refine lv_iload_n hx hb dX4_failed_48 rfl (lv_at hl 2 rfl) ?_
              refine lv_iload_n hx hb dX4_failed_49 rfl (lv_at hl 3 rfl) ?_
              have hPc := hP.sub (ws' := [kx_2 q_t q_row q_joined q_from q_to q_size q_lossOf q_lessBy q_value q_number o_9 o_10, kx_a q_from cyI 319 o_11, kx_a q_to cyI 319 o_12, kx_a q_size cyI 319 o_13, kx_a q_lossOf cyI 319 o_14, kx_a q_value cyI 1914 o_16, kx_a q_number cyI 1914 o_17, kx_3 h0 a_v a_n vs lo le, kx_a a_v cyI 12 fv, kx_a a_n cyI 12 fn]) [4, 7, 8, 9, 10, 12, 13, 0, 1, 2] rfl
              have hKc := hK
              have hDc := hD.sub (ws' := [kx_2 q_t q_row q_joined q_from q_to q_size q_lossOf q_lessBy q_value q_number o_9 o_10, kx_a q_from cyI 319 o_11, kx_a q_to cyI 319 o_12, kx_a q_size cyI 319 o_13, kx_a q_lossOf cyI 319 o_14, kx_a q_value cyI 1914 o_16, kx_a q_number cyI 1914 o_17, kx_3 h0 a_v a_n vs lo le, kx_a a_v cyI 12 fv, kx_a a_n cyI 12 fn]) [4, 7, 8, 9, 10, 12, 13, 0, 1, 2] (by decide) rfl
              have hFc := va_free (wc := [kx_2 q_t q_row q_joined q_from q_to q_size q_lossOf q_lessBy q_value q_number o_9 o_10, kx_a q_from cyI 319 o_11, kx_a q_to cyI 319 o_12, kx_a q_size cyI 319 o_13, kx_a q_lossOf cyI 319 o_14, kx_a q_value cyI 1914 o_16, kx_a q_number cyI 1914 o_17, kx_3 h0 a_v a_n vs lo le, kx_a a_v cyI 12 fv, kx_a a_n cyI 12 fn]) hD hS hA [4, 7, 8, 9, 10, 12, 13, 0, 1, 2] rfl
              refine va_callv (va_runV (As := [.ref h0, .int p0, .int p1]) (rest := []) ⟨hx, hb, hml, hown, hts⟩ (c_X2_gather_x l dC dI q_t q_row q_joined q_from q_to q_size q_lossOf q_lessBy q_value q_number o_9 o_10 h0 a_v a_n cyI vs lo le fv fn len f o_11 o_12 o_13 o_14 o_16 o_17 o_15 p0 p1 H.size w_7.2.2.2.2.1 w_7.2.2.2.2.2.1 w_7.2.2.1 a1 (by rw [w_7.2.1]; omega) (by rw [w_7.2.1]; omega) w_7.2.2.2.2.2.2 (by rw [w_7.2.1]; exact w_7.2.2.2.1.2.2.2.2.2.2)) (cwV 3 hts gX4_failed_X2_gather rfl rfl rfl (by decide +kernel) ⟨Nat.le_of_ble_eq_true rfl, Nat.le_of_ble_eq_true rfl⟩) ⟨fun a U g mk q => by obtain ⟨q0, q1, qP, qK, qD⟩ := q; exact ⟨q0, q1, qP, va_K.moved (u := U) (U := U.calling g mk a) (Vm.Alike.refl U.vm) qK, qD⟩, va_recv hKc hPc (ci := 2) (q0 := 0) rfl rfl, fun U hU hW => ⟨rfl, by rw [hU], by rw [hU]; exact hPc, va_K.moved hW.alike hKc, hDc.weaken (fun _ _ _ _ => trivial)⟩⟩ rfl rfl hl.1 rfl (lv_room (Nat.le_of_ble_eq_true rfl)) dX4_failed_50 ⟨Nat.le_of_ble_eq_true rfl, Nat.le_of_ble_eq_true rfl⟩) hS (fun q _ h => hFc q h) hFc (fun u t H1 locs ht hvm w_23 hB hz1 hk1 hS => ?_)
              obtain ⟨o_24, o_25, o_26, o_27, o_28⟩ := u
              dsimp only at w_23 hB
              obtain ⟨hP1, hK1, hD1⟩ := hB
              rw [ht] at hP1
              have hK1 := va_K.moved hvm.symm hK1
              obtain ⟨hP, hD⟩ := va_join (wr := [kx_4 m_ q_row q_t t_ h0 k0 w_ z_ slots o_8, kx_0 q_row q_cell len, kx_a q_cell cyI 160 f, kx_a q_lessBy cyI 319 o_15, kx_3 q_joined j_v j_n o_18 o_19 o_20, kx_a j_v cyI 12 o_21, kx_a j_n cyI 12 o_22]) (w1 := [kx_2 q_t q_row q_joined q_from q_to q_size q_lossOf q_lessBy q_value q_number o_9 o_10, kx_a q_from cyI 319 o_11, kx_a q_to cyI 319 o_12, kx_a q_size cyI 319 o_13, kx_a q_lossOf cyI 319 o_14, kx_a q_value cyI 1914 o_16, kx_a q_number cyI 1914 o_17, kx_3 h0 a_v a_n o_24 o_25 o_26, kx_a a_v cyI 12 o_27, kx_a a_n cyI 12 o_28]) hP hD [4, 7, 8, 9, 10, 12, 13, 0, 1, 2] [3, 5, 6, 11, 14, 15, 16] rfl rfl (by decide) (by decide) hk1 hFc hP1 hD1
              clear hP1 hD1 hK1 hk1 hz1 hFc hDc hPc hKc
              generalize H1 = H at hP hS ⊢
              have hP : va_P (dC, dI) vwCl [kx_4 m_ q_row q_t t_ h0 k0 w_ z_ slots o_8, kx_0 q_row q_cell len, kx_a q_cell cyI 160 f, kx_a q_lessBy cyI 319 o_15, kx_3 q_joined j_v j_n o_18 o_19 o_20, kx_a j_v cyI 12 o_21, kx_a j_n cyI 12 o_22, kx_2 q_t q_row q_joined q_from q_to q_size q_lossOf q_lessBy q_value q_number o_9 o_10, kx_a q_from cyI 319 o_11, kx_a q_to cyI 319 o_12, kx_a q_size cyI 319 o_13, kx_a q_lossOf cyI 319 o_14, kx_a q_value cyI 1914 o_16, kx_a q_number cyI 1914 o_17, kx_3 h0 a_v a_n o_24 o_25 o_26, kx_a a_v cyI 12 o_27, kx_a a_n cyI 12 o_28] H := hP
              have hD : va_D A [kx_4 m_ q_row q_t t_ h0 k0 w_ z_ slots o_8, kx_0 q_row q_cell len, kx_a q_cell cyI 160 f, kx_a q_lessBy cyI 319 o_15, kx_3 q_joined j_v j_n o_18 o_19 o_20, kx_a j_v cyI 12 o_21, kx_a j_n cyI 12 o_22, kx_2 q_t q_row q_joined q_from q_to q_size q_lossOf q_lessBy q_value q_number o_9 o_10, kx_a q_from cyI 319 o_11, kx_a q_to cyI 319 o_12, kx_a q_size cyI 319 o_13, kx_a q_lossOf cyI 319 o_14, kx_a q_value cyI 1914 o_16, kx_a q_number cyI 1914 o_17, kx_3 h0 a_v a_n o_24 o_25 o_26, kx_a a_v cyI 12 o_27, kx_a a_n cyI 12 o_28] := hD
              have w_23 : mj_GA o_10.toNatClampNeg o_11 o_12 o_13 o_14 o_16 o_17 p0.toInt p1.toInt (mj_pq o_11 o_12 p0.toInt p1.toInt o_9.toNatClampNeg) o_24 o_25 o_27 o_28 ∧ 0 ≤ o_24.toInt ∧ o_24.toInt ≤ o_10.toInt := w_23
              refine lv_aload_n hx hb dX4_failed_53 rfl (lv_at hl 1 rfl) ?_
              refine va_get (D := (dC, dI)) (ci := 4) (v := .ref h0) (C := RX4) (T := TX4) (N := 9) hx hb hts hi_4 hown hK hP 0 rfl rfl 3 (by decide) hf_35 (fun _ h9 => h9) rfl dX4_failed_54 ?_
              refine va_get (D := (dC, dI)) (ci := 3) (v := .int o_24) (C := RX3) (T := TX3) (N := 5) hx hb hts hi_3 hown hK hP 14 rfl rfl 2 (by decide) hf_174 (fun _ h9 => h9) rfl dX4_failed_57 ?_
              refine lv_istore (lv' := [(6, .int o_24), (5, .ref q_t), (0, .ref m_), (1, .int p0), (2, .int p1), (3, .int p2), (4, .int p3)]) hx hb dX4_failed_60 hl (by decide) rfl (fun ls hl => ?_)
              refine lv_aload_n hx hb dX4_failed_62 rfl (lv_at hl 2 rfl) ?_
              refine lv_aload hx hb dX4_failed_63 (lv_at hl 1 rfl) ?_
              refine lv_iload_n hx hb dX4_failed_65 rfl (lv_at hl 3 rfl) ?_
              refine lv_iload_n hx hb dX4_failed_66 rfl (lv_at hl 4 rfl) ?_
              refine lv_iload_n hx hb dX4_failed_67 rfl (lv_at hl 5 rfl) ?_
              refine lv_iload hx hb dX4_failed_68 (lv_at hl 6 rfl) ?_
              have hPc := hP.sub (ws' := [kx_4 m_ q_row q_t t_ h0 k0 w_ z_ slots o_8, kx_0 q_row q_cell len, kx_a q_cell cyI 160 f, kx_2 q_t q_row q_joined q_from q_to q_size q_lossOf q_lessBy q_value q_number o_9 o_10, kx_a q_from cyI 319 o_11, kx_a q_to cyI 319 o_12, kx_a q_size cyI 319 o_13, kx_a q_lossOf cyI 319 o_14, kx_a q_lessBy cyI 319 o_15, kx_a q_value cyI 1914 o_16, kx_a q_number cyI 1914 o_17, kx_3 h0 a_v a_n o_24 o_25 o_26, kx_a a_v cyI 12 o_27, kx_a a_n cyI 12 o_28]) [0, 1, 2, 7, 8, 9, 10, 11, 3, 12, 13, 14, 15, 16] rfl
              have hKc := hK
              have hDc := hD.sub (ws' := [kx_4 m_ q_row q_t t_ h0 k0 w_ z_ slots o_8, kx_0 q_row q_cell len, kx_a q_cell cyI 160 f, kx_2 q_t q_row q_joined q_from q_to q_size q_lossOf q_lessBy q_value q_number o_9 o_10, kx_a q_from cyI 319 o_11, kx_a q_to cyI 319 o_12, kx_a q_size cyI 319 o_13, kx_a q_lossOf cyI 319 o_14, kx_a q_lessBy cyI 319 o_15, kx_a q_value cyI 1914 o_16, kx_a q_number cyI 1914 o_17, kx_3 h0 a_v a_n o_24 o_25 o_26, kx_a a_v cyI 12 o_27, kx_a a_n cyI 12 o_28]) [0, 1, 2, 7, 8, 9, 10, 11, 3, 12, 13, 14, 15, 16] (by decide) rfl
              have hFc := va_free (wc := [kx_4 m_ q_row q_t t_ h0 k0 w_ z_ slots o_8, kx_0 q_row q_cell len, kx_a q_cell cyI 160 f, kx_2 q_t q_row q_joined q_from q_to q_size q_lossOf q_lessBy q_value q_number o_9 o_10, kx_a q_from cyI 319 o_11, kx_a q_to cyI 319 o_12, kx_a q_size cyI 319 o_13, kx_a q_lossOf cyI 319 o_14, kx_a q_lessBy cyI 319 o_15, kx_a q_value cyI 1914 o_16, kx_a q_number cyI 1914 o_17, kx_3 h0 a_v a_n o_24 o_25 o_26, kx_a a_v cyI 12 o_27, kx_a a_n cyI 12 o_28]) hD hS hA [0, 1, 2, 7, 8, 9, 10, 11, 3, 12, 13, 14, 15, 16] rfl
              refine va_callv (va_runV (As := [.ref q_t, .int p0, .int p1, .int p2, .int p3]) (rest := []) ⟨hx, hb, hml, hown, hts⟩ (c_X4_gatherHeavy_x l dC dI m_ q_row q_t t_ h0 k0 w_ z_ slots o_8 q_joined q_from q_to q_size q_lossOf q_lessBy q_value q_number o_9 o_10 q_cell cyI len f o_11 o_12 o_13 o_14 o_16 o_17 a_v a_n cyI o_24 o_25 o_26 o_27 o_28 o_15 p0 p1 p2 p3 H.size w_7.2.2.2.2.1 w_7.2.2.2.2.2.1 w_7.2.2.1 a1 (by rw [w_7.2.1]; omega) (by rw [w_7.2.1]; omega) w_7.2.2.2.2.2.2 (by rw [w_7.2.1]; exact w_7.2.2.2.1.2.2.2.2.2.2) (by omega) (by omega) (by omega) (by omega) (by omega) (by omega)) (cwV 5 hts gX4_failed_X4_gatherHeavy rfl rfl rfl (by decide +kernel) ⟨Nat.le_of_ble_eq_true rfl, Nat.le_of_ble_eq_true rfl⟩) ⟨fun a U g mk q => by obtain ⟨q0, q1, qP, qK, qD, qn0⟩ := q; exact ⟨q0, q1, qP, va_K.moved (u := U) (U := U.calling g mk a) (Vm.Alike.refl U.vm) qK, qD, va_Nw.same (u := U) (U := U.calling g mk a) rfl rfl qn0⟩, va_recv hKc hPc (ci := 4) (q0 := 0) rfl rfl, fun U hU hW => ⟨rfl, by rw [hU], by rw [hU]; exact hPc, va_K.moved hW.alike hKc, hDc.weaken (fun _ _ _ _ => trivial), va_Nw.warmM hW hN0⟩⟩ rfl rfl hl.1 rfl (lv_room (Nat.le_of_ble_eq_true rfl)) dX4_failed_70 ⟨Nat.le_of_ble_eq_true rfl, Nat.le_of_ble_eq_true rfl⟩) hS (fun q _ h => hFc q h) hFc (fun u t H1 locs ht hvm w_29 hB hz1 hk1 hS => ?_)
              obtain ⟨o_30, o_31, o_32, o_33, o_34, o_35, o_36, o_37⟩ := u
              dsimp only at w_29 hB
              obtain ⟨hP1, hK1, hD1⟩ := hB
              rw [ht] at hP1
              have hK1 := va_K.moved hvm.symm hK1
              obtain ⟨hP, hD⟩ := va_join (wr := [kx_3 q_joined j_v j_n o_18 o_19 o_20, kx_a j_v cyI 12 o_21, kx_a j_n cyI 12 o_22]) (w1 := [kx_4 m_ q_row q_t t_ h0 k0 w_ z_ slots o_8, kx_0 q_row q_cell len, kx_a q_cell cyI 160 f, kx_2 q_t q_row q_joined q_from q_to q_size q_lossOf q_lessBy q_value q_number o_9 o_10, kx_a q_from cyI 319 o_11, kx_a q_to cyI 319 o_12, kx_a q_size cyI 319 o_13, kx_a q_lossOf cyI 319 o_14, kx_a q_lessBy cyI 319 o_15, kx_a q_value cyI 1914 o_16, kx_a q_number cyI 1914 o_17, kx_3 h0 a_v a_n o_30 o_31 o_32, kx_a a_v cyI 12 o_33, kx_a a_n cyI 12 o_34]) hP hD [0, 1, 2, 7, 8, 9, 10, 11, 3, 12, 13, 14, 15, 16] [4, 5, 6] rfl rfl (by decide) (by decide) hk1 hFc hP1 hD1
              clear hP1 hD1 hK1 hk1 hz1 hFc hDc hPc hKc
              generalize H1 = H at hP hS ⊢
              have hP : va_P (dC, dI) vwCl [kx_3 q_joined j_v j_n o_18 o_19 o_20, kx_a j_v cyI 12 o_21, kx_a j_n cyI 12 o_22, kx_4 m_ q_row q_t t_ h0 k0 w_ z_ slots o_8, kx_0 q_row q_cell len, kx_a q_cell cyI 160 f, kx_2 q_t q_row q_joined q_from q_to q_size q_lossOf q_lessBy q_value q_number o_9 o_10, kx_a q_from cyI 319 o_11, kx_a q_to cyI 319 o_12, kx_a q_size cyI 319 o_13, kx_a q_lossOf cyI 319 o_14, kx_a q_lessBy cyI 319 o_15, kx_a q_value cyI 1914 o_16, kx_a q_number cyI 1914 o_17, kx_3 h0 a_v a_n o_30 o_31 o_32, kx_a a_v cyI 12 o_33, kx_a a_n cyI 12 o_34] H := hP
              have hD : va_D A [kx_3 q_joined j_v j_n o_18 o_19 o_20, kx_a j_v cyI 12 o_21, kx_a j_n cyI 12 o_22, kx_4 m_ q_row q_t t_ h0 k0 w_ z_ slots o_8, kx_0 q_row q_cell len, kx_a q_cell cyI 160 f, kx_2 q_t q_row q_joined q_from q_to q_size q_lossOf q_lessBy q_value q_number o_9 o_10, kx_a q_from cyI 319 o_11, kx_a q_to cyI 319 o_12, kx_a q_size cyI 319 o_13, kx_a q_lossOf cyI 319 o_14, kx_a q_lessBy cyI 319 o_15, kx_a q_value cyI 1914 o_16, kx_a q_number cyI 1914 o_17, kx_3 h0 a_v a_n o_30 o_31 o_32, kx_a a_v cyI 12 o_33, kx_a a_n cyI 12 o_34] := hD
              have w_29 : mj_GA o_10.toNatClampNeg o_11 o_12 o_13 o_14 o_16 o_17 p0.toInt p1.toInt (mj_pq o_11 o_12 p0.toInt p1.toInt o_9.toNatClampNeg) o_37 o_31 o_35 o_36 ∧ mj_vs o_33 o_34 0 o_30.toNatClampNeg (mj_hp p2.toInt p3.toInt (p1.toInt - p0.toInt) o_35 (fun v => (cnt f v p0.toNatClampNeg (p1.toInt - p0.toInt).toNat : Int)) o_37.toNatClampNeg) ∧ mj_srt o_33 o_34 0 o_30.toNatClampNeg ∧ o_30.toInt = (mj_hk p2.toInt p3.toInt (p1.toInt - p0.toInt) o_35 (fun v => (cnt f v p0.toNatClampNeg (p1.toInt - p0.toInt).toNat : Int)) o_37.toNatClampNeg : Int) ∧ 0 ≤ o_30.toInt ∧ o_30.toInt ≤ 6 := w_29
              refine lv_iload hx hb dX4_failed_73 (lv_at hl 0 rfl) ?_
              refine lv_aload_n hx hb dX4_failed_75 rfl (lv_at hl 2 rfl) ?_
              refine va_get (D := (dC, dI)) (ci := 4) (v := .ref h0) (C := RX4) (T := TX4) (N := 9) hx hb hts hi_4 hown hK hP 3 rfl rfl 3 (by decide) hf_35 (fun _ h9 => h9) rfl dX4_failed_76 ?_
              refine va_get (D := (dC, dI)) (ci := 3) (v := .int o_30) (C := RX3) (T := TX3) (N := 5) hx hb hts hi_3 hown hK hP 14 rfl rfl 2 (by decide) hf_174 (fun _ h9 => h9) rfl dX4_failed_79 ?_
              refine lv_isub hx hb dX4_failed_82 ?_
              refine lv_topi (fun y_38 ey_38 => ?_)
              have i_38 : y_38.toInt = o_24.toInt - o_30.toInt := ki_sub ey_38 rfl rfl (by omega) (by omega)
              have hP9 := hP.sub (ws' := [kx_4 m_ q_row q_t t_ h0 k0 w_ z_ slots o_8, kx_2 q_t q_row q_joined q_from q_to q_size q_lossOf q_lessBy q_value q_number o_9 o_10, kx_0 q_row q_cell len, kx_a q_cell cyI 160 f, kx_a q_from cyI 319 o_11, kx_a q_to cyI 319 o_12, kx_a q_size cyI 319 o_13, kx_a q_lossOf cyI 319 o_14, kx_a q_lessBy cyI 319 o_15, kx_a q_value cyI 1914 o_16, kx_a q_number cyI 1914 o_17, kx_3 q_joined j_v j_n o_18 o_19 o_20, kx_a j_v cyI 12 o_21, kx_a j_n cyI 12 o_22, kx_3 h0 a_v a_n o_30 o_31 o_32, kx_a a_v cyI 12 o_33, kx_a a_n cyI 12 o_34]) [3, 6, 4, 5, 7, 8, 9, 10, 11, 12, 13, 0, 1, 2, 14, 15, 16] rfl
              have hD9 := hD.sub (ws' := [kx_4 m_ q_row q_t t_ h0 k0 w_ z_ slots o_8, kx_2 q_t q_row q_joined q_from q_to q_size q_lossOf q_lessBy q_value q_number o_9 o_10, kx_0 q_row q_cell len, kx_a q_cell cyI 160 f, kx_a q_from cyI 319 o_11, kx_a q_to cyI 319 o_12, kx_a q_size cyI 319 o_13, kx_a q_lossOf cyI 319 o_14, kx_a q_lessBy cyI 319 o_15, kx_a q_value cyI 1914 o_16, kx_a q_number cyI 1914 o_17, kx_3 q_joined j_v j_n o_18 o_19 o_20, kx_a j_v cyI 12 o_21, kx_a j_n cyI 12 o_22, kx_3 h0 a_v a_n o_30 o_31 o_32, kx_a a_v cyI 12 o_33, kx_a a_n cyI 12 o_34]) [3, 6, 4, 5, 7, 8, 9, 10, 11, 12, 13, 0, 1, 2, 14, 15, 16] (by decide) rfl
              have hK9 := hK
              have h_1 := w_23.1
              rw [w_7.2.1] at h_1
              have h_2 := w_29.1
              rw [w_7.2.1] at h_2
              have h_3 := w_29.2.2.2.1
              exact W.iret (v := y_38) hx hb hr (fun t ht hW => ⟨⟨y_38, (o_8, o_9, o_10, o_11, o_12, o_13, o_14, o_15, o_16, o_17, o_18, o_19, o_20, o_21, o_22, o_30, o_31, o_32, o_33, o_34, o_24, o_25, o_27, o_28, o_35, o_36, o_37), rfl, ⟨Or.inl ⟨(by (try dsimp only); omega), w_7.1, h_1, h_2, (by (try dsimp only); omega)⟩, (fun _ => ⟨w_7.2.1, w_7.2.2.2.1⟩), w_7.2.2.1⟩, by rw [ht]; exact hP9, va_K.moved hW.alike hK9, hD9⟩, hS.F ht⟩) hS.2.2 dX4_failed_83
            · exact absurd c_6 (by decide)
          · have w_5 : p2.toInt * (slots.toInt + 1) < p3.toInt := w_5
            refine lv_if_ne (tgt := 36) hx hb dX4_failed_30 (by decide) (fun c_39 => ?_) (fun c_39 => ?_)
            · exact absurd c_39 (by decide)
            · refine lv_bipush (v := (-2)) hx hb dX4_failed_33 (by decide) ?_
              have hP9 := hP
              have hD9 := hD
              have hK9 := hK
              exact W.iret (v := (-2)) hx hb hr (fun t ht hW => ⟨⟨(-2), (old, nodes, here, ff, ft, fs, fo, fe, uv, un, js, jl, je, jv, jn, vs, lo, le, fv, fn, vs, lo, fv, fn, fv, fn, vs), rfl, ⟨Or.inr (Or.inl ⟨(by (try dsimp only); omega), rfl⟩), l0, s0⟩, by rw [ht]; exact hP9, va_K.moved hW.alike hK9, hD9⟩, hS.F ht⟩) hS.2.2 dX4_failed_35
        · exact absurd c_4 (by decide)
      · have w_3 : (p2.toInt < 1 ∨ p3.toInt < p2.toInt ∨ 999 < p3.toInt) := w_3
        refine lv_if_ne (tgt := 23) hx hb dX4_failed_18 (by decide) (fun c_40 => ?_) (fun c_40 => ?_)
        · exact absurd c_40 (by decide)
        · refine lv_iconst (v := (-1)) hx hb dX4_failed_21 (by decide) ?_
          have hP9 := hP
          have hD9 := hD
          have hK9 := hK
          exact W.iret (v := (-1)) hx hb hr (fun t ht hW => ⟨⟨(-1), (old, nodes, here, ff, ft, fs, fo, fe, uv, un, js, jl, je, jv, jn, vs, lo, le, fv, fn, vs, lo, fv, fn, fv, fn, vs), rfl, ⟨Or.inr (Or.inr ⟨(by (try dsimp only); omega), rfl⟩), l0, s0⟩, by rw [ht]; exact hP9, va_K.moved hW.alike hK9, hD9⟩, hS.F ht⟩) hS.2.2 dX4_failed_22
  · have w_1 : (p0.toInt < 0 ∨ p1.toInt ≤ p0.toInt ∨ len.toInt < p1.toInt) := w_1
    refine lv_if_eq (tgt := 21) hx hb dX4_failed_9 (by decide) (fun c_41 => ?_) (fun c_41 => ?_)
    · refine lv_iconst (v := (-1)) hx hb dX4_failed_21 (by decide) ?_
      have hP9 := hP
      have hD9 := hD
      have hK9 := hK
      exact W.iret (v := (-1)) hx hb hr (fun t ht hW => ⟨⟨(-1), (old, nodes, here, ff, ft, fs, fo, fe, uv, un, js, jl, je, jv, jn, vs, lo, le, fv, fn, vs, lo, fv, fn, fv, fn, vs), rfl, ⟨Or.inr (Or.inr ⟨(by (try dsimp only); omega), rfl⟩), l0, s0⟩, by rw [ht]; exact hP9, va_K.moved hW.alike hK9, hD9⟩, hS.F ht⟩) hS.2.2 dX4_failed_22
    · exact absurd c_41 (by decide)

set_option maxHeartbeats 4000000 in
set_option maxRecDepth 100000 in
theorem c_X5_failed_x (l : Launch) (dC : Nat → ClassId) (dI : Nat → Nat → Nat) (h0 : Nat) (g_row : Nat) (g_many : Nat) (g_loss : Nat) (g_less : Nat) (g_voteValue : Nat) (g_voteNumber : Nat) (g_allValue : Nat) (g_allNumber : Nat) (g_nodeL : Nat) (g_nodeR : Nat) (g_part : Nat) (g_wasMany : Nat) (g_wasLoss : Nat) (g_wasValue : Nat) (g_wasNumber : Nat) (g_path : Nat) (g_heavyValue : Nat) (g_heavyTimes : Nat) (g_fewest : Nat) (g_which : Nat) (g_met : Nat) (m_n : Int32) (m_slots : Int32) (m_thrown : Int32) (m_allMany : Int32) (m_nodes : Int32) (m_partMany : Int32) (m_pathMany : Int32) (m_heavyMany : Int32) (m_mostMet : Int32) (cyI : ClassId) (fm : Nat → Int32) (fl : Nat → Int32) (fe : Nat → Int32) (vv : Nat → Int32) (vn : Nat → Int32) (f : Nat → Int32) (av : Nat → Int32) (an : Nat → Int32) (nl : Nat → Int32) (nr : Nat → Int32) (gp : Nat → Int32) (p0 : Int32) (p1 : Int32) (p2 : Int32) (p3 : Int32) (sz : Nat) (a0 : 0 ≤ m_n.toInt) (a1 : m_n.toInt ≤ 160) (sl0 : 1 ≤ m_slots.toInt) (sl1 : m_slots.toInt ≤ 6) (s4 : six4 fm) (q0 : parts320 gp) : Met l yX5_failed wsX5_failed ({ frames := 13, cells := 0, slots := 0, locals := 585 }) (va_Pc [.ref h0, .int p0, .int p1, .int p2, .int p3] (fun U => U.heap.size = sz ∧ va_P (dC, dI) vwCl [kx_5 h0 g_row m_n m_slots m_thrown g_many g_loss g_less g_voteValue g_voteNumber g_allValue g_allNumber m_allMany g_nodeL g_nodeR m_nodes g_part m_partMany g_wasMany g_wasLoss g_wasValue g_wasNumber g_path m_pathMany g_heavyValue g_heavyTimes m_heavyMany g_fewest g_which g_met m_mostMet, kx_a g_row cyI 160 f, kx_a g_many cyI 324 fm, kx_a g_loss cyI 324 fl, kx_a g_less cyI 324 fe, kx_a g_voteValue cyI 1944 vv, kx_a g_voteNumber cyI 1944 vn, kx_a g_allValue cyI 12 av, kx_a g_allNumber cyI 12 an, kx_a g_nodeL cyI 320 nl, kx_a g_nodeR cyI 320 nr, kx_a g_part cyI 320 gp] U.heap ∧ va_K (dC, dI) vwCl [(cyI, .int)] U ∧ va_D (fun _ => True) [kx_5 h0 g_row m_n m_slots m_thrown g_many g_loss g_less g_voteValue g_voteNumber g_allValue g_allNumber m_allMany g_nodeL g_nodeR m_nodes g_part m_partMany g_wasMany g_wasLoss g_wasValue g_wasNumber g_path m_pathMany g_heavyValue g_heavyTimes m_heavyMany g_fewest g_which g_met m_mostMet, kx_a g_row cyI 160 f, kx_a g_many cyI 324 fm, kx_a g_loss cyI 324 fl, kx_a g_less cyI 324 fe, kx_a g_voteValue cyI 1944 vv, kx_a g_voteNumber cyI 1944 vn, kx_a g_allValue cyI 12 av, kx_a g_allNumber cyI 12 an, kx_a g_nodeL cyI 320 nl, kx_a g_nodeR cyI 320 nr, kx_a g_part cyI 320 gp])) (va_Qi (fun (r : Int32) (u : Int32 × Int32 × (Nat → Int32) × (Nat → Int32) × (Nat → Int32) × (Nat → Int32) × (Nat → Int32) × (Nat → Int32) × (Nat → Int32) × (Nat → Int32) × (Nat → Int32) × Int32 × (Nat → Int32)) => (((0 ≤ p0.toInt ∧ p0.toInt < p1.toInt ∧ p1.toInt ≤ m_n.toInt ∧ 1 ≤ p2.toInt ∧ p2.toInt ≤ p3.toInt ∧ p3.toInt ≤ 999 ∧ p3.toInt ≤ p2.toInt * (m_slots.toInt + 1)) ∧ ((mj_L m_slots.toNatClampNeg f u.2.2.2.2.2.2.2.2.2.1 u.2.2.2.2.2.2.2.2.2.2.1 u.2.2.1 u.2.2.2.1 u.2.2.2.2.1 u.2.2.2.2.2.1 u.2.2.2.2.2.2.1 m_n.toInt u.1.toInt ∧ 0 ≤ u.1.toInt ∧ u.1.toInt ≤ 319) ∧ mj_F m_slots.toNatClampNeg u.2.2.2.2.2.2.2.2.2.1 u.2.2.2.2.2.2.2.2.2.2.1 u.2.2.1 u.2.2.2.1 u.2.2.2.2.2.1 u.2.2.2.2.2.2.1 u.2.2.1 u.2.2.2.1 u.2.2.2.2.2.1 u.2.2.2.2.2.2.1 p0.toInt p1.toInt (mj_pq u.2.2.2.2.2.2.2.2.2.1 u.2.2.2.2.2.2.2.2.2.2.1 p0.toInt p1.toInt u.1.toNatClampNeg)) ∧ r.toInt = (u.2.2.1 320).toInt - (mj_hk p2.toInt p3.toInt (p1.toInt - p0.toInt) (fun k => u.2.2.2.2.2.1 (1920 + k)) (fun v => (cnt f v p0.toNatClampNeg (p1.toInt - p0.toInt).toNat : Int)) (u.2.2.1 320).toNatClampNeg : Int)) ∨ ((0 ≤ p0.toInt ∧ p0.toInt < p1.toInt ∧ p1.toInt ≤ m_n.toInt ∧ 1 ≤ p2.toInt ∧ p2.toInt ≤ p3.toInt ∧ p3.toInt ≤ 999 ∧ p2.toInt * (m_slots.toInt + 1) < p3.toInt) ∧ r = -2) ∨ (((p0.toInt < 0 ∨ p1.toInt ≤ p0.toInt ∨ m_n.toInt < p1.toInt) ∨ p2.toInt < 1 ∨ p3.toInt < p2.toInt ∨ 999 < p3.toInt) ∧ r = -1)) ∧ six4 u.2.2.1 ∧ parts320 u.2.2.2.2.2.2.2.2.2.2.2.2) (fun (u : Int32 × Int32 × (Nat → Int32) × (Nat → Int32) × (Nat → Int32) × (Nat → Int32) × (Nat → Int32) × (Nat → Int32) × (Nat → Int32) × (Nat → Int32) × (Nat → Int32) × Int32 × (Nat → Int32)) (t : State) => va_P (dC, dI) vwCl [kx_5 h0 g_row m_n m_slots 0 g_many g_loss g_less g_voteValue g_voteNumber g_allValue g_allNumber u.2.1 g_nodeL g_nodeR u.1 g_part u.2.2.2.2.2.2.2.2.2.2.2.1 g_wasMany g_wasLoss g_wasValue g_wasNumber g_path m_pathMany g_heavyValue g_heavyTimes m_heavyMany g_fewest g_which g_met m_mostMet, kx_a g_row cyI 160 f, kx_a g_many cyI 324 u.2.2.1, kx_a g_loss cyI 324 u.2.2.2.1, kx_a g_less cyI 324 u.2.2.2.2.1, kx_a g_voteValue cyI 1944 u.2.2.2.2.2.1, kx_a g_voteNumber cyI 1944 u.2.2.2.2.2.2.1, kx_a g_allValue cyI 12 u.2.2.2.2.2.2.2.1, kx_a g_allNumber cyI 12 u.2.2.2.2.2.2.2.2.1, kx_a g_nodeL cyI 320 u.2.2.2.2.2.2.2.2.2.1, kx_a g_nodeR cyI 320 u.2.2.2.2.2.2.2.2.2.2.1, kx_a g_part cyI 320 u.2.2.2.2.2.2.2.2.2.2.2.2] t.heap ∧ va_K (dC, dI) vwCl [(cyI, .int)] t ∧ va_D (va_A [kx_5 h0 g_row m_n m_slots m_thrown g_many g_loss g_less g_voteValue g_voteNumber g_allValue g_allNumber m_allMany g_nodeL g_nodeR m_nodes g_part m_partMany g_wasMany g_wasLoss g_wasValue g_wasNumber g_path m_pathMany g_heavyValue g_heavyTimes m_heavyMany g_fewest g_which g_met m_mostMet, kx_a g_row cyI 160 f, kx_a g_many cyI 324 fm, kx_a g_loss cyI 324 fl, kx_a g_less cyI 324 fe, kx_a g_voteValue cyI 1944 vv, kx_a g_voteNumber cyI 1944 vn, kx_a g_allValue cyI 12 av, kx_a g_allNumber cyI 12 an, kx_a g_nodeL cyI 320 nl, kx_a g_nodeR cyI 320 nr, kx_a g_part cyI 320 gp] sz) [kx_5 h0 g_row m_n m_slots 0 g_many g_loss g_less g_voteValue g_voteNumber g_allValue g_allNumber u.2.1 g_nodeL g_nodeR u.1 g_part u.2.2.2.2.2.2.2.2.2.2.2.1 g_wasMany g_wasLoss g_wasValue g_wasNumber g_path m_pathMany g_heavyValue g_heavyTimes m_heavyMany g_fewest g_which g_met m_mostMet, kx_a g_row cyI 160 f, kx_a g_many cyI 324 u.2.2.1, kx_a g_loss cyI 324 u.2.2.2.1, kx_a g_less cyI 324 u.2.2.2.2.1, kx_a g_voteValue cyI 1944 u.2.2.2.2.2.1, kx_a g_voteNumber cyI 1944 u.2.2.2.2.2.2.1, kx_a g_allValue cyI 12 u.2.2.2.2.2.2.2.1, kx_a g_allNumber cyI 12 u.2.2.2.2.2.2.2.2.1, kx_a g_nodeL cyI 320 u.2.2.2.2.2.2.2.2.2.1, kx_a g_nodeR cyI 320 u.2.2.2.2.2.2.2.2.2.2.1, kx_a g_part cyI 320 u.2.2.2.2.2.2.2.2.2.2.2.2]) (va_A [kx_5 h0 g_row m_n m_slots m_thrown g_many g_loss g_less g_voteValue g_voteNumber g_allValue g_allNumber m_allMany g_nodeL g_nodeR m_nodes g_part m_partMany g_wasMany g_wasLoss g_wasValue g_wasNumber g_path m_pathMany g_heavyValue g_heavyTimes m_heavyMany g_fewest g_which g_met m_mostMet, kx_a g_row cyI 160 f, kx_a g_many cyI 324 fm, kx_a g_loss cyI 324 fl, kx_a g_less cyI 324 fe, kx_a g_voteValue cyI 1944 vv, kx_a g_voteNumber cyI 1944 vn, kx_a g_allValue cyI 12 av, kx_a g_allNumber cyI 12 an, kx_a g_nodeL cyI 320 nl, kx_a g_nodeR cyI 320 nr, kx_a g_part cyI 320 gp] sz)) 0 0 (va_A [kx_5 h0 g_row m_n m_slots m_thrown g_many g_loss g_less g_voteValue g_voteNumber g_allValue g_allNumber m_allMany g_nodeL g_nodeR m_nodes g_part m_partMany g_wasMany g_wasLoss g_wasValue g_wasNumber g_path m_pathMany g_heavyValue g_heavyTimes m_heavyMany g_fewest g_which g_met m_mostMet, kx_a g_row cyI 160 f, kx_a g_many cyI 324 fm, kx_a g_loss cyI 324 fl, kx_a g_less cyI 324 fe, kx_a g_voteValue cyI 1944 vv, kx_a g_voteNumber cyI 1944 vn, kx_a g_allValue cyI 12 av, kx_a g_allNumber cyI 12 an, kx_a g_nodeL cyI 320 nl, kx_a g_nodeR cyI 320 nr, kx_a g_part cyI 320 gp] sz) := by
  refine Met.ofW (cc := cX5_failed) (maxL := 7) (ret := (some .int)) (by decide) rfl ?_
  intro p e s m args below meth c s₁ B hml hv
  obtain ⟨rfl, hsz, hP, hK, hD0⟩ := hv
  have hx := B.exec
  have hb := B.bytes
  have hr := B.returns
  have hts := atoms_spec (ws := wsX5_failed) B.pre
  have hown : s.vm.findClass RX5 = some m.cls := findClass_of_methodNamed B.named
  have hlocks := B.notSynchronized
  subst hsz
  have hD := hD0.self (sz := s.heap.size)
  generalize hAe : va_A [kx_5 h0 g_row m_n m_slots m_thrown g_many g_loss g_less g_voteValue g_voteNumber g_allValue g_allNumber m_allMany g_nodeL g_nodeR m_nodes g_part m_partMany g_wasMany g_wasLoss g_wasValue g_wasNumber g_path m_pathMany g_heavyValue g_heavyTimes m_heavyMany g_fewest g_which g_met m_mostMet, kx_a g_row cyI 160 f, kx_a g_many cyI 324 fm, kx_a g_loss cyI 324 fl, kx_a g_less cyI 324 fe, kx_a g_voteValue cyI 1944 vv, kx_a g_voteNumber cyI 1944 vn, kx_a g_allValue cyI 12 av, kx_a g_allNumber cyI 12 an, kx_a g_nodeL cyI 320 nl, kx_a g_nodeR cyI 320 nr, kx_a g_part cyI 320 gp] s.heap.size = A at hD ⊢
  have hA : ∀ q : Nat, s.heap.size ≤ q → A q := fun q h => by rw [← hAe]; exact Or.inr h
  have hS : va_S A s.heap s.heap [] := va_S.rf
  have hP : va_P (dC, dI) vwCl [kx_5 h0 g_row m_n m_slots m_thrown g_many g_loss g_less g_voteValue g_voteNumber g_allValue g_allNumber m_allMany g_nodeL g_nodeR m_nodes g_part m_partMany g_wasMany g_wasLoss g_wasValue g_wasNumber g_path m_pathMany g_heavyValue g_heavyTimes m_heavyMany g_fewest g_which g_met m_mostMet, kx_a g_row cyI 160 f, kx_a g_many cyI 324 fm, kx_a g_loss cyI 324 fl, kx_a g_less cyI 324 fe, kx_a g_voteValue cyI 1944 vv, kx_a g_voteNumber cyI 1944 vn, kx_a g_allValue cyI 12 av, kx_a g_allNumber cyI 12 an, kx_a g_nodeL cyI 320 nl, kx_a g_nodeR cyI 320 nr, kx_a g_part cyI 320 gp] s.heap := hP
  have hl := lv_entry ([.ref h0, .int p0, .int p1, .int p2, .int p3]) (n := 7) (Nat.le_of_ble_eq_true rfl)
  rw [lg_entry_eq]
  generalize (lg_sl ([.ref h0, .int p0, .int p1, .int p2, .int p3]) ++ List.replicate (7 - (lg_sl ([.ref h0, .int p0, .int p1, .int p2, .int p3])).length) Slot.unset).toArray = ls at hl ⊢
  have hl : lv_has ls 7 [(0, .ref h0), (1, .int p0), (2, .int p1), (3, .int p2), (4, .int p3)] := hl
  have hf_77 := hts (.fieldLink RX5 77 "MajorityIndexModel" "thrown" "I") (List.mem_of_getElem? (i := 1) rfl)
  have hi_5 : ∀ w ∈ u_ws RX5 TX5 30, w ∈ wsX5_failed := fun w h => List.mem_cons_of_mem _ (List.mem_append_right _ h)
  have hf_17 := hts (.fieldLink RX5 17 "MajorityIndexModel" "many" "[I") (List.mem_of_getElem? (i := 2) rfl)
  have hf_26 := hts (.fieldLink RX5 26 "MajorityIndexModel" "voteValue" "[I") (List.mem_of_getElem? (i := 3) rfl)
  refine lv_aload_n hx hb dX5_failed_0 rfl (lv_at hl 0 rfl) ?_
  refine lv_iconst (v := 0) hx hb dX5_failed_1 (by decide) ?_
  refine va_put (D := (dC, dI)) (ci := 5) (v := .int 0) (ty := .int) (C := RX5) (T := TX5) (N := 30) hx hb hts hi_5 tyX5 tyX5_ok nmX5 hown hK hP hD hS 0 rfl rfl 3 (by decide) hf_77 (fun _ h9 => h9) rfl (by decide +kernel) rfl rfl (Nat.le_of_ble_eq_true rfl) dX5_failed_2 (fun H locs hP hD hS => ?_)
  have hP : va_P (dC, dI) vwCl [kx_5 h0 g_row m_n m_slots 0 g_many g_loss g_less g_voteValue g_voteNumber g_allValue g_allNumber m_allMany g_nodeL g_nodeR m_nodes g_part m_partMany g_wasMany g_wasLoss g_wasValue g_wasNumber g_path m_pathMany g_heavyValue g_heavyTimes m_heavyMany g_fewest g_which g_met m_mostMet, kx_a g_row cyI 160 f, kx_a g_many cyI 324 fm, kx_a g_loss cyI 324 fl, kx_a g_less cyI 324 fe, kx_a g_voteValue cyI 1944 vv, kx_a g_voteNumber cyI 1944 vn, kx_a g_allValue cyI 12 av, kx_a g_allNumber cyI 12 an, kx_a g_nodeL cyI 320 nl, kx_a g_nodeR cyI 320 nr, kx_a g_part cyI 320 gp] H := hP
  have hD : va_D A [kx_5 h0 g_row m_n m_slots 0 g_many g_loss g_less g_voteValue g_voteNumber g_allValue g_allNumber m_allMany g_nodeL g_nodeR m_nodes g_part m_partMany g_wasMany g_wasLoss g_wasValue g_wasNumber g_path m_pathMany g_heavyValue g_heavyTimes m_heavyMany g_fewest g_which g_met m_mostMet, kx_a g_row cyI 160 f, kx_a g_many cyI 324 fm, kx_a g_loss cyI 324 fl, kx_a g_less cyI 324 fe, kx_a g_voteValue cyI 1944 vv, kx_a g_voteNumber cyI 1944 vn, kx_a g_allValue cyI 12 av, kx_a g_allNumber cyI 12 an, kx_a g_nodeL cyI 320 nl, kx_a g_nodeR cyI 320 nr, kx_a g_part cyI 320 gp] := hD
  refine lv_aload_n hx hb dX5_failed_5 rfl (lv_at hl 0 rfl) ?_
  refine lv_iload_n hx hb dX5_failed_6 rfl (lv_at hl 1 rfl) ?_
  refine lv_iload_n hx hb dX5_failed_7 rfl (lv_at hl 2 rfl) ?_
  have hPc := hP.sub (ws' := [kx_5 h0 g_row m_n m_slots 0 g_many g_loss g_less g_voteValue g_voteNumber g_allValue g_allNumber m_allMany g_nodeL g_nodeR m_nodes g_part m_partMany g_wasMany g_wasLoss g_wasValue g_wasNumber g_path m_pathMany g_heavyValue g_heavyTimes m_heavyMany g_fewest g_which g_met m_mostMet]) [0] rfl
  have hKc := hK.sub (tys' := []) [] rfl
  refine vp_callSi (W.runV (As := [.int p0, .int p1]) (rest := []) ⟨hx, hb, hml, hown, hts⟩ (c_X5_isRange l dC dI h0 g_row g_many g_loss g_less g_voteValue g_voteNumber g_allValue g_allNumber g_nodeL g_nodeR g_part g_wasMany g_wasLoss g_wasValue g_wasNumber g_path g_heavyValue g_heavyTimes g_fewest g_which g_met m_n m_slots 0 m_allMany m_nodes m_partMany m_pathMany m_heavyMany m_mostMet p0 p1) (cwV 2 hts gX5_failed_X5_isRange rfl rfl rfl (by decide +kernel) ⟨Nat.le_of_ble_eq_true rfl, Nat.le_of_ble_eq_true rfl⟩) ⟨fun a U g mk q => by obtain ⟨q0, qP, qK⟩ := q; exact ⟨q0, qP, va_K.moved (u := U) (U := U.calling g mk a) (Vm.Alike.refl U.vm) qK⟩, va_recv hKc hPc (ci := 5) (q0 := 0) rfl rfl, fun U hU hW => ⟨rfl, by rw [hU]; exact hPc, va_K.moved hW.alike hKc⟩⟩ rfl rfl hl.1 rfl (lv_room (Nat.le_of_ble_eq_true rfl)) dX5_failed_8 ⟨Nat.le_of_ble_eq_true rfl, Nat.le_of_ble_eq_true rfl⟩) (fun r_1 w_1 => ?_)
  rcases w_1 with ⟨rfl, w_1⟩ | ⟨rfl, w_1⟩
  · have w_1 : (0 ≤ p0.toInt ∧ p0.toInt < p1.toInt ∧ p1.toInt ≤ m_n.toInt) := w_1
    refine lv_if_eq (tgt := 23) hx hb dX5_failed_11 (by decide) (fun c_2 => ?_) (fun c_2 => ?_)
    · exact absurd c_2 (by decide)
    · refine lv_iload_n hx hb dX5_failed_14 rfl (lv_at hl 3 rfl) ?_
      refine lv_iload hx hb dX5_failed_15 (lv_at hl 4 rfl) ?_
      have hPc := hP.sub (ws' := []) [] rfl
      have hKc := hK.sub (tys' := []) [] rfl
      refine vp_callSi (W.runS (As := [.int p2, .int p3]) (rest := []) ⟨hx, hb, hml, hown, hts⟩ (c_X5_isShare l dC dI p2 p3) (va_cwS 2 hts gX5_failed_X5_isShare rfl rfl rfl (by decide +kernel) ⟨Nat.le_of_ble_eq_true rfl, Nat.le_of_ble_eq_true rfl⟩) ⟨fun a U g mk q => by obtain ⟨q0, qP, qK⟩ := q; exact ⟨q0, qP, va_K.moved (u := U) (U := U.calling g mk a) (Vm.Alike.refl U.vm) qK⟩, fun U hU hW => ⟨rfl, by rw [hU]; exact hPc, va_K.moved hW.alike hKc⟩⟩ rfl rfl hl.1 rfl (lv_room (Nat.le_of_ble_eq_true rfl)) dX5_failed_17 ⟨Nat.le_of_ble_eq_true rfl, Nat.le_of_ble_eq_true rfl⟩) (fun r_3 w_3 => ?_)
      rcases w_3 with ⟨rfl, w_3⟩ | ⟨rfl, w_3⟩
      · have w_3 : (1 ≤ p2.toInt ∧ p2.toInt ≤ p3.toInt ∧ p3.toInt ≤ 999) := w_3
        refine lv_if_ne (tgt := 25) hx hb dX5_failed_20 (by decide) (fun c_4 => ?_) (fun c_4 => ?_)
        · refine lv_aload_n hx hb dX5_failed_25 rfl (lv_at hl 0 rfl) ?_
          refine lv_iload_n hx hb dX5_failed_26 rfl (lv_at hl 3 rfl) ?_
          refine lv_iload hx hb dX5_failed_27 (lv_at hl 4 rfl) ?_
          have hPc := hP.sub (ws' := [kx_5 h0 g_row m_n m_slots 0 g_many g_loss g_less g_voteValue g_voteNumber g_allValue g_allNumber m_allMany g_nodeL g_nodeR m_nodes g_part m_partMany g_wasMany g_wasLoss g_wasValue g_wasNumber g_path m_pathMany g_heavyValue g_heavyTimes m_heavyMany g_fewest g_which g_met m_mostMet]) [0] rfl
          have hKc := hK.sub (tys' := []) [] rfl
          refine vp_callSi (W.runV (As := [.int p2, .int p3]) (rest := []) ⟨hx, hb, hml, hown, hts⟩ (c_X5_isEnough_x l dC dI h0 g_row g_many g_loss g_less g_voteValue g_voteNumber g_allValue g_allNumber g_nodeL g_nodeR g_part g_wasMany g_wasLoss g_wasValue g_wasNumber g_path g_heavyValue g_heavyTimes g_fewest g_which g_met m_n m_slots 0 m_allMany m_nodes m_partMany m_pathMany m_heavyMany m_mostMet p2 p3 sl0 sl1 (by omega) (by omega)) (cwV 2 hts gX5_failed_X5_isEnough rfl rfl rfl (by decide +kernel) ⟨Nat.le_of_ble_eq_true rfl, Nat.le_of_ble_eq_true rfl⟩) ⟨fun a U g mk q => by obtain ⟨q0, qP, qK⟩ := q; exact ⟨q0, qP, va_K.moved (u := U) (U := U.calling g mk a) (Vm.Alike.refl U.vm) qK⟩, va_recv hKc hPc (ci := 5) (q0 := 0) rfl rfl, fun U hU hW => ⟨rfl, by rw [hU]; exact hPc, va_K.moved hW.alike hKc⟩⟩ rfl rfl hl.1 rfl (lv_room (Nat.le_of_ble_eq_true rfl)) dX5_failed_29 ⟨Nat.le_of_ble_eq_true rfl, Nat.le_of_ble_eq_true rfl⟩) (fun r_5 w_5 => ?_)
          rcases w_5 with ⟨rfl, w_5⟩ | ⟨rfl, w_5⟩
          · have w_5 : p3.toInt ≤ p2.toInt * (m_slots.toInt + 1) := w_5
            refine lv_if_ne (tgt := 38) hx hb dX5_failed_32 (by decide) (fun c_6 => ?_) (fun c_6 => ?_)
            · refine lv_aload_n hx hb dX5_failed_38 rfl (lv_at hl 0 rfl) ?_
              refine lv_iload_n hx hb dX5_failed_39 rfl (lv_at hl 1 rfl) ?_
              refine lv_iload_n hx hb dX5_failed_40 rfl (lv_at hl 2 rfl) ?_
              have hPc := hP
              have hKc := hK
              have hDc := hD
              have hFc := kx_free hD hS hA
              refine va_callv (va_runV (As := [.int p0, .int p1]) (rest := []) ⟨hx, hb, hml, hown, hts⟩ (c_X5_sums l dC dI h0 g_row g_many g_loss g_less g_voteValue g_voteNumber g_allValue g_allNumber g_nodeL g_nodeR g_part g_wasMany g_wasLoss g_wasValue g_wasNumber g_path g_heavyValue g_heavyTimes g_fewest g_which g_met m_n m_slots 0 m_allMany m_nodes m_partMany m_pathMany m_heavyMany m_mostMet cyI fm fl fe vv vn f av an nl nr gp p0 p1 H.size a0 a1 sl0 sl1 s4 q0 (by omega) (by omega) (by omega)) (cwV 2 hts gX5_failed_X5_sums rfl rfl rfl (by decide +kernel) ⟨Nat.le_of_ble_eq_true rfl, Nat.le_of_ble_eq_true rfl⟩) ⟨fun a U g mk q => by obtain ⟨q0, q1, qP, qK, qD⟩ := q; exact ⟨q0, q1, qP, va_K.moved (u := U) (U := U.calling g mk a) (Vm.Alike.refl U.vm) qK, qD⟩, va_recv hKc hPc (ci := 5) (q0 := 0) rfl rfl, fun U hU hW => ⟨rfl, by rw [hU], by rw [hU]; exact hPc, va_K.moved hW.alike hKc, hDc.weaken (fun _ _ _ _ => trivial)⟩⟩ rfl rfl hl.1 rfl (lv_room (Nat.le_of_ble_eq_true rfl)) dX5_failed_41 ⟨Nat.le_of_ble_eq_true rfl, Nat.le_of_ble_eq_true rfl⟩) hS (fun q _ h => hFc q h) hFc (fun u t H1 locs ht hvm w_7 hB hz1 hk1 hS => ?_)
              obtain ⟨o_8, o_9, o_10, o_11, o_12, o_13, o_14, o_15, o_16, o_17, o_18, o_19, o_20⟩ := u
              dsimp only at w_7 hB
              obtain ⟨hP1, hK1, hD1⟩ := hB
              rw [ht] at hP1
              have hK1 := va_K.moved hvm.symm hK1
              have hD := hD1.weaken (fun _ q _ h => hFc q.1 h)
              have hP := hP1
              clear hP1 hD1 hK1 hk1 hz1 hFc hDc hPc hKc
              generalize H1 = H at hP hS ⊢
              have w_7 : six4 o_10 ∧ parts320 o_20 ∧ mj_L m_slots.toNatClampNeg f o_17 o_18 o_10 o_11 o_12 o_13 o_14 m_n.toInt o_8.toInt ∧ 0 ≤ o_8.toInt ∧ o_8.toInt ≤ 319 ∧ mj_F m_slots.toNatClampNeg o_17 o_18 o_10 o_11 o_13 o_14 o_10 o_11 o_13 o_14 p0.toInt p1.toInt (mj_pq o_17 o_18 p0.toInt p1.toInt o_8.toNatClampNeg) := w_7
              refine lv_iconst (v := 0) hx hb dX5_failed_44 (by decide) ?_
              refine lv_istore (lv' := [(5, .int 0), (0, .ref h0), (1, .int p0), (2, .int p1), (3, .int p2), (4, .int p3)]) hx hb dX5_failed_45 hl (by decide) rfl (fun ls hl => ?_)
              refine lv_iconst (v := 0) hx hb dX5_failed_47 (by decide) ?_
              refine lv_istore (lv' := [(6, .int 0), (5, .int 0), (0, .ref h0), (1, .int p0), (2, .int p1), (3, .int p2), (4, .int p3)]) hx hb dX5_failed_48 hl (by decide) rfl (fun ls hl => ?_)
              have q_6 := w_7.1 320 (by omega)
              have LP1 : ∀ (n : Nat) (i : Int32) (sm : Int32), (0 ≤ i.toInt) → (i.toInt ≤ (o_10 320).toInt) → (sm.toInt = i.toInt - (mj_hk p2.toInt p3.toInt (p1.toInt - p0.toInt) (fun k => o_13 (1920 + k)) (fun v => (cnt f v p0.toNatClampNeg (p1.toInt - p0.toInt).toNat : Int)) i.toNatClampNeg : Int)) → (6 - i.toInt).toNat < n → ∀ (H : Heap) (locs : List Loc), va_P (dC, dI) vwCl [kx_5 h0 g_row m_n m_slots 0 g_many g_loss g_less g_voteValue g_voteNumber g_allValue g_allNumber o_9 g_nodeL g_nodeR o_8 g_part o_19 g_wasMany g_wasLoss g_wasValue g_wasNumber g_path m_pathMany g_heavyValue g_heavyTimes m_heavyMany g_fewest g_which g_met m_mostMet, kx_a g_row cyI 160 f, kx_a g_many cyI 324 o_10, kx_a g_loss cyI 324 o_11, kx_a g_less cyI 324 o_12, kx_a g_voteValue cyI 1944 o_13, kx_a g_voteNumber cyI 1944 o_14, kx_a g_allValue cyI 12 o_15, kx_a g_allNumber cyI 12 o_16, kx_a g_nodeL cyI 320 o_17, kx_a g_nodeR cyI 320 o_18, kx_a g_part cyI 320 o_20] H → va_D A [kx_5 h0 g_row m_n m_slots 0 g_many g_loss g_less g_voteValue g_voteNumber g_allValue g_allNumber o_9 g_nodeL g_nodeR o_8 g_part o_19 g_wasMany g_wasLoss g_wasValue g_wasNumber g_path m_pathMany g_heavyValue g_heavyTimes m_heavyMany g_fewest g_which g_met m_mostMet, kx_a g_row cyI 160 f, kx_a g_many cyI 324 o_10, kx_a g_loss cyI 324 o_11, kx_a g_less cyI 324 o_12, kx_a g_voteValue cyI 1944 o_13, kx_a g_voteNumber cyI 1944 o_14, kx_a g_allValue cyI 12 o_15, kx_a g_allNumber cyI 12 o_16, kx_a g_nodeL cyI 320 o_17, kx_a g_nodeR cyI 320 o_18, kx_a g_part cyI 320 o_20] → va_S A s.heap H locs → ∀ (ls : Array Slot), lv_has ls 7 [(6, .int i), (5, .int sm), (0, .ref h0), (1, .int p0), (2, .int p1), (3, .int p2), (4, .int p3)] → W p l e (headSpec wsX5_failed ({ frames := 13, cells := 0, slots := 0, locals := 585 })).room s m ([.ref h0, .int p0, .int p1, .int p2, .int p3] : List Value).toArray below meth c H locs 0 0 (MQ below (va_Qi (fun (r : Int32) (u : Int32 × Int32 × (Nat → Int32) × (Nat → Int32) × (Nat → Int32) × (Nat → Int32) × (Nat → Int32) × (Nat → Int32) × (Nat → Int32) × (Nat → Int32) × (Nat → Int32) × Int32 × (Nat → Int32)) => (((0 ≤ p0.toInt ∧ p0.toInt < p1.toInt ∧ p1.toInt ≤ m_n.toInt ∧ 1 ≤ p2.toInt ∧ p2.toInt ≤ p3.toInt ∧ p3.toInt ≤ 999 ∧ p3.toInt ≤ p2.toInt * (m_slots.toInt + 1)) ∧ ((mj_L m_slots.toNatClampNeg f u.2.2.2.2.2.2.2.2.2.1 u.2.2.2.2.2.2.2.2.2.2.1 u.2.2.1 u.2.2.2.1 u.2.2.2.2.1 u.2.2.2.2.2.1 u.2.2.2.2.2.2.1 m_n.toInt u.1.toInt ∧ 0 ≤ u.1.toInt ∧ u.1.toInt ≤ 319) ∧ mj_F m_slots.toNatClampNeg u.2.2.2.2.2.2.2.2.2.1 u.2.2.2.2.2.2.2.2.2.2.1 u.2.2.1 u.2.2.2.1 u.2.2.2.2.2.1 u.2.2.2.2.2.2.1 u.2.2.1 u.2.2.2.1 u.2.2.2.2.2.1 u.2.2.2.2.2.2.1 p0.toInt p1.toInt (mj_pq u.2.2.2.2.2.2.2.2.2.1 u.2.2.2.2.2.2.2.2.2.2.1 p0.toInt p1.toInt u.1.toNatClampNeg)) ∧ r.toInt = (u.2.2.1 320).toInt - (mj_hk p2.toInt p3.toInt (p1.toInt - p0.toInt) (fun k => u.2.2.2.2.2.1 (1920 + k)) (fun v => (cnt f v p0.toNatClampNeg (p1.toInt - p0.toInt).toNat : Int)) (u.2.2.1 320).toNatClampNeg : Int)) ∨ ((0 ≤ p0.toInt ∧ p0.toInt < p1.toInt ∧ p1.toInt ≤ m_n.toInt ∧ 1 ≤ p2.toInt ∧ p2.toInt ≤ p3.toInt ∧ p3.toInt ≤ 999 ∧ p2.toInt * (m_slots.toInt + 1) < p3.toInt) ∧ r = -2) ∨ (((p0.toInt < 0 ∨ p1.toInt ≤ p0.toInt ∨ m_n.toInt < p1.toInt) ∨ p2.toInt < 1 ∨ p3.toInt < p2.toInt ∨ 999 < p3.toInt) ∧ r = -1)) ∧ six4 u.2.2.1 ∧ parts320 u.2.2.2.2.2.2.2.2.2.2.2.2) (fun (u : Int32 × Int32 × (Nat → Int32) × (Nat → Int32) × (Nat → Int32) × (Nat → Int32) × (Nat → Int32) × (Nat → Int32) × (Nat → Int32) × (Nat → Int32) × (Nat → Int32) × Int32 × (Nat → Int32)) (t : State) => va_P (dC, dI) vwCl [kx_5 h0 g_row m_n m_slots 0 g_many g_loss g_less g_voteValue g_voteNumber g_allValue g_allNumber u.2.1 g_nodeL g_nodeR u.1 g_part u.2.2.2.2.2.2.2.2.2.2.2.1 g_wasMany g_wasLoss g_wasValue g_wasNumber g_path m_pathMany g_heavyValue g_heavyTimes m_heavyMany g_fewest g_which g_met m_mostMet, kx_a g_row cyI 160 f, kx_a g_many cyI 324 u.2.2.1, kx_a g_loss cyI 324 u.2.2.2.1, kx_a g_less cyI 324 u.2.2.2.2.1, kx_a g_voteValue cyI 1944 u.2.2.2.2.2.1, kx_a g_voteNumber cyI 1944 u.2.2.2.2.2.2.1, kx_a g_allValue cyI 12 u.2.2.2.2.2.2.2.1, kx_a g_allNumber cyI 12 u.2.2.2.2.2.2.2.2.1, kx_a g_nodeL cyI 320 u.2.2.2.2.2.2.2.2.2.1, kx_a g_nodeR cyI 320 u.2.2.2.2.2.2.2.2.2.2.1, kx_a g_part cyI 320 u.2.2.2.2.2.2.2.2.2.2.2.2] t.heap ∧ va_K (dC, dI) vwCl [(cyI, .int)] t ∧ va_D A [kx_5 h0 g_row m_n m_slots 0 g_many g_loss g_less g_voteValue g_voteNumber g_allValue g_allNumber u.2.1 g_nodeL g_nodeR u.1 g_part u.2.2.2.2.2.2.2.2.2.2.2.1 g_wasMany g_wasLoss g_wasValue g_wasNumber g_path m_pathMany g_heavyValue g_heavyTimes m_heavyMany g_fewest g_which g_met m_mostMet, kx_a g_row cyI 160 f, kx_a g_many cyI 324 u.2.2.1, kx_a g_loss cyI 324 u.2.2.2.1, kx_a g_less cyI 324 u.2.2.2.2.1, kx_a g_voteValue cyI 1944 u.2.2.2.2.2.1, kx_a g_voteNumber cyI 1944 u.2.2.2.2.2.2.1, kx_a g_allValue cyI 12 u.2.2.2.2.2.2.2.1, kx_a g_allNumber cyI 12 u.2.2.2.2.2.2.2.2.1, kx_a g_nodeL cyI 320 u.2.2.2.2.2.2.2.2.2.1, kx_a g_nodeR cyI 320 u.2.2.2.2.2.2.2.2.2.2.1, kx_a g_part cyI 320 u.2.2.2.2.2.2.2.2.2.2.2.2]) A) ([.ref h0, .int p0, .int p1, .int p2, .int p3] : List Value).toArray s 0 0 A) (F0 m 50 ls []) := by
                intro n
                induction n with
                | zero => intro i sm LP1_h0 LP1_h1 LP1_h2 hn; exact absurd hn (Nat.not_lt_zero _)
                | succ n ih1 =>
                  intro i sm LP1_h0 LP1_h1 LP1_h2 hn1 H locs hP hD hS ls hl
                  have n_i := ki_nat i rfl (by omega)
                  have hle := mj_hk_le p2.toInt p3.toInt (p1.toInt - p0.toInt) (fun k => o_13 (1920 + k)) (fun v => (cnt f v p0.toNatClampNeg (p1.toInt - p0.toInt).toNat : Int)) i.toNatClampNeg
                  refine lv_iload hx hb dX5_failed_50 (lv_at hl 0 rfl) ?_
                  refine lv_aload_n hx hb dX5_failed_52 rfl (lv_at hl 2 rfl) ?_
                  refine va_get (D := (dC, dI)) (ci := 5) (v := .ref g_many) (C := RX5) (T := TX5) (N := 30) hx hb hts hi_5 hown hK hP 0 rfl rfl 4 (by decide) hf_17 (fun _ h9 => h9) rfl dX5_failed_53 ?_
                  refine lv_sipush (v := 320) hx hb dX5_failed_56 (by decide) ?_
                  refine va_iald hx hb hK hP 2 0 rfl rfl (ki_inl (by decide)) dX5_failed_59 ?_
                  refine lv_topi (fun y_21 ey_21 => ?_)
                  have j_21 : y_21.toInt = (o_10 (320 : Int32).toNatClampNeg).toInt := congrArg Int32.toInt ey_21
                  have n_22 : ((320 : Int32).toNatClampNeg : Int) = 320 := ki_nat _ rfl (by omega)
                  have i_23 := w_7.1 (320 : Int32).toNatClampNeg (by omega)
                  have q_m : y_21.toInt = (o_10 320).toInt := congrArg Int32.toInt ey_21
                  refine lv_icmp_ge (tgt := 100) hx hb dX5_failed_60 (by decide) (fun c_24 => ?_) (fun c_24 => ?_)
                  · have i_24 : y_21.toInt ≤ i.toInt := kc_le c_24
                    refine lv_iload hx hb dX5_failed_100 (lv_at hl 1 rfl) ?_
                    have hP9 := hP
                    have hD9 := hD
                    have hK9 := hK
                    have n_fm := ki_nat (o_10 320) rfl (by omega)
                    exact W.iret (v := sm) hx hb hr (fun t ht hW => ⟨⟨sm, (o_8, o_9, o_10, o_11, o_12, o_13, o_14, o_15, o_16, o_17, o_18, o_19, o_20), rfl, ⟨Or.inl ⟨(by (try dsimp only); omega), ⟨⟨w_7.2.2.1, (by (try dsimp only); omega), (by (try dsimp only); omega)⟩, w_7.2.2.2.2.2⟩, (by (try dsimp only); rw [show (o_10 320).toNatClampNeg = i.toNatClampNeg by omega]; omega)⟩, w_7.1, w_7.2.1⟩, by rw [ht]; exact hP9, va_K.moved hW.alike hK9, hD9⟩, hS.F ht⟩) hS.2.2 dX5_failed_102
                  · have i_24 : i.toInt < y_21.toInt := kc_nle c_24
                    refine lv_aload_n hx hb dX5_failed_63 rfl (lv_at hl 2 rfl) ?_
                    refine lv_aload_n hx hb dX5_failed_64 rfl (lv_at hl 2 rfl) ?_
                    refine va_get (D := (dC, dI)) (ci := 5) (v := .ref g_voteValue) (C := RX5) (T := TX5) (N := 30) hx hb hts hi_5 hown hK hP 0 rfl rfl 7 (by decide) hf_26 (fun _ h9 => h9) rfl dX5_failed_65 ?_
                    refine lv_sipush (v := 1920) hx hb dX5_failed_68 (by decide) ?_
                    refine lv_iload hx hb dX5_failed_71 (lv_at hl 0 rfl) ?_
                    refine lv_iadd hx hb dX5_failed_73 ?_
                    refine lv_topi (fun y_25 ey_25 => ?_)
                    have i_25 : y_25.toInt = 1920 + i.toInt := ki_add ey_25 rfl rfl (by omega) (by omega)
                    refine va_iald hx hb hK hP 5 0 rfl rfl (ki_in (by omega) (by omega)) dX5_failed_74 ?_
                    refine lv_topi (fun y_26 ey_26 => ?_)
                    have j_26 : y_26.toInt = (o_13 y_25.toNatClampNeg).toInt := congrArg Int32.toInt ey_26
                    refine lv_iload_n hx hb dX5_failed_75 rfl (lv_at hl 3 rfl) ?_
                    refine lv_iload_n hx hb dX5_failed_76 rfl (lv_at hl 4 rfl) ?_
                    have hPc := hP.sub (ws' := [kx_5 h0 g_row m_n m_slots 0 g_many g_loss g_less g_voteValue g_voteNumber g_allValue g_allNumber o_9 g_nodeL g_nodeR o_8 g_part o_19 g_wasMany g_wasLoss g_wasValue g_wasNumber g_path m_pathMany g_heavyValue g_heavyTimes m_heavyMany g_fewest g_which g_met m_mostMet, kx_a g_row cyI 160 f]) [0, 1] rfl
                    have hKc := hK
                    refine vp_callSi (W.runV (As := [.int y_26, .int p0, .int p1]) (rest := []) ⟨hx, hb, hml, hown, hts⟩ (c_X5_times l dC dI h0 g_row g_many g_loss g_less g_voteValue g_voteNumber g_allValue g_allNumber g_nodeL g_nodeR g_part g_wasMany g_wasLoss g_wasValue g_wasNumber g_path g_heavyValue g_heavyTimes g_fewest g_which g_met m_n m_slots 0 o_9 o_8 o_19 m_pathMany m_heavyMany m_mostMet cyI f y_26 p0 p1 (by omega) (by omega)) (cwV 3 hts gX5_failed_X5_times rfl rfl rfl (by decide +kernel) ⟨Nat.le_of_ble_eq_true rfl, Nat.le_of_ble_eq_true rfl⟩) ⟨fun a U g mk q => by obtain ⟨q0, qP, qK⟩ := q; exact ⟨q0, qP, va_K.moved (u := U) (U := U.calling g mk a) (Vm.Alike.refl U.vm) qK⟩, va_recv hKc hPc (ci := 5) (q0 := 0) rfl rfl, fun U hU hW => ⟨rfl, by rw [hU]; exact hPc, va_K.moved hW.alike hKc⟩⟩ rfl rfl hl.1 rfl (lv_room (Nat.le_of_ble_eq_true rfl)) dX5_failed_77 ⟨Nat.le_of_ble_eq_true rfl, Nat.le_of_ble_eq_true rfl⟩) (fun r_27 w_27 => ?_)
                    have w_27 : r_27.toInt = (cnt f y_26 p0.toNatClampNeg (p1.toInt - p0.toInt).toNat : Int) := w_27
                    refine lv_iload hx hb dX5_failed_80 (lv_at hl 6 rfl) ?_
                    refine lv_imul hx hb dX5_failed_82 ?_
                    refine lv_topi (fun y_28 ey_28 => ?_)
                    refine lv_iload_n hx hb dX5_failed_83 rfl (lv_at hl 5 rfl) ?_
                    refine lv_iload_n hx hb dX5_failed_84 rfl (lv_at hl 4 rfl) ?_
                    refine lv_iload_n hx hb dX5_failed_85 rfl (lv_at hl 3 rfl) ?_
                    refine lv_isub hx hb dX5_failed_86 ?_
                    refine lv_topi (fun y_29 ey_29 => ?_)
                    have i_29 : y_29.toInt = p1.toInt - p0.toInt := ki_sub ey_29 rfl rfl (by omega) (by omega)
                    refine lv_imul hx hb dX5_failed_87 ?_
                    refine lv_topi (fun y_30 ey_30 => ?_)
                    have hlc := cnt_le f y_26 p0.toNatClampNeg (p1.toInt - p0.toInt).toNat
                    have b1 := ki_mulb (a := r_27.toInt) (b := p3.toInt) (A := 160) (B := 999) (by omega) (by omega) (by omega) (by omega)
                    have b2 := ki_mulb (a := p2.toInt) (b := y_29.toInt) (A := 999) (B := 160) (by omega) (by omega) (by omega) (by omega)
                    have m1 : y_28.toInt = r_27.toInt * p3.toInt := ki_mul ey_28 rfl rfl (by omega) (by omega)
                    have m2 : y_30.toInt = p2.toInt * y_29.toInt := ki_mul ey_30 rfl rfl (by omega) (by omega)
                    rw [i_29] at m2
                    refine lv_icmp_gt (tgt := 94) hx hb dX5_failed_88 (by decide) (fun c_31 => ?_) (fun c_31 => ?_)
                    · have i_31 : y_30.toInt < y_28.toInt := kc_lt c_31
                      obtain ⟨x_32, ex_32⟩ : ∃ y : Int32, y = i + 1 := ⟨_, rfl⟩
                      have i_32 : x_32.toInt = i.toInt + 1 := ki_add ex_32 rfl rfl (by omega) (by omega)
                      refine lv_iinc (v := x_32) (lv' := [(6, .int x_32), (5, .int sm), (0, .ref h0), (1, .int p0), (2, .int p1), (3, .int p2), (4, .int p3)]) hx hb dX5_failed_94 hl (k := 0) rfl (by rw [ex_32]; rfl) (by decide) rfl (fun ls hl => ?_)
                      refine lv_goto (tgt := 50) hx hb dX5_failed_97 (by decide) ?_
                      have n_33 := ki_nat x_32 rfl (by omega)
                      have n_73 := ki_nat y_25 rfl (by omega)
                      have q_i : y_25.toNatClampNeg = 1920 + i.toNatClampNeg := by omega
                      have q_r : r_27.toInt = (cnt f (o_13 (1920 + i.toNatClampNeg)) p0.toNatClampNeg (p1.toInt - p0.toInt).toNat : Int) := by rw [← q_i, ← ey_26]; exact w_27
                      have st := mj_hk_yes (p := p2.toInt) (q := p3.toInt) (n := p1.toInt - p0.toInt) (V := fun k => o_13 (1920 + k)) (g := (fun v => (cnt f v p0.toNatClampNeg (p1.toInt - p0.toInt).toNat : Int))) (i := i.toNatClampNeg) (i2 := x_32.toNatClampNeg) (show p2.toInt * (p1.toInt - p0.toInt) < (cnt f (o_13 (1920 + i.toNatClampNeg)) p0.toNatClampNeg (p1.toInt - p0.toInt).toNat : Int) * p3.toInt by rw [← q_r]; omega) (by omega)
                      exact ih1 x_32 sm (by omega) (by omega) (by rw [st]; omega) (by omega) _ _ hP hD hS ls (lv_sub hl [0, 1, 2, 3, 4, 5, 6] rfl)
                    · have i_31 : y_28.toInt ≤ y_30.toInt := kc_nlt c_31
                      obtain ⟨x_34, ex_34⟩ : ∃ y : Int32, y = sm + 1 := ⟨_, rfl⟩
                      have i_34 : x_34.toInt = sm.toInt + 1 := ki_add ex_34 rfl rfl (by omega) (by omega)
                      refine lv_iinc (v := x_34) (lv' := [(5, .int x_34), (6, .int i), (0, .ref h0), (1, .int p0), (2, .int p1), (3, .int p2), (4, .int p3)]) hx hb dX5_failed_91 hl (k := 1) rfl (by rw [ex_34]; rfl) (by decide) rfl (fun ls hl => ?_)
                      obtain ⟨x_35, ex_35⟩ : ∃ y : Int32, y = i + 1 := ⟨_, rfl⟩
                      have i_35 : x_35.toInt = i.toInt + 1 := ki_add ex_35 rfl rfl (by omega) (by omega)
                      refine lv_iinc (v := x_35) (lv' := [(6, .int x_35), (5, .int x_34), (0, .ref h0), (1, .int p0), (2, .int p1), (3, .int p2), (4, .int p3)]) hx hb dX5_failed_94 hl (k := 1) rfl (by rw [ex_35]; rfl) (by decide) rfl (fun ls hl => ?_)
                      refine lv_goto (tgt := 50) hx hb dX5_failed_97 (by decide) ?_
                      have n_36 := ki_nat x_35 rfl (by omega)
                      have n_73 := ki_nat y_25 rfl (by omega)
                      have q_i : y_25.toNatClampNeg = 1920 + i.toNatClampNeg := by omega
                      have q_r : r_27.toInt = (cnt f (o_13 (1920 + i.toNatClampNeg)) p0.toNatClampNeg (p1.toInt - p0.toInt).toNat : Int) := by rw [← q_i, ← ey_26]; exact w_27
                      have st := mj_hk_no (p := p2.toInt) (q := p3.toInt) (n := p1.toInt - p0.toInt) (V := fun k => o_13 (1920 + k)) (g := (fun v => (cnt f v p0.toNatClampNeg (p1.toInt - p0.toInt).toNat : Int))) (i := i.toNatClampNeg) (i2 := x_35.toNatClampNeg) (show (cnt f (o_13 (1920 + i.toNatClampNeg)) p0.toNatClampNeg (p1.toInt - p0.toInt).toNat : Int) * p3.toInt ≤ p2.toInt * (p1.toInt - p0.toInt) by rw [← q_r]; omega) (by omega)
                      exact ih1 x_35 x_34 (by omega) (by omega) (by rw [st]; omega) (by omega) _ _ hP hD hS ls (lv_sub hl [0, 1, 2, 3, 4, 5, 6] rfl)
              have k_37 : (0 : Int32).toInt = 0 := rfl
              have k_38 : (0 : Int32).toInt = 0 := rfl
              exact LP1 ((6 - 0 : Int).toNat + 1) 0 0 (by omega) (by omega) rfl (Nat.lt_succ_self _) _ _ hP hD hS ls (lv_sub hl [0, 1, 2, 3, 4, 5, 6] rfl)
            · exact absurd c_6 (by decide)
          · have w_5 : p2.toInt * (m_slots.toInt + 1) < p3.toInt := w_5
            refine lv_if_ne (tgt := 38) hx hb dX5_failed_32 (by decide) (fun c_39 => ?_) (fun c_39 => ?_)
            · exact absurd c_39 (by decide)
            · refine lv_bipush (v := (-2)) hx hb dX5_failed_35 (by decide) ?_
              have hP9 := hP
              have hD9 := hD
              have hK9 := hK
              exact W.iret (v := (-2)) hx hb hr (fun t ht hW => ⟨⟨(-2), (m_nodes, m_allMany, fm, fl, fe, vv, vn, av, an, nl, nr, m_partMany, gp), rfl, ⟨Or.inr (Or.inl ⟨(by (try dsimp only); omega), rfl⟩), s4, q0⟩, by rw [ht]; exact hP9, va_K.moved hW.alike hK9, hD9⟩, hS.F ht⟩) hS.2.2 dX5_failed_37
        · exact absurd c_4 (by decide)
      · have w_3 : (p2.toInt < 1 ∨ p3.toInt < p2.toInt ∨ 999 < p3.toInt) := w_3
        refine lv_if_ne (tgt := 25) hx hb dX5_failed_20 (by decide) (fun c_40 => ?_) (fun c_40 => ?_)
        · exact absurd c_40 (by decide)
        · refine lv_iconst (v := (-1)) hx hb dX5_failed_23 (by decide) ?_
          have hP9 := hP
          have hD9 := hD
          have hK9 := hK
          exact W.iret (v := (-1)) hx hb hr (fun t ht hW => ⟨⟨(-1), (m_nodes, m_allMany, fm, fl, fe, vv, vn, av, an, nl, nr, m_partMany, gp), rfl, ⟨Or.inr (Or.inr ⟨(by (try dsimp only); omega), rfl⟩), s4, q0⟩, by rw [ht]; exact hP9, va_K.moved hW.alike hK9, hD9⟩, hS.F ht⟩) hS.2.2 dX5_failed_24
  · have w_1 : (p0.toInt < 0 ∨ p1.toInt ≤ p0.toInt ∨ m_n.toInt < p1.toInt) := w_1
    refine lv_if_eq (tgt := 23) hx hb dX5_failed_11 (by decide) (fun c_41 => ?_) (fun c_41 => ?_)
    · refine lv_iconst (v := (-1)) hx hb dX5_failed_23 (by decide) ?_
      have hP9 := hP
      have hD9 := hD
      have hK9 := hK
      exact W.iret (v := (-1)) hx hb hr (fun t ht hW => ⟨⟨(-1), (m_nodes, m_allMany, fm, fl, fe, vv, vn, av, an, nl, nr, m_partMany, gp), rfl, ⟨Or.inr (Or.inr ⟨(by (try dsimp only); omega), rfl⟩), s4, q0⟩, by rw [ht]; exact hP9, va_K.moved hW.alike hK9, hD9⟩, hS.F ht⟩) hS.2.2 dX5_failed_24
    · exact absurd c_41 (by decide)


