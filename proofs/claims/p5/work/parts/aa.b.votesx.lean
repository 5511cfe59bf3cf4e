set_option maxHeartbeats 4000000 in
set_option maxRecDepth 100000 in
theorem c_X3_add_x (l : Launch) (dC : Nat → ClassId) (dI : Nat → Nat → Nat) (h0 : Nat) (a_v : Nat) (a_n : Nat) (cyI : ClassId) (vs : Int32) (lo : Int32) (le : Int32) (fv : Nat → Int32) (fn : Nat → Int32) (p0 : Int32) (p1 : Int32) (sz : Nat) (a0 : 0 ≤ vs.toInt) (a1 : vs.toInt < 12) : Met l yX3_add wsX3_add ({ frames := 0, cells := 0, slots := 0, locals := 0 }) (va_Pc [.ref h0, .int p0, .int p1] (fun U => U.heap.size = sz ∧ va_P (dC, dI) vwCl [kx_3 h0 a_v a_n vs lo le, kx_a a_v cyI 12 fv, kx_a a_n cyI 12 fn] U.heap ∧ va_K (dC, dI) vwCl [(cyI, .int)] U ∧ va_D (fun _ => True) [kx_3 h0 a_v a_n vs lo le, kx_a a_v cyI 12 fv, kx_a a_n cyI 12 fn])) (va_Qv (fun u : Int32 × (Nat → Int32) × (Nat → Int32) => mj_addR fv fn vs.toNatClampNeg p0 p1 u.2.1 u.2.2 u.1.toNatClampNeg ∧ vs.toInt ≤ u.1.toInt ∧ u.1.toInt ≤ vs.toInt + 1) (fun (u : Int32 × (Nat → Int32) × (Nat → Int32)) (t : State) => va_P (dC, dI) vwCl [kx_3 h0 a_v a_n u.1 lo le, kx_a a_v cyI 12 u.2.1, kx_a a_n cyI 12 u.2.2] t.heap ∧ va_K (dC, dI) vwCl [(cyI, .int)] t ∧ va_D (va_A [kx_3 h0 a_v a_n vs lo le, kx_a a_v cyI 12 fv, kx_a a_n cyI 12 fn] sz) [kx_3 h0 a_v a_n u.1 lo le, kx_a a_v cyI 12 u.2.1, kx_a a_n cyI 12 u.2.2]) (va_A [kx_3 h0 a_v a_n vs lo le, kx_a a_v cyI 12 fv, kx_a a_n cyI 12 fn] sz)) 0 0 (va_A [kx_3 h0 a_v a_n vs lo le, kx_a a_v cyI 12 fv, kx_a a_n cyI 12 fn] sz) := by
  refine Met.ofW (cc := cX3_add) (maxL := 4) (ret := none) (by decide) rfl ?_
  intro p e s m args below meth c s₁ B hml hv
  obtain ⟨rfl, hsz, hP, hK, hD0⟩ := hv
  have hx := B.exec
  have hb := B.bytes
  have hr := B.returns
  have hts := atoms_spec (ws := wsX3_add) B.pre
  have hown : s.vm.findClass RX3 = some m.cls := findClass_of_methodNamed B.named
  have hlocks := B.notSynchronized
  subst hsz
  have hD := hD0.self (sz := s.heap.size)
  generalize hAe : va_A [kx_3 h0 a_v a_n vs lo le, kx_a a_v cyI 12 fv, kx_a a_n cyI 12 fn] s.heap.size = A at hD ⊢
  have hA : ∀ q : Nat, s.heap.size ≤ q → A q := fun q h => by rw [← hAe]; exact Or.inr h
  have hS : va_S A s.heap s.heap [] := va_S.rf
  have hP : va_P (dC, dI) vwCl [kx_3 h0 a_v a_n vs lo le, kx_a a_v cyI 12 fv, kx_a a_n cyI 12 fn] s.heap := hP
  have hl := lv_entry ([.ref h0, .int p0, .int p1]) (n := 4) (Nat.le_of_ble_eq_true rfl)
  rw [lg_entry_eq]
  generalize (lg_sl ([.ref h0, .int p0, .int p1]) ++ List.replicate (4 - (lg_sl ([.ref h0, .int p0, .int p1])).length) Slot.unset).toArray = ls at hl ⊢
  have hl : lv_has ls 4 [(0, .ref h0), (1, .int p0), (2, .int p1)] := hl
  have hf_18 := hts (.fieldLink RX3 18 "MajorityIndex$Votes" "size" "I") (List.mem_of_getElem? (i := 1) rfl)
  have hi_3 : ∀ w ∈ u_ws RX3 TX3 5, w ∈ wsX3_add := fun w h => List.mem_cons_of_mem _ (List.mem_append_right _ h)
  have hf_9 := hts (.fieldLink RX3 9 "MajorityIndex$Votes" "value" "[I") (List.mem_of_getElem? (i := 2) rfl)
  have hf_15 := hts (.fieldLink RX3 15 "MajorityIndex$Votes" "number" "[I") (List.mem_of_getElem? (i := 3) rfl)
  refine lv_iconst (v := 0) hx hb dX3_add_0 (by decide) ?_
  refine lv_istore_n (lv' := [(3, .int 0), (0, .ref h0), (1, .int p0), (2, .int p1)]) hx hb dX3_add_1 rfl hl (by decide) rfl (fun ls hl => ?_)
  have LP1 : ∀ (n : Nat) (i : Int32), (0 ≤ i.toInt) → (∀ k : Nat, k < i.toNatClampNeg → ¬ fv k = p0) → (vs.toInt - i.toInt).toNat < n → ∀ (H : Heap) (locs : List Loc), va_P (dC, dI) vwCl [kx_3 h0 a_v a_n vs lo le, kx_a a_v cyI 12 fv, kx_a a_n cyI 12 fn] H → va_D A [kx_3 h0 a_v a_n vs lo le, kx_a a_v cyI 12 fv, kx_a a_n cyI 12 fn] → va_S A s.heap H locs → ∀ (ls : Array Slot), lv_has ls 4 [(3, .int i), (0, .ref h0), (1, .int p0), (2, .int p1)] → W p l e (headSpec wsX3_add ({ frames := 0, cells := 0, slots := 0, locals := 0 })).room s m ([.ref h0, .int p0, .int p1] : List Value).toArray below meth c H locs 0 0 (MQ below (va_Qv (fun u : Int32 × (Nat → Int32) × (Nat → Int32) => mj_addR fv fn vs.toNatClampNeg p0 p1 u.2.1 u.2.2 u.1.toNatClampNeg ∧ vs.toInt ≤ u.1.toInt ∧ u.1.toInt ≤ vs.toInt + 1) (fun (u : Int32 × (Nat → Int32) × (Nat → Int32)) (t : State) => va_P (dC, dI) vwCl [kx_3 h0 a_v a_n u.1 lo le, kx_a a_v cyI 12 u.2.1, kx_a a_n cyI 12 u.2.2] t.heap ∧ va_K (dC, dI) vwCl [(cyI, .int)] t ∧ va_D A [kx_3 h0 a_v a_n u.1 lo le, kx_a a_v cyI 12 u.2.1, kx_a a_n cyI 12 u.2.2]) A) ([.ref h0, .int p0, .int p1] : List Value).toArray s 0 0 A) (F0 m 2 ls []) := by
    intro n
    induction n with
    | zero => intro i LP1_h0 LP1_h1 hn; exact absurd hn (Nat.not_lt_zero _)
    | succ n ih1 =>
      intro i LP1_h0 LP1_h1 hn1 H locs hP hD hS ls hl
      have n_i := ki_nat i rfl (om_8 LP1_h0)
      refine lv_iload_n hx hb dX3_add_2 rfl (lv_at hl 0 rfl) ?_
      refine lv_aload_n hx hb dX3_add_3 rfl (lv_at hl 1 rfl) ?_
      refine va_get (D := (dC, dI)) (ci := 3) (v := .int vs) (C := RX3) (T := TX3) (N := 5) hx hb hts hi_3 hown hK hP 0 rfl rfl 2 (by decide) hf_18 (fun _ h9 => h9) rfl dX3_add_4 ?_
      refine lv_icmp_ge (tgt := 37) hx hb dX3_add_7 (by decide) (fun c_1 => ?_) (fun c_1 => ?_)
      · have i_1 : vs.toInt ≤ i.toInt := kc_le c_1
        refine lv_aload_n hx hb dX3_add_37 rfl (lv_at hl 1 rfl) ?_
        refine va_get (D := (dC, dI)) (ci := 3) (v := .int vs) (C := RX3) (T := TX3) (N := 5) hx hb hts hi_3 hown hK hP 0 rfl rfl 2 (by decide) hf_18 (fun _ h9 => h9) rfl dX3_add_38 ?_
        refine lv_aload_n hx hb dX3_add_41 rfl (lv_at hl 1 rfl) ?_
        refine va_get (D := (dC, dI)) (ci := 3) (v := .ref a_v) (C := RX3) (T := TX3) (N := 5) hx hb hts hi_3 hown hK hP 0 rfl rfl 0 (by decide) hf_9 (fun _ h9 => h9) rfl dX3_add_42 ?_
        refine va_alen (v := 12) hx hb hK hP 1 0 rfl rfl rfl dX3_add_45 ?_
        refine lv_icmp_ge (tgt := 79) hx hb dX3_add_46 (by decide) (fun c_2 => ?_) (fun c_2 => ?_)
        · have i_2 : 12 ≤ vs.toInt := kc_le c_2
          exfalso; omega
        · have i_2 : vs.toInt < 12 := kc_nle c_2
          refine lv_aload_n hx hb dX3_add_49 rfl (lv_at hl 1 rfl) ?_
          refine va_get (D := (dC, dI)) (ci := 3) (v := .ref a_v) (C := RX3) (T := TX3) (N := 5) hx hb hts hi_3 hown hK hP 0 rfl rfl 0 (by decide) hf_9 (fun _ h9 => h9) rfl dX3_add_50 ?_
          refine lv_aload_n hx hb dX3_add_53 rfl (lv_at hl 1 rfl) ?_
          refine va_get (D := (dC, dI)) (ci := 3) (v := .int vs) (C := RX3) (T := TX3) (N := 5) hx hb hts hi_3 hown hK hP 0 rfl rfl 2 (by decide) hf_18 (fun _ h9 => h9) rfl dX3_add_54 ?_
          refine lv_iload_n hx hb dX3_add_57 rfl (lv_at hl 2 rfl) ?_
          refine va_iast hx hb hK hP hD hS 1 0 rfl rfl (ki_in (om_8 a0) (om_27 a1)) dX3_add_58 (fun H locs hP hD hS => ?_)
          have hP : va_P (dC, dI) vwCl [kx_3 h0 a_v a_n vs lo le, kx_a a_v cyI 12 (upd fv vs.toNatClampNeg p0), kx_a a_n cyI 12 fn] H := hP
          have hD : va_D A [kx_3 h0 a_v a_n vs lo le, kx_a a_v cyI 12 (upd fv vs.toNatClampNeg p0), kx_a a_n cyI 12 fn] := hD
          refine lv_aload_n hx hb dX3_add_59 rfl (lv_at hl 1 rfl) ?_
          refine va_get (D := (dC, dI)) (ci := 3) (v := .ref a_n) (C := RX3) (T := TX3) (N := 5) hx hb hts hi_3 hown hK hP 0 rfl rfl 1 (by decide) hf_15 (fun _ h9 => h9) rfl dX3_add_60 ?_
          refine lv_aload_n hx hb dX3_add_63 rfl (lv_at hl 1 rfl) ?_
          refine va_get (D := (dC, dI)) (ci := 3) (v := .int vs) (C := RX3) (T := TX3) (N := 5) hx hb hts hi_3 hown hK hP 0 rfl rfl 2 (by decide) hf_18 (fun _ h9 => h9) rfl dX3_add_64 ?_
          refine lv_iload_n hx hb dX3_add_67 rfl (lv_at hl 3 rfl) ?_
          refine va_iast hx hb hK hP hD hS 2 0 rfl rfl (ki_in (om_8 a0) (om_27 a1)) dX3_add_68 (fun H locs hP hD hS => ?_)
          have hP : va_P (dC, dI) vwCl [kx_3 h0 a_v a_n vs lo le, kx_a a_v cyI 12 (upd fv vs.toNatClampNeg p0), kx_a a_n cyI 12 (upd fn vs.toNatClampNeg p1)] H := hP
          have hD : va_D A [kx_3 h0 a_v a_n vs lo le, kx_a a_v cyI 12 (upd fv vs.toNatClampNeg p0), kx_a a_n cyI 12 (upd fn vs.toNatClampNeg p1)] := hD
          refine lv_aload_n hx hb dX3_add_69 rfl (lv_at hl 1 rfl) ?_
          refine lv_dup hx hb dX3_add_70 rfl ?_
          refine va_get (D := (dC, dI)) (ci := 3) (v := .int vs) (C := RX3) (T := TX3) (N := 5) hx hb hts hi_3 hown hK hP 0 rfl rfl 2 (by decide) hf_18 (fun _ h9 => h9) rfl dX3_add_71 ?_
          refine lv_iconst (v := 1) hx hb dX3_add_74 (by decide) ?_
          refine lv_iadd hx hb dX3_add_75 ?_
          refine lv_topi (fun y_3 ey_3 => ?_)
          have i_3 : y_3.toInt = vs.toInt + 1 := ki_add ey_3 rfl rfl (om_10 a0) (om_163 a1)
          refine va_put (D := (dC, dI)) (ci := 3) (v := .int y_3) (ty := .int) (C := RX3) (T := TX3) (N := 5) hx hb hts hi_3 tyX3 tyX3_ok nmX3 hown hK hP hD hS 0 rfl rfl 2 (by decide) hf_18 (fun _ h9 => h9) rfl (by decide +kernel) rfl rfl (Nat.le_of_ble_eq_true rfl) dX3_add_76 (fun H locs hP hD hS => ?_)
          have hP : va_P (dC, dI) vwCl [kx_3 h0 a_v a_n y_3 lo le, kx_a a_v cyI 12 (upd fv vs.toNatClampNeg p0), kx_a a_n cyI 12 (upd fn vs.toNatClampNeg p1)] H := hP
          have hD : va_D A [kx_3 h0 a_v a_n y_3 lo le, kx_a a_v cyI 12 (upd fv vs.toNatClampNeg p0), kx_a a_n cyI 12 (upd fn vs.toNatClampNeg p1)] := hD
          have hP9 := hP
          have hD9 := hD
          have hK9 := hK
          have n_vs := ki_nat vs rfl (om_8 a0)
          have n_4 := ki_nat y_3 rfl (om_31 a0 i_3)
          exact W.vret hx hb hr (fun t ht hW => ⟨⟨(y_3, (upd fv vs.toNatClampNeg p0), (upd fn vs.toNatClampNeg p1)), rfl, ⟨Or.inr ⟨(fun k hk => LP1_h1 k (by omega)), rfl, rfl, (by (try dsimp only); omega)⟩, (by (try dsimp only); omega), (by (try dsimp only); omega)⟩, by rw [ht]; exact hP9, va_K.moved hW.alike hK9, hD9⟩, hS.F ht⟩) hS.2.2 dX3_add_79
      · have i_1 : i.toInt < vs.toInt := kc_nle c_1
        refine lv_aload_n hx hb dX3_add_10 rfl (lv_at hl 1 rfl) ?_
        refine va_get (D := (dC, dI)) (ci := 3) (v := .ref a_v) (C := RX3) (T := TX3) (N := 5) hx hb hts hi_3 hown hK hP 0 rfl rfl 0 (by decide) hf_9 (fun _ h9 => h9) rfl dX3_add_11 ?_
        refine lv_iload_n hx hb dX3_add_14 rfl (lv_at hl 0 rfl) ?_
        refine va_iald hx hb hK hP 1 0 rfl rfl (ki_in (om_8 LP1_h0) (om_164 a1 i_1)) dX3_add_15 ?_
        refine lv_topi (fun y_5 ey_5 => ?_)
        have j_5 : y_5.toInt = (fv i.toNatClampNeg).toInt := congrArg Int32.toInt ey_5
        refine lv_iload_n hx hb dX3_add_16 rfl (lv_at hl 2 rfl) ?_
        refine lv_icmp_ne (tgt := 31) hx hb dX3_add_17 (by decide) (fun c_6 => ?_) (fun c_6 => ?_)
        · have i_6 : ¬ y_5.toInt = p0.toInt := kc_ne c_6
          obtain ⟨x_7, ex_7⟩ : ∃ y : Int32, y = i + 1 := ⟨_, rfl⟩
          have i_7 : x_7.toInt = i.toInt + 1 := ki_add ex_7 rfl rfl (om_10 LP1_h0) (om_165 a1 i_1)
          refine lv_iinc (v := x_7) (lv' := [(3, .int x_7), (0, .ref h0), (1, .int p0), (2, .int p1)]) hx hb dX3_add_31 hl (k := 0) rfl (by rw [ex_7]; rfl) (by decide) rfl (fun ls hl => ?_)
          refine lv_goto (tgt := 2) hx hb dX3_add_34 (by decide) ?_
          have n_8 := ki_nat x_7 rfl (om_31 LP1_h0 i_7)
          exact ih1 x_7 (om_31 LP1_h0 i_7) (fun k hk => if h9 : k < i.toNatClampNeg then LP1_h1 k h9 else (by rw [show k = i.toNatClampNeg by omega]; exact fun h => c_6 (ey_5.trans h))) (om_mu hn1 (om_5 i_7) (om_6 i_1)) _ _ hP hD hS ls (lv_sub hl [0, 1, 2, 3] rfl)
        · have i_6 : y_5.toInt = p0.toInt := kc_eq c_6
          refine lv_aload_n hx hb dX3_add_20 rfl (lv_at hl 1 rfl) ?_
          refine va_get (D := (dC, dI)) (ci := 3) (v := .ref a_n) (C := RX3) (T := TX3) (N := 5) hx hb hts hi_3 hown hK hP 0 rfl rfl 1 (by decide) hf_15 (fun _ h9 => h9) rfl dX3_add_21 ?_
          refine lv_iload_n hx hb dX3_add_24 rfl (lv_at hl 0 rfl) ?_
          refine lv_dup2_11 hx hb dX3_add_25 rfl rfl ?_
          refine va_iald hx hb hK hP 2 0 rfl rfl (ki_in (om_8 LP1_h0) (om_164 a1 i_1)) dX3_add_26 ?_
          refine lv_topi (fun y_9 ey_9 => ?_)
          have j_9 : y_9.toInt = (fn i.toNatClampNeg).toInt := congrArg Int32.toInt ey_9
          refine lv_iload_n hx hb dX3_add_27 rfl (lv_at hl 3 rfl) ?_
          refine lv_iadd hx hb dX3_add_28 ?_
          refine lv_topi (fun y_10 ey_10 => ?_)
          refine va_iast hx hb hK hP hD hS 2 0 rfl rfl (ki_in (om_8 LP1_h0) (om_164 a1 i_1)) dX3_add_29 (fun H locs hP hD hS => ?_)
          have hP : va_P (dC, dI) vwCl [kx_3 h0 a_v a_n vs lo le, kx_a a_v cyI 12 fv, kx_a a_n cyI 12 (upd fn i.toNatClampNeg y_10)] H := hP
          have hD : va_D A [kx_3 h0 a_v a_n vs lo le, kx_a a_v cyI 12 fv, kx_a a_n cyI 12 (upd fn i.toNatClampNeg y_10)] := hD
          have hP9 := hP
          have hD9 := hD
          have hK9 := hK
          have n_vs := ki_nat vs rfl (om_8 a0)
          exact W.vret hx hb hr (fun t ht hW => ⟨⟨(vs, fv, (upd fn i.toNatClampNeg y_10)), rfl, ⟨Or.inl ⟨i.toNatClampNeg, (by (try dsimp only); omega), (ey_5.symm.trans c_6), rfl, (by (try dsimp only); rw [ey_10, ey_9]), rfl⟩, (by (try dsimp only); omega), (by (try dsimp only); omega)⟩, by rw [ht]; exact hP9, va_K.moved hW.alike hK9, hD9⟩, hS.F ht⟩) hS.2.2 dX3_add_30
  have k_11 : (0 : Int32).toInt = 0 := rfl
  exact LP1 ((vs.toInt - 0 : Int).toNat + 1) 0 om_32 (fun k hk => absurd hk (Nat.not_lt_zero k)) (Nat.lt_succ_self _) _ _ hP hD hS ls (lv_sub hl [0, 1, 2, 3] rfl)

set_option maxHeartbeats 4000000 in
set_option maxRecDepth 100000 in
theorem c_X3_order_x (l : Launch) (dC : Nat → ClassId) (dI : Nat → Nat → Nat) (h0 : Nat) (a_v : Nat) (a_n : Nat) (cyI : ClassId) (vs : Int32) (lo : Int32) (le : Int32) (fv : Nat → Int32) (fn : Nat → Int32) (sz : Nat) (a0 : 0 ≤ vs.toInt) (a1 : vs.toInt ≤ 12) : Met l yX3_order wsX3_order ({ frames := 1, cells := 0, slots := 0, locals := 45 }) (va_Pc [.ref h0] (fun U => U.heap.size = sz ∧ va_P (dC, dI) vwCl [kx_3 h0 a_v a_n vs lo le, kx_a a_v cyI 12 fv, kx_a a_n cyI 12 fn] U.heap ∧ va_K (dC, dI) vwCl [(cyI, .int)] U ∧ va_D (fun _ => True) [kx_3 h0 a_v a_n vs lo le, kx_a a_v cyI 12 fv, kx_a a_n cyI 12 fn])) (va_Qv (fun u : (Nat → Int32) × (Nat → Int32) => mj_srt u.1 u.2 0 vs.toNatClampNeg ∧ ∀ mu : Int32 → Int, mj_vs fv fn 0 vs.toNatClampNeg mu → mj_vs u.1 u.2 0 vs.toNatClampNeg mu) (fun (u : (Nat → Int32) × (Nat → Int32)) (t : State) => va_P (dC, dI) vwCl [kx_3 h0 a_v a_n vs lo le, kx_a a_v cyI 12 u.1, kx_a a_n cyI 12 u.2] t.heap ∧ va_K (dC, dI) vwCl [(cyI, .int)] t ∧ va_D (va_A [kx_3 h0 a_v a_n vs lo le, kx_a a_v cyI 12 fv, kx_a a_n cyI 12 fn] sz) [kx_3 h0 a_v a_n vs lo le, kx_a a_v cyI 12 u.1, kx_a a_n cyI 12 u.2]) (va_A [kx_3 h0 a_v a_n vs lo le, kx_a a_v cyI 12 fv, kx_a a_n cyI 12 fn] sz)) 0 0 (va_A [kx_3 h0 a_v a_n vs lo le, kx_a a_v cyI 12 fv, kx_a a_n cyI 12 fn] sz) := by
  refine Met.ofW (cc := cX3_order) (maxL := 3) (ret := none) (by decide) rfl ?_
  intro p e s m args below meth c s₁ B hml hv
  obtain ⟨rfl, hsz, hP, hK, hD0⟩ := hv
  have hx := B.exec
  have hb := B.bytes
  have hr := B.returns
  have hts := atoms_spec (ws := wsX3_order) B.pre
  have hown : s.vm.findClass RX3 = some m.cls := findClass_of_methodNamed B.named
  have hlocks := B.notSynchronized
  subst hsz
  have hD := hD0.self (sz := s.heap.size)
  generalize hAe : va_A [kx_3 h0 a_v a_n vs lo le, kx_a a_v cyI 12 fv, kx_a a_n cyI 12 fn] s.heap.size = A at hD ⊢
  have hA : ∀ q : Nat, s.heap.size ≤ q → A q := fun q h => by rw [← hAe]; exact Or.inr h
  have hS : va_S A s.heap s.heap [] := va_S.rf
  have hP : va_P (dC, dI) vwCl [kx_3 h0 a_v a_n vs lo le, kx_a a_v cyI 12 fv, kx_a a_n cyI 12 fn] s.heap := hP
  have hl := lv_entry ([.ref h0]) (n := 3) (Nat.le_of_ble_eq_true rfl)
  rw [lg_entry_eq]
  generalize (lg_sl ([.ref h0]) ++ List.replicate (3 - (lg_sl ([.ref h0])).length) Slot.unset).toArray = ls at hl ⊢
  have hl : lv_has ls 3 [(0, .ref h0)] := hl
  have hf_18 := hts (.fieldLink RX3 18 "MajorityIndex$Votes" "size" "I") (List.mem_of_getElem? (i := 1) rfl)
  have hi_3 : ∀ w ∈ u_ws RX3 TX3 5, w ∈ wsX3_order := fun w h => List.mem_cons_of_mem _ (List.mem_append_right _ h)
  have n_vs := ki_nat vs rfl (om_8 a0)
  refine lv_iconst (v := 1) hx hb dX3_order_0 (by decide) ?_
  refine lv_istore_n (lv' := [(1, .int 1), (0, .ref h0)]) hx hb dX3_order_1 rfl hl (by decide) rfl (fun ls hl => ?_)
  have LP1 : ∀ (n : Nat) (i : Int32) (gv : Nat → Int32) (gn : Nat → Int32), (1 ≤ i.toInt) → (i.toInt ≤ 13) → (mj_srt gv gn 0 i.toNatClampNeg) → (∀ mu : Int32 → Int, mj_vs fv fn 0 vs.toNatClampNeg mu → mj_vs gv gn 0 vs.toNatClampNeg mu) → (vs.toInt - i.toInt).toNat < n → ∀ (H : Heap) (locs : List Loc), va_P (dC, dI) vwCl [kx_3 h0 a_v a_n vs lo le, kx_a a_v cyI 12 gv, kx_a a_n cyI 12 gn] H → va_D A [kx_3 h0 a_v a_n vs lo le, kx_a a_v cyI 12 gv, kx_a a_n cyI 12 gn] → va_S A s.heap H locs → ∀ (ls : Array Slot), lv_has ls 3 [(1, .int i), (0, .ref h0)] → W p l e (headSpec wsX3_order ({ frames := 1, cells := 0, slots := 0, locals := 45 })).room s m ([.ref h0] : List Value).toArray below meth c H locs 0 0 (MQ below (va_Qv (fun u : (Nat → Int32) × (Nat → Int32) => mj_srt u.1 u.2 0 vs.toNatClampNeg ∧ ∀ mu : Int32 → Int, mj_vs fv fn 0 vs.toNatClampNeg mu → mj_vs u.1 u.2 0 vs.toNatClampNeg mu) (fun (u : (Nat → Int32) × (Nat → Int32)) (t : State) => va_P (dC, dI) vwCl [kx_3 h0 a_v a_n vs lo le, kx_a a_v cyI 12 u.1, kx_a a_n cyI 12 u.2] t.heap ∧ va_K (dC, dI) vwCl [(cyI, .int)] t ∧ va_D A [kx_3 h0 a_v a_n vs lo le, kx_a a_v cyI 12 u.1, kx_a a_n cyI 12 u.2]) A) ([.ref h0] : List Value).toArray s 0 0 A) (F0 m 2 ls []) := by
    intro n
    induction n with
    | zero => intro i gv gn LP1_h0 LP1_h1 LP1_h2 LP1_h3 hn; exact absurd hn (Nat.not_lt_zero _)
    | succ n ih1 =>
      intro i gv gn LP1_h0 LP1_h1 LP1_h2 LP1_h3 hn1 H locs hP hD hS ls hl
      have n_i := ki_nat i rfl (om_44 LP1_h0)
      refine lv_iload_n hx hb dX3_order_2 rfl (lv_at hl 0 rfl) ?_
      refine lv_aload_n hx hb dX3_order_3 rfl (lv_at hl 1 rfl) ?_
      refine va_get (D := (dC, dI)) (ci := 3) (v := .int vs) (C := RX3) (T := TX3) (N := 5) hx hb hts hi_3 hown hK hP 0 rfl rfl 2 (by decide) hf_18 (fun _ h9 => h9) rfl dX3_order_4 ?_
      refine lv_icmp_ge (tgt := 47) hx hb dX3_order_7 (by decide) (fun c_1 => ?_) (fun c_1 => ?_)
      · have i_1 : vs.toInt ≤ i.toInt := kc_le c_1
        have hP9 := hP
        have hD9 := hD
        have hK9 := hK
        exact W.vret hx hb hr (fun t ht hW => ⟨⟨(gv, gn), rfl, ⟨(fun x y h1 h2 => LP1_h2 x y h1 (by (try dsimp only); omega)), LP1_h3⟩, by rw [ht]; exact hP9, va_K.moved hW.alike hK9, hD9⟩, hS.F ht⟩) hS.2.2 dX3_order_47
      · have i_1 : i.toInt < vs.toInt := kc_nle c_1
        refine lv_iload_n hx hb dX3_order_10 rfl (lv_at hl 0 rfl) ?_
        refine lv_istore_n (lv' := [(2, .int i), (1, .int i), (0, .ref h0)]) hx hb dX3_order_11 rfl hl (by decide) rfl (fun ls hl => ?_)
        have LP2 : ∀ (n : Nat) (j : Int32) (kv : Nat → Int32) (kn : Nat → Int32), (0 ≤ j.toInt) → (j.toInt ≤ i.toInt) → (mj_in kv kn i.toNatClampNeg j.toNatClampNeg) → (∀ mu : Int32 → Int, mj_vs fv fn 0 vs.toNatClampNeg mu → mj_vs kv kn 0 vs.toNatClampNeg mu) → (j.toInt).toNat < n → ∀ (H : Heap) (locs : List Loc), va_P (dC, dI) vwCl [kx_3 h0 a_v a_n vs lo le, kx_a a_v cyI 12 kv, kx_a a_n cyI 12 kn] H → va_D A [kx_3 h0 a_v a_n vs lo le, kx_a a_v cyI 12 kv, kx_a a_n cyI 12 kn] → va_S A s.heap H locs → ∀ (ls : Array Slot), lv_has ls 3 [(2, .int j), (1, .int i), (0, .ref h0)] → W p l e (headSpec wsX3_order ({ frames := 1, cells := 0, slots := 0, locals := 45 })).room s m ([.ref h0] : List Value).toArray below meth c H locs 0 0 (MQ below (va_Qv (fun u : (Nat → Int32) × (Nat → Int32) => mj_srt u.1 u.2 0 vs.toNatClampNeg ∧ ∀ mu : Int32 → Int, mj_vs fv fn 0 vs.toNatClampNeg mu → mj_vs u.1 u.2 0 vs.toNatClampNeg mu) (fun (u : (Nat → Int32) × (Nat → Int32)) (t : State) => va_P (dC, dI) vwCl [kx_3 h0 a_v a_n vs lo le, kx_a a_v cyI 12 u.1, kx_a a_n cyI 12 u.2] t.heap ∧ va_K (dC, dI) vwCl [(cyI, .int)] t ∧ va_D A [kx_3 h0 a_v a_n vs lo le, kx_a a_v cyI 12 u.1, kx_a a_n cyI 12 u.2]) A) ([.ref h0] : List Value).toArray s 0 0 A) (F0 m 12 ls []) := by
          intro n
          induction n with
          | zero => intro j kv kn LP2_h0 LP2_h1 LP2_h2 LP2_h3 hn; exact absurd hn (Nat.not_lt_zero _)
          | succ n ih2 =>
            intro j kv kn LP2_h0 LP2_h1 LP2_h2 LP2_h3 hn2 H locs hP hD hS ls hl
            have n_j := ki_nat j rfl (om_8 LP2_h0)
            refine lv_iload_n hx hb dX3_order_12 rfl (lv_at hl 0 rfl) ?_
            refine lv_if_le (tgt := 41) hx hb dX3_order_13 (by decide) (fun c_2 => ?_) (fun c_2 => ?_)
            · have i_2 : j.toInt ≤ 0 := kc_le c_2
              obtain ⟨x_3, ex_3⟩ : ∃ y : Int32, y = i + 1 := ⟨_, rfl⟩
              have i_3 : x_3.toInt = i.toInt + 1 := ki_add ex_3 rfl rfl (om_33 LP1_h0) (om_205 LP1_h1)
              refine lv_iinc (v := x_3) (lv' := [(1, .int x_3), (2, .int j), (0, .ref h0)]) hx hb dX3_order_41 hl (k := 1) rfl (by rw [ex_3]; rfl) (by decide) rfl (fun ls hl => ?_)
              refine lv_goto (tgt := 2) hx hb dX3_order_44 (by decide) ?_
              have n_4 := ki_nat x_3 rfl (om_254 LP1_h0 i_3)
              exact ih1 x_3 kv kn (om_34 LP1_h0 i_3) (om_207 a1 LP1_h1 i_1 i_3) (mj_in_end LP2_h2 (by omega) (Or.inl (by omega)) (by omega)) LP2_h3 (om_mu hn1 (om_5 i_3) (om_6 i_1)) _ _ hP hD hS ls (lv_sub hl [0, 2] rfl)
            · have i_2 : 0 < j.toInt := kc_nle c_2
              refine lv_aload_n hx hb dX3_order_16 rfl (lv_at hl 2 rfl) ?_
              refine lv_iload_n hx hb dX3_order_17 rfl (lv_at hl 0 rfl) ?_
              refine lv_iload_n hx hb dX3_order_18 rfl (lv_at hl 0 rfl) ?_
              refine lv_iconst (v := 1) hx hb dX3_order_19 (by decide) ?_
              refine lv_isub hx hb dX3_order_20 ?_
              refine lv_topi (fun y_5 ey_5 => ?_)
              have i_5 : y_5.toInt = j.toInt - 1 := ki_sub ey_5 rfl rfl (om_35 i_2) (om_325 LP1_h1 LP2_h1)
              have hPc := hP
              have hKc := hK
              refine vp_callSi (W.runV (As := [.int j, .int y_5]) (rest := []) ⟨hx, hb, hml, hown, hts⟩ (c_X3_isAhead l dC dI h0 a_v a_n cyI vs lo le kv kn j y_5 LP2_h0 (om_37 a1 i_1 LP2_h1) (om_38 i_2 i_5) (om_326 a1 LP1_h1 i_1 LP2_h1 i_5)) (cwV 2 hts gX3_order_X3_isAhead rfl rfl rfl (by decide +kernel) ⟨Nat.le_of_ble_eq_true rfl, Nat.le_of_ble_eq_true rfl⟩) ⟨fun a U g mk q => by obtain ⟨q0, qP, qK⟩ := q; exact ⟨q0, qP, va_K.moved (u := U) (U := U.calling g mk a) (Vm.Alike.refl U.vm) qK⟩, va_recv hKc hPc (ci := 3) (q0 := 0) rfl rfl, fun U hU hW => ⟨rfl, by rw [hU]; exact hPc, va_K.moved hW.alike hKc⟩⟩ rfl rfl hl.1 rfl (lv_room (Nat.le_of_ble_eq_true rfl)) dX3_order_21 ⟨Nat.le_of_ble_eq_true rfl, Nat.le_of_ble_eq_true rfl⟩) (fun r_6 w_6 => ?_)
              rcases w_6 with ⟨rfl, w_6⟩ | ⟨rfl, w_6⟩
              · have w_6 : ((kn y_5.toNatClampNeg).toInt < (kn j.toNatClampNeg).toInt ∨ ((kn j.toNatClampNeg).toInt = (kn y_5.toNatClampNeg).toInt ∧ (kv j.toNatClampNeg).toInt < (kv y_5.toNatClampNeg).toInt)) := w_6
                refine lv_if_eq (tgt := 41) hx hb dX3_order_24 (by decide) (fun c_7 => ?_) (fun c_7 => ?_)
                · exact absurd c_7 (by decide)
                · refine lv_aload_n hx hb dX3_order_27 rfl (lv_at hl 2 rfl) ?_
                  refine lv_iload_n hx hb dX3_order_28 rfl (lv_at hl 0 rfl) ?_
                  refine lv_iload_n hx hb dX3_order_29 rfl (lv_at hl 0 rfl) ?_
                  refine lv_iconst (v := 1) hx hb dX3_order_30 (by decide) ?_
                  refine lv_isub hx hb dX3_order_31 ?_
                  refine lv_topi (fun y_8 ey_8 => ?_)
                  have i_8 : y_8.toInt = j.toInt - 1 := ki_sub ey_8 rfl rfl (om_35 i_2) (om_325 LP1_h1 LP2_h1)
                  have hPc := hP
                  have hKc := hK
                  have hDc := hD
                  have hFc := kx_free hD hS hA
                  refine va_callv (va_runV (As := [.int j, .int y_8]) (rest := []) ⟨hx, hb, hml, hown, hts⟩ (c_X3_exchange l dC dI h0 a_v a_n cyI vs lo le kv kn j y_8 H.size LP2_h0 (om_37 a1 i_1 LP2_h1) (om_38 i_2 i_8) (om_326 a1 LP1_h1 i_1 LP2_h1 i_8)) (cwV 2 hts gX3_order_X3_exchange rfl rfl rfl (by decide +kernel) ⟨Nat.le_of_ble_eq_true rfl, Nat.le_of_ble_eq_true rfl⟩) ⟨fun a U g mk q => by obtain ⟨q0, q1, qP, qK, qD⟩ := q; exact ⟨q0, q1, qP, va_K.moved (u := U) (U := U.calling g mk a) (Vm.Alike.refl U.vm) qK, qD⟩, va_recv hKc hPc (ci := 3) (q0 := 0) rfl rfl, fun U hU hW => ⟨rfl, by rw [hU], by rw [hU]; exact hPc, va_K.moved hW.alike hKc, hDc.weaken (fun _ _ _ _ => trivial)⟩⟩ rfl rfl hl.1 rfl (lv_room (Nat.le_of_ble_eq_true rfl)) dX3_order_32 ⟨Nat.le_of_ble_eq_true rfl, Nat.le_of_ble_eq_true rfl⟩) hS (fun q _ h => hFc q h) hFc (fun u t H1 locs ht hvm w_9 hB hz1 hk1 hS => ?_)
                  obtain ⟨o_10, o_11⟩ := u
                  dsimp only at w_9 hB
                  obtain ⟨hP1, hK1, hD1⟩ := hB
                  rw [ht] at hP1
                  have hK1 := va_K.moved hvm.symm hK1
                  have hD := hD1.weaken (fun _ q _ h => hFc q.1 h)
                  have hP := hP1
                  clear hP1 hD1 hK1 hk1 hz1 hFc hDc hPc hKc
                  generalize H1 = H at hP hS ⊢
                  have w_9 : o_10 = upd (upd kv j.toNatClampNeg (kv y_8.toNatClampNeg)) y_8.toNatClampNeg (kv j.toNatClampNeg) ∧ o_11 = upd (upd kn j.toNatClampNeg (kn y_8.toNatClampNeg)) y_8.toNatClampNeg (kn j.toNatClampNeg) := w_9
                  obtain ⟨x_12, ex_12⟩ : ∃ y : Int32, y = j + (-1) := ⟨_, rfl⟩
                  have i_12 : x_12.toInt = j.toInt + (-1) := ki_add ex_12 rfl rfl (om_40 i_2) (om_327 LP1_h1 LP2_h1)
                  refine lv_iinc (v := x_12) (lv' := [(2, .int x_12), (1, .int i), (0, .ref h0)]) hx hb dX3_order_35 hl (k := 0) rfl (by rw [ex_12]; rfl) (by decide) rfl (fun ls hl => ?_)
                  refine lv_goto (tgt := 12) hx hb dX3_order_38 (by decide) ?_
                  have n_13 := ki_nat x_12 rfl (om_42 i_2 i_12)
                  have n_14 := ki_nat y_5 rfl (om_38 i_2 i_5)
                  have n_15 := ki_nat y_8 rfl (om_38 i_2 i_8)
                  have q_1 : y_8.toNatClampNeg = x_12.toNatClampNeg := by omega
                  have q_2 : y_5.toNatClampNeg = x_12.toNatClampNeg := by omega
                  have l_1 : mj_lea kv kn j.toNatClampNeg x_12.toNatClampNeg := by rw [← q_2]; unfold mj_lea; omega
                  exact ih2 x_12 o_10 o_11 (om_42 i_2 i_12) (om_23 LP2_h1 i_12) (by rw [w_9.1, w_9.2, q_1]; exact (show mj_in (mj_ex kv j.toNatClampNeg x_12.toNatClampNeg) (mj_ex kn j.toNatClampNeg x_12.toNatClampNeg) i.toNatClampNeg x_12.toNatClampNeg from mj_in_swap LP2_h2 (by omega) (by omega) l_1)) (fun mu h => (by rw [w_9.1, w_9.2, q_1]; exact (show mj_vs (mj_ex kv j.toNatClampNeg x_12.toNatClampNeg) (mj_ex kn j.toNatClampNeg x_12.toNatClampNeg) 0 vs.toNatClampNeg mu from mj_vs_ex (by omega) (by omega) (LP2_h3 mu h)))) (om_mu hn2 (om_24 i_12) (om_43 i_2)) _ _ hP hD hS ls (lv_sub hl [0, 1, 2] rfl)
              · have w_6 : ((kn j.toNatClampNeg).toInt < (kn y_5.toNatClampNeg).toInt ∨ ((kn j.toNatClampNeg).toInt = (kn y_5.toNatClampNeg).toInt ∧ (kv y_5.toNatClampNeg).toInt ≤ (kv j.toNatClampNeg).toInt)) := w_6
                refine lv_if_eq (tgt := 41) hx hb dX3_order_24 (by decide) (fun c_16 => ?_) (fun c_16 => ?_)
                · obtain ⟨x_17, ex_17⟩ : ∃ y : Int32, y = i + 1 := ⟨_, rfl⟩
                  have i_17 : x_17.toInt = i.toInt + 1 := ki_add ex_17 rfl rfl (om_33 LP1_h0) (om_205 LP1_h1)
                  refine lv_iinc (v := x_17) (lv' := [(1, .int x_17), (2, .int j), (0, .ref h0)]) hx hb dX3_order_41 hl (k := 1) rfl (by rw [ex_17]; rfl) (by decide) rfl (fun ls hl => ?_)
                  refine lv_goto (tgt := 2) hx hb dX3_order_44 (by decide) ?_
                  have n_18 := ki_nat x_17 rfl (om_254 LP1_h0 i_17)
                  have n_19 := ki_nat y_5 rfl (om_38 i_2 i_5)
                  exact ih1 x_17 kv kn (om_34 LP1_h0 i_17) (om_207 a1 LP1_h1 i_1 i_17) (mj_in_end LP2_h2 (by omega) (Or.inr (by rw [show j.toNatClampNeg - 1 = y_5.toNatClampNeg by omega]; unfold mj_lea; omega)) (by omega)) LP2_h3 (om_mu hn1 (om_5 i_17) (om_6 i_1)) _ _ hP hD hS ls (lv_sub hl [0, 2] rfl)
                · exact absurd c_16 (by decide)
        exact LP2 ((i.toInt : Int).toNat + 1) i gv gn (om_44 LP1_h0) om_7 (mj_in_new LP1_h2 rfl) LP1_h3 (Nat.lt_succ_self _) _ _ hP hD hS ls (lv_sub hl [0, 1, 2] rfl)
  have k_20 : (1 : Int32).toInt = 1 := rfl
  exact LP1 ((vs.toInt - 1 : Int).toNat + 1) 1 fv fn om_45 om_328 (mj_srt_1 _ _ (by decide)) (fun mu h => h) (Nat.lt_succ_self _) _ _ hP hD hS ls (lv_sub hl [0, 1] rfl)

set_option maxHeartbeats 4000000 in
set_option maxRecDepth 100000 in
theorem c_X3_cancel_x (l : Launch) (dC : Nat → ClassId) (dI : Nat → Nat → Nat) (h0 : Nat) (a_v : Nat) (a_n : Nat) (cyI : ClassId) (vs : Int32) (lo : Int32) (le : Int32) (fv : Nat → Int32) (fn : Nat → Int32) (mu : Int32 → Int) (p0 : Int32) (sz : Nat) (a0 : 0 ≤ vs.toInt) (a1 : vs.toInt ≤ 12) (b0 : 0 ≤ p0.toInt) (b1 : p0.toInt ≤ 6) (va : mj_vs fv fn 0 vs.toNatClampNeg mu) (bd : ∀ v : Int32, mu v ≤ 1000000) : Met l yX3_cancel wsX3_cancel ({ frames := 2, cells := 0, slots := 0, locals := 90 }) (va_Pc [.ref h0, .int p0] (fun U => U.heap.size = sz ∧ va_P (dC, dI) vwCl [kx_3 h0 a_v a_n vs lo le, kx_a a_v cyI 12 fv, kx_a a_n cyI 12 fn] U.heap ∧ va_K (dC, dI) vwCl [(cyI, .int)] U ∧ va_D (fun _ => True) [kx_3 h0 a_v a_n vs lo le, kx_a a_v cyI 12 fv, kx_a a_n cyI 12 fn])) (va_Qv (fun u : Int32 × Int32 × Int32 × (Nat → Int32) × (Nat → Int32) × (Int32 → Int) => mj_can p0.toNatClampNeg mu u.2.2.2.2.2 u.2.2.1 ∧ u.2.1 = lo + u.2.2.1 ∧ 0 ≤ u.1.toInt ∧ u.1.toInt ≤ p0.toInt ∧ mj_vs u.2.2.2.1 u.2.2.2.2.1 0 u.1.toNatClampNeg u.2.2.2.2.2 ∧ mj_srt u.2.2.2.1 u.2.2.2.2.1 0 u.1.toNatClampNeg ∧ 0 ≤ u.2.2.1.toInt) (fun (u : Int32 × Int32 × Int32 × (Nat → Int32) × (Nat → Int32) × (Int32 → Int)) (t : State) => va_P (dC, dI) vwCl [kx_3 h0 a_v a_n u.1 u.2.1 u.2.2.1, kx_a a_v cyI 12 u.2.2.2.1, kx_a a_n cyI 12 u.2.2.2.2.1] t.heap ∧ va_K (dC, dI) vwCl [(cyI, .int)] t ∧ va_D (va_A [kx_3 h0 a_v a_n vs lo le, kx_a a_v cyI 12 fv, kx_a a_n cyI 12 fn] sz) [kx_3 h0 a_v a_n u.1 u.2.1 u.2.2.1, kx_a a_v cyI 12 u.2.2.2.1, kx_a a_n cyI 12 u.2.2.2.2.1]) (va_A [kx_3 h0 a_v a_n vs lo le, kx_a a_v cyI 12 fv, kx_a a_n cyI 12 fn] sz)) 0 0 (va_A [kx_3 h0 a_v a_n vs lo le, kx_a a_v cyI 12 fv, kx_a a_n cyI 12 fn] sz) := by
  refine Met.ofW (cc := cX3_cancel) (maxL := 4) (ret := none) (by decide) rfl ?_
  intro p e s m args below meth c s₁ B hml hv
  obtain ⟨rfl, hsz, hP, hK, hD0⟩ := hv
  have hx := B.exec
  have hb := B.bytes
  have hr := B.returns
  have hts := atoms_spec (ws := wsX3_cancel) B.pre
  have hown : s.vm.findClass RX3 = some m.cls := findClass_of_methodNamed B.named
  have hlocks := B.notSynchronized
  subst hsz
  have hD := hD0.self (sz := s.heap.size)
  generalize hAe : va_A [kx_3 h0 a_v a_n vs lo le, kx_a a_v cyI 12 fv, kx_a a_n cyI 12 fn] s.heap.size = A at hD ⊢
  have hA : ∀ q : Nat, s.heap.size ≤ q → A q := fun q h => by rw [← hAe]; exact Or.inr h
  have hS : va_S A s.heap s.heap [] := va_S.rf
  have hP : va_P (dC, dI) vwCl [kx_3 h0 a_v a_n vs lo le, kx_a a_v cyI 12 fv, kx_a a_n cyI 12 fn] s.heap := hP
  have hl := lv_entry ([.ref h0, .int p0]) (n := 4) (Nat.le_of_ble_eq_true rfl)
  rw [lg_entry_eq]
  generalize (lg_sl ([.ref h0, .int p0]) ++ List.replicate (4 - (lg_sl ([.ref h0, .int p0])).length) Slot.unset).toArray = ls at hl ⊢
  have hl : lv_has ls 4 [(0, .ref h0), (1, .int p0)] := hl
  have hf_18 := hts (.fieldLink RX3 18 "MajorityIndex$Votes" "size" "I") (List.mem_of_getElem? (i := 1) rfl)
  have hi_3 : ∀ w ∈ u_ws RX3 TX3 5, w ∈ wsX3_cancel := fun w h => List.mem_cons_of_mem _ (List.mem_append_right _ h)
  have hf_25 := hts (.fieldLink RX3 25 "MajorityIndex$Votes" "lessBy" "I") (List.mem_of_getElem? (i := 3) rfl)
  have hf_22 := hts (.fieldLink RX3 22 "MajorityIndex$Votes" "lost" "I") (List.mem_of_getElem? (i := 4) rfl)
  have hf_15 := hts (.fieldLink RX3 15 "MajorityIndex$Votes" "number" "[I") (List.mem_of_getElem? (i := 2) rfl)
  refine lv_aload_n hx hb dX3_cancel_0 rfl (lv_at hl 0 rfl) ?_
  have hPc := hP
  have hKc := hK
  have hDc := hD
  have hFc := kx_free hD hS hA
  refine va_callv (va_runV (As := []) (rest := []) ⟨hx, hb, hml, hown, hts⟩ (c_X3_order_x l dC dI h0 a_v a_n cyI vs lo le fv fn s.heap.size a0 a1) (cwV 0 hts gX3_cancel_X3_order rfl rfl rfl (by decide +kernel) ⟨Nat.le_of_ble_eq_true rfl, Nat.le_of_ble_eq_true rfl⟩) ⟨fun a U g mk q => by obtain ⟨q0, q1, qP, qK, qD⟩ := q; exact ⟨q0, q1, qP, va_K.moved (u := U) (U := U.calling g mk a) (Vm.Alike.refl U.vm) qK, qD⟩, va_recv hKc hPc (ci := 3) (q0 := 0) rfl rfl, fun U hU hW => ⟨rfl, by rw [hU], by rw [hU]; exact hPc, va_K.moved hW.alike hKc, hDc.weaken (fun _ _ _ _ => trivial)⟩⟩ rfl rfl hl.1 rfl (lv_room (Nat.le_of_ble_eq_true rfl)) dX3_cancel_1 ⟨Nat.le_of_ble_eq_true rfl, Nat.le_of_ble_eq_true rfl⟩) hS (fun q _ h => hFc q h) hFc (fun u t H1 locs ht hvm w_1 hB hz1 hk1 hS => ?_)
  obtain ⟨o_2, o_3⟩ := u
  dsimp only at w_1 hB
  obtain ⟨hP1, hK1, hD1⟩ := hB
  rw [ht] at hP1
  have hK1 := va_K.moved hvm.symm hK1
  have hD := hD1.weaken (fun _ q _ h => hFc q.1 h)
  have hP := hP1
  clear hP1 hD1 hK1 hk1 hz1 hFc hDc hPc hKc
  generalize H1 = H at hP hS ⊢
  have w_1 : mj_srt o_2 o_3 0 vs.toNatClampNeg ∧ ∀ mu : Int32 → Int, mj_vs fv fn 0 vs.toNatClampNeg mu → mj_vs o_2 o_3 0 vs.toNatClampNeg mu := w_1
  have n_vs := ki_nat vs rfl (om_8 a0)
  have n_p0 := ki_nat p0 rfl (om_8 b0)
  have hsum : mj_vs o_2 o_3 0 vs.toNatClampNeg mu := w_1.2 _ va
  have hbd := mj_bd hsum bd
  refine lv_aload_n hx hb dX3_cancel_4 rfl (lv_at hl 0 rfl) ?_
  refine lv_iload_n hx hb dX3_cancel_5 rfl (lv_at hl 1 rfl) ?_
  refine lv_if_lt (tgt := 26) hx hb dX3_cancel_6 (by decide) (fun c_4 => ?_) (fun c_4 => ?_)
  · have i_4 : p0.toInt < 0 := kc_lt c_4
    exfalso; omega
  · have i_4 : 0 ≤ p0.toInt := kc_nlt c_4
    refine lv_iload_n hx hb dX3_cancel_9 rfl (lv_at hl 1 rfl) ?_
    refine lv_aload_n hx hb dX3_cancel_10 rfl (lv_at hl 0 rfl) ?_
    refine va_get (D := (dC, dI)) (ci := 3) (v := .int vs) (C := RX3) (T := TX3) (N := 5) hx hb hts hi_3 hown hK hP 0 rfl rfl 2 (by decide) hf_18 (fun _ h9 => h9) rfl dX3_cancel_11 ?_
    refine lv_icmp_ge (tgt := 26) hx hb dX3_cancel_14 (by decide) (fun c_5 => ?_) (fun c_5 => ?_)
    · have i_5 : vs.toInt ≤ p0.toInt := kc_le c_5
      refine lv_iconst (v := 0) hx hb dX3_cancel_26 (by decide) ?_
      refine va_put (D := (dC, dI)) (ci := 3) (v := .int 0) (ty := .int) (C := RX3) (T := TX3) (N := 5) hx hb hts hi_3 tyX3 tyX3_ok nmX3 hown hK hP hD hS 0 rfl rfl 4 (by decide) hf_25 (fun _ h9 => h9) rfl (by decide +kernel) rfl rfl (Nat.le_of_ble_eq_true rfl) dX3_cancel_27 (fun H locs hP hD hS => ?_)
      have hP : va_P (dC, dI) vwCl [kx_3 h0 a_v a_n vs lo 0, kx_a a_v cyI 12 o_2, kx_a a_n cyI 12 o_3] H := hP
      have hD : va_D A [kx_3 h0 a_v a_n vs lo 0, kx_a a_v cyI 12 o_2, kx_a a_n cyI 12 o_3] := hD
      refine lv_aload_n hx hb dX3_cancel_30 rfl (lv_at hl 0 rfl) ?_
      refine lv_dup hx hb dX3_cancel_31 rfl ?_
      refine va_get (D := (dC, dI)) (ci := 3) (v := .int lo) (C := RX3) (T := TX3) (N := 5) hx hb hts hi_3 hown hK hP 0 rfl rfl 3 (by decide) hf_22 (fun _ h9 => h9) rfl dX3_cancel_32 ?_
      refine lv_aload_n hx hb dX3_cancel_35 rfl (lv_at hl 0 rfl) ?_
      refine va_get (D := (dC, dI)) (ci := 3) (v := .int 0) (C := RX3) (T := TX3) (N := 5) hx hb hts hi_3 hown hK hP 0 rfl rfl 4 (by decide) hf_25 (fun _ h9 => h9) rfl dX3_cancel_36 ?_
      refine lv_iadd hx hb dX3_cancel_39 ?_
      refine lv_topi (fun y_6 ey_6 => ?_)
      refine va_put (D := (dC, dI)) (ci := 3) (v := .int y_6) (ty := .int) (C := RX3) (T := TX3) (N := 5) hx hb hts hi_3 tyX3 tyX3_ok nmX3 hown hK hP hD hS 0 rfl rfl 3 (by decide) hf_22 (fun _ h9 => h9) rfl (by decide +kernel) rfl rfl (Nat.le_of_ble_eq_true rfl) dX3_cancel_40 (fun H locs hP hD hS => ?_)
      have hP : va_P (dC, dI) vwCl [kx_3 h0 a_v a_n vs y_6 0, kx_a a_v cyI 12 o_2, kx_a a_n cyI 12 o_3] H := hP
      have hD : va_D A [kx_3 h0 a_v a_n vs y_6 0, kx_a a_v cyI 12 o_2, kx_a a_n cyI 12 o_3] := hD
      refine lv_iconst (v := 0) hx hb dX3_cancel_43 (by decide) ?_
      refine lv_istore_n (lv' := [(2, .int 0), (0, .ref h0), (1, .int p0)]) hx hb dX3_cancel_44 rfl hl (by decide) rfl (fun ls hl => ?_)
      refine lv_iconst (v := 0) hx hb dX3_cancel_45 (by decide) ?_
      refine lv_istore_n (lv' := [(3, .int 0), (2, .int 0), (0, .ref h0), (1, .int p0)]) hx hb dX3_cancel_46 rfl hl (by decide) rfl (fun ls hl => ?_)
      have LP1 : ∀ (n : Nat) (lf : Int32) (k : Int32) (wn : Nat → Int32), (0 ≤ lf.toInt) → (0 ≤ k.toInt) → (k.toInt ≤ vs.toInt) → (mj_wc p0.toNatClampNeg o_3 0 lf.toNatClampNeg k.toNatClampNeg wn) → (vs.toInt - k.toInt).toNat < n → ∀ (H : Heap) (locs : List Loc), va_P (dC, dI) vwCl [kx_3 h0 a_v a_n vs y_6 0, kx_a a_v cyI 12 o_2, kx_a a_n cyI 12 wn] H → va_D A [kx_3 h0 a_v a_n vs y_6 0, kx_a a_v cyI 12 o_2, kx_a a_n cyI 12 wn] → va_S A s.heap H locs → ∀ (ls : Array Slot), lv_has ls 4 [(3, .int k), (2, .int lf), (0, .ref h0), (1, .int p0)] → W p l e (headSpec wsX3_cancel ({ frames := 2, cells := 0, slots := 0, locals := 90 })).room s m ([.ref h0, .int p0] : List Value).toArray below meth c H locs 0 0 (MQ below (va_Qv (fun u : Int32 × Int32 × Int32 × (Nat → Int32) × (Nat → Int32) × (Int32 → Int) => mj_can p0.toNatClampNeg mu u.2.2.2.2.2 u.2.2.1 ∧ u.2.1 = lo + u.2.2.1 ∧ 0 ≤ u.1.toInt ∧ u.1.toInt ≤ p0.toInt ∧ mj_vs u.2.2.2.1 u.2.2.2.2.1 0 u.1.toNatClampNeg u.2.2.2.2.2 ∧ mj_srt u.2.2.2.1 u.2.2.2.2.1 0 u.1.toNatClampNeg ∧ 0 ≤ u.2.2.1.toInt) (fun (u : Int32 × Int32 × Int32 × (Nat → Int32) × (Nat → Int32) × (Int32 → Int)) (t : State) => va_P (dC, dI) vwCl [kx_3 h0 a_v a_n u.1 u.2.1 u.2.2.1, kx_a a_v cyI 12 u.2.2.2.1, kx_a a_n cyI 12 u.2.2.2.2.1] t.heap ∧ va_K (dC, dI) vwCl [(cyI, .int)] t ∧ va_D A [kx_3 h0 a_v a_n u.1 u.2.1 u.2.2.1, kx_a a_v cyI 12 u.2.2.2.1, kx_a a_n cyI 12 u.2.2.2.2.1]) A) ([.ref h0, .int p0] : List Value).toArray s 0 0 A) (F0 m 47 ls []) := by
        intro n
        induction n with
        | zero => intro lf k wn LP1_h0 LP1_h1 LP1_h2 LP1_h3 hn; exact absurd hn (Nat.not_lt_zero _)
        | succ n ih1 =>
          intro lf k wn LP1_h0 LP1_h1 LP1_h2 LP1_h3 hn1 H locs hP hD hS ls hl
          have n_lf := ki_nat lf rfl (om_8 LP1_h0)
          have n_k := ki_nat k rfl (om_8 LP1_h1)
          have h_lf := LP1_h3.2.1
          have h_lk := LP1_h3.1
          refine lv_iload_n hx hb dX3_cancel_47 rfl (lv_at hl 0 rfl) ?_
          refine lv_aload_n hx hb dX3_cancel_48 rfl (lv_at hl 2 rfl) ?_
          refine va_get (D := (dC, dI)) (ci := 3) (v := .int vs) (C := RX3) (T := TX3) (N := 5) hx hb hts hi_3 hown hK hP 0 rfl rfl 2 (by decide) hf_18 (fun _ h9 => h9) rfl dX3_cancel_49 ?_
          refine lv_icmp_ge (tgt := 86) hx hb dX3_cancel_52 (by decide) (fun c_7 => ?_) (fun c_7 => ?_)
          · have i_7 : vs.toInt ≤ k.toInt := kc_le c_7
            refine lv_aload_n hx hb dX3_cancel_86 rfl (lv_at hl 2 rfl) ?_
            refine lv_iload_n hx hb dX3_cancel_87 rfl (lv_at hl 1 rfl) ?_
            refine va_put (D := (dC, dI)) (ci := 3) (v := .int lf) (ty := .int) (C := RX3) (T := TX3) (N := 5) hx hb hts hi_3 tyX3 tyX3_ok nmX3 hown hK hP hD hS 0 rfl rfl 2 (by decide) hf_18 (fun _ h9 => h9) rfl (by decide +kernel) rfl rfl (Nat.le_of_ble_eq_true rfl) dX3_cancel_88 (fun H locs hP hD hS => ?_)
            have hP : va_P (dC, dI) vwCl [kx_3 h0 a_v a_n lf y_6 0, kx_a a_v cyI 12 o_2, kx_a a_n cyI 12 wn] H := hP
            have hD : va_D A [kx_3 h0 a_v a_n lf y_6 0, kx_a a_v cyI 12 o_2, kx_a a_n cyI 12 wn] := hD
            have hP9 := hP
            have hD9 := hD
            have hK9 := hK
            have hen := mj_wc_end LP1_h3 (m := vs.toNatClampNeg) (by omega) hsum w_1.1 (by omega)
            exact W.vret hx hb hr (fun t ht hW => ⟨⟨(lf, y_6, 0, o_2, wn, (fun v => if (0 : Int) < mu v then mu v - 0 else 0)), rfl, ⟨⟨o_2, o_3, vs.toNatClampNeg, hsum, w_1.1, Or.inl ⟨(by omega), rfl⟩, (fun v => rfl)⟩, (by (try dsimp only); rw [ey_6]), (by (try dsimp only); omega), (by (try dsimp only); omega), hen.1, hen.2, (by (try dsimp only); decide)⟩, by rw [ht]; exact hP9, va_K.moved hW.alike hK9, hD9⟩, hS.F ht⟩) hS.2.2 dX3_cancel_91
          · have i_7 : k.toInt < vs.toInt := kc_nle c_7
            refine lv_aload_n hx hb dX3_cancel_55 rfl (lv_at hl 2 rfl) ?_
            refine va_get (D := (dC, dI)) (ci := 3) (v := .ref a_n) (C := RX3) (T := TX3) (N := 5) hx hb hts hi_3 hown hK hP 0 rfl rfl 1 (by decide) hf_15 (fun _ h9 => h9) rfl dX3_cancel_56 ?_
            refine lv_iload_n hx hb dX3_cancel_59 rfl (lv_at hl 0 rfl) ?_
            refine lv_dup2_11 hx hb dX3_cancel_60 rfl rfl ?_
            refine va_iald hx hb hK hP 2 0 rfl rfl (ki_in (om_8 LP1_h1) (om_29 a1 i_7)) dX3_cancel_61 ?_
            refine lv_topi (fun y_8 ey_8 => ?_)
            have j_8 : y_8.toInt = (wn k.toNatClampNeg).toInt := congrArg Int32.toInt ey_8
            have q_w : wn k.toNatClampNeg = o_3 k.toNatClampNeg := LP1_h3.2.2.2.2.2 _ (Nat.le_refl _)
            have g_9 : 0 < y_8.toInt ∧ y_8.toInt ≤ 1000000 := by rw [ey_8, q_w]; exact hbd k.toNatClampNeg (by omega)
            have q_k : y_8.toInt = (o_3 k.toNatClampNeg).toInt := by rw [ey_8, q_w]
            refine lv_aload_n hx hb dX3_cancel_62 rfl (lv_at hl 2 rfl) ?_
            refine va_get (D := (dC, dI)) (ci := 3) (v := .int 0) (C := RX3) (T := TX3) (N := 5) hx hb hts hi_3 hown hK hP 0 rfl rfl 4 (by decide) hf_25 (fun _ h9 => h9) rfl dX3_cancel_63 ?_
            refine lv_isub hx hb dX3_cancel_66 ?_
            refine lv_topi (fun y_10 ey_10 => ?_)
            have i_10 : y_10.toInt = y_8.toInt - 0 := ki_sub ey_10 rfl rfl (by omega) (by omega)
            refine va_iast hx hb hK hP hD hS 2 0 rfl rfl (ki_in (om_8 LP1_h1) (om_29 a1 i_7)) dX3_cancel_67 (fun H locs hP hD hS => ?_)
            have hP : va_P (dC, dI) vwCl [kx_3 h0 a_v a_n vs y_6 0, kx_a a_v cyI 12 o_2, kx_a a_n cyI 12 (upd wn k.toNatClampNeg y_10)] H := hP
            have hD : va_D A [kx_3 h0 a_v a_n vs y_6 0, kx_a a_v cyI 12 o_2, kx_a a_n cyI 12 (upd wn k.toNatClampNeg y_10)] := hD
            refine lv_aload_n hx hb dX3_cancel_68 rfl (lv_at hl 2 rfl) ?_
            refine va_get (D := (dC, dI)) (ci := 3) (v := .ref a_n) (C := RX3) (T := TX3) (N := 5) hx hb hts hi_3 hown hK hP 0 rfl rfl 1 (by decide) hf_15 (fun _ h9 => h9) rfl dX3_cancel_69 ?_
            refine lv_iload_n hx hb dX3_cancel_72 rfl (lv_at hl 0 rfl) ?_
            refine va_iald hx hb hK hP 2 0 rfl rfl (ki_in (om_8 LP1_h1) (om_29 a1 i_7)) dX3_cancel_73 ?_
            refine lv_topi (fun y_11 ey_11 => ?_)
            have j_11 : y_11.toInt = ((upd wn k.toNatClampNeg y_10) k.toNatClampNeg).toInt := congrArg Int32.toInt ey_11
            have q_t : y_11.toInt = y_10.toInt := by rw [ey_11, upd_at]
            refine lv_if_le (tgt := 80) hx hb dX3_cancel_74 (by decide) (fun c_12 => ?_) (fun c_12 => ?_)
            · have i_12 : y_11.toInt ≤ 0 := kc_le c_12
              obtain ⟨x_13, ex_13⟩ : ∃ y : Int32, y = k + 1 := ⟨_, rfl⟩
              have i_13 : x_13.toInt = k.toInt + 1 := ki_add ex_13 rfl rfl (om_10 LP1_h1) (om_30 a1 i_7)
              refine lv_iinc (v := x_13) (lv' := [(3, .int x_13), (2, .int lf), (0, .ref h0), (1, .int p0)]) hx hb dX3_cancel_80 hl (k := 0) rfl (by rw [ex_13]; rfl) (by decide) rfl (fun ls hl => ?_)
              refine lv_goto (tgt := 47) hx hb dX3_cancel_83 (by decide) ?_
              have n_14 := ki_nat x_13 rfl (om_31 LP1_h1 i_13)
              exact ih1 lf x_13 (upd wn k.toNatClampNeg y_10) (om_8 LP1_h0) (om_31 LP1_h1 i_13) (om_47 i_7 i_13) (mj_wc_step LP1_h3 w_1.1 (by omega) (by omega) (fun h => absurd h (by omega)) (by omega) (by omega)) (om_mu hn1 (om_5 i_13) (om_6 i_7)) _ _ hP hD hS ls (lv_sub hl [0, 1, 2, 3] rfl)
            · have i_12 : 0 < y_11.toInt := kc_nle c_12
              obtain ⟨x_15, ex_15⟩ : ∃ y : Int32, y = lf + 1 := ⟨_, rfl⟩
              have i_15 : x_15.toInt = lf.toInt + 1 := ki_add ex_15 rfl rfl (om_10 LP1_h0) (by omega)
              refine lv_iinc (v := x_15) (lv' := [(2, .int x_15), (3, .int k), (0, .ref h0), (1, .int p0)]) hx hb dX3_cancel_77 hl (k := 1) rfl (by rw [ex_15]; rfl) (by decide) rfl (fun ls hl => ?_)
              obtain ⟨x_16, ex_16⟩ : ∃ y : Int32, y = k + 1 := ⟨_, rfl⟩
              have i_16 : x_16.toInt = k.toInt + 1 := ki_add ex_16 rfl rfl (om_10 LP1_h1) (om_30 a1 i_7)
              refine lv_iinc (v := x_16) (lv' := [(3, .int x_16), (2, .int x_15), (0, .ref h0), (1, .int p0)]) hx hb dX3_cancel_80 hl (k := 1) rfl (by rw [ex_16]; rfl) (by decide) rfl (fun ls hl => ?_)
              refine lv_goto (tgt := 47) hx hb dX3_cancel_83 (by decide) ?_
              have n_17 := ki_nat x_16 rfl (om_31 LP1_h1 i_16)
              have n_18 := ki_nat x_15 rfl (om_31 LP1_h0 i_15)
              exact ih1 x_15 x_16 (upd wn k.toNatClampNeg y_10) (om_31 LP1_h0 i_15) (om_31 LP1_h1 i_16) (om_47 i_7 i_16) (mj_wc_step LP1_h3 w_1.1 (by omega) (by omega) (fun h => absurd h (by omega)) (by omega) (by omega)) (om_mu hn1 (om_5 i_16) (om_6 i_7)) _ _ hP hD hS ls (lv_sub hl [0, 1, 2, 3] rfl)
      have k_19 : (0 : Int32).toInt = 0 := rfl
      have k_20 : (0 : Int32).toInt = 0 := rfl
      exact LP1 ((vs.toInt - 0 : Int).toNat + 1) 0 0 o_3 om_32 om_32 (om_8 a0) (mj_wc_0 _ _ _ rfl rfl) (Nat.lt_succ_self _) _ _ hP hD hS ls (lv_sub hl [0, 1, 2, 3] rfl)
    · have i_5 : p0.toInt < vs.toInt := kc_nle c_5
      refine lv_aload_n hx hb dX3_cancel_17 rfl (lv_at hl 0 rfl) ?_
      refine va_get (D := (dC, dI)) (ci := 3) (v := .ref a_n) (C := RX3) (T := TX3) (N := 5) hx hb hts hi_3 hown hK hP 0 rfl rfl 1 (by decide) hf_15 (fun _ h9 => h9) rfl dX3_cancel_18 ?_
      refine lv_iload_n hx hb dX3_cancel_21 rfl (lv_at hl 1 rfl) ?_
      refine va_iald hx hb hK hP 2 0 rfl rfl (ki_in (om_8 b0) (om_216 b1)) dX3_cancel_22 ?_
      refine lv_topi (fun y_21 ey_21 => ?_)
      have j_21 : y_21.toInt = (o_3 p0.toNatClampNeg).toInt := congrArg Int32.toInt ey_21
      have g_22 : 0 < y_21.toInt ∧ y_21.toInt ≤ 1000000 := by rw [ey_21]; exact hbd p0.toNatClampNeg (by omega)
      refine lv_goto (tgt := 27) hx hb dX3_cancel_23 (by decide) ?_
      refine va_put (D := (dC, dI)) (ci := 3) (v := .int y_21) (ty := .int) (C := RX3) (T := TX3) (N := 5) hx hb hts hi_3 tyX3 tyX3_ok nmX3 hown hK hP hD hS 0 rfl rfl 4 (by decide) hf_25 (fun _ h9 => h9) rfl (by decide +kernel) rfl rfl (Nat.le_of_ble_eq_true rfl) dX3_cancel_27 (fun H locs hP hD hS => ?_)
      have hP : va_P (dC, dI) vwCl [kx_3 h0 a_v a_n vs lo y_21, kx_a a_v cyI 12 o_2, kx_a a_n cyI 12 o_3] H := hP
      have hD : va_D A [kx_3 h0 a_v a_n vs lo y_21, kx_a a_v cyI 12 o_2, kx_a a_n cyI 12 o_3] := hD
      refine lv_aload_n hx hb dX3_cancel_30 rfl (lv_at hl 0 rfl) ?_
      refine lv_dup hx hb dX3_cancel_31 rfl ?_
      refine va_get (D := (dC, dI)) (ci := 3) (v := .int lo) (C := RX3) (T := TX3) (N := 5) hx hb hts hi_3 hown hK hP 0 rfl rfl 3 (by decide) hf_22 (fun _ h9 => h9) rfl dX3_cancel_32 ?_
      refine lv_aload_n hx hb dX3_cancel_35 rfl (lv_at hl 0 rfl) ?_
      refine va_get (D := (dC, dI)) (ci := 3) (v := .int y_21) (C := RX3) (T := TX3) (N := 5) hx hb hts hi_3 hown hK hP 0 rfl rfl 4 (by decide) hf_25 (fun _ h9 => h9) rfl dX3_cancel_36 ?_
      refine lv_iadd hx hb dX3_cancel_39 ?_
      refine lv_topi (fun y_23 ey_23 => ?_)
      refine va_put (D := (dC, dI)) (ci := 3) (v := .int y_23) (ty := .int) (C := RX3) (T := TX3) (N := 5) hx hb hts hi_3 tyX3 tyX3_ok nmX3 hown hK hP hD hS 0 rfl rfl 3 (by decide) hf_22 (fun _ h9 => h9) rfl (by decide +kernel) rfl rfl (Nat.le_of_ble_eq_true rfl) dX3_cancel_40 (fun H locs hP hD hS => ?_)
      have hP : va_P (dC, dI) vwCl [kx_3 h0 a_v a_n vs y_23 y_21, kx_a a_v cyI 12 o_2, kx_a a_n cyI 12 o_3] H := hP
      have hD : va_D A [kx_3 h0 a_v a_n vs y_23 y_21, kx_a a_v cyI 12 o_2, kx_a a_n cyI 12 o_3] := hD
      refine lv_iconst (v := 0) hx hb dX3_cancel_43 (by decide) ?_
      refine lv_istore_n (lv' := [(2, .int 0), (0, .ref h0), (1, .int p0)]) hx hb dX3_cancel_44 rfl hl (by decide) rfl (fun ls hl => ?_)
      refine lv_iconst (v := 0) hx hb dX3_cancel_45 (by decide) ?_
      refine lv_istore_n (lv' := [(3, .int 0), (2, .int 0), (0, .ref h0), (1, .int p0)]) hx hb dX3_cancel_46 rfl hl (by decide) rfl (fun ls hl => ?_)
      have LP2 : ∀ (n : Nat) (lf : Int32) (k : Int32) (wn : Nat → Int32), (0 ≤ lf.toInt) → (0 ≤ k.toInt) → (k.toInt ≤ vs.toInt) → (mj_wc p0.toNatClampNeg o_3 y_21.toInt lf.toNatClampNeg k.toNatClampNeg wn) → (vs.toInt - k.toInt).toNat < n → ∀ (H : Heap) (locs : List Loc), va_P (dC, dI) vwCl [kx_3 h0 a_v a_n vs y_23 y_21, kx_a a_v cyI 12 o_2, kx_a a_n cyI 12 wn] H → va_D A [kx_3 h0 a_v a_n vs y_23 y_21, kx_a a_v cyI 12 o_2, kx_a a_n cyI 12 wn] → va_S A s.heap H locs → ∀ (ls : Array Slot), lv_has ls 4 [(3, .int k), (2, .int lf), (0, .ref h0), (1, .int p0)] → W p l e (headSpec wsX3_cancel ({ frames := 2, cells := 0, slots := 0, locals := 90 })).room s m ([.ref h0, .int p0] : List Value).toArray below meth c H locs 0 0 (MQ below (va_Qv (fun u : Int32 × Int32 × Int32 × (Nat → Int32) × (Nat → Int32) × (Int32 → Int) => mj_can p0.toNatClampNeg mu u.2.2.2.2.2 u.2.2.1 ∧ u.2.1 = lo + u.2.2.1 ∧ 0 ≤ u.1.toInt ∧ u.1.toInt ≤ p0.toInt ∧ mj_vs u.2.2.2.1 u.2.2.2.2.1 0 u.1.toNatClampNeg u.2.2.2.2.2 ∧ mj_srt u.2.2.2.1 u.2.2.2.2.1 0 u.1.toNatClampNeg ∧ 0 ≤ u.2.2.1.toInt) (fun (u : Int32 × Int32 × Int32 × (Nat → Int32) × (Nat → Int32) × (Int32 → Int)) (t : State) => va_P (dC, dI) vwCl [kx_3 h0 a_v a_n u.1 u.2.1 u.2.2.1, kx_a a_v cyI 12 u.2.2.2.1, kx_a a_n cyI 12 u.2.2.2.2.1] t.heap ∧ va_K (dC, dI) vwCl [(cyI, .int)] t ∧ va_D A [kx_3 h0 a_v a_n u.1 u.2.1 u.2.2.1, kx_a a_v cyI 12 u.2.2.2.1, kx_a a_n cyI 12 u.2.2.2.2.1]) A) ([.ref h0, .int p0] : List Value).toArray s 0 0 A) (F0 m 47 ls []) := by
        intro n
        induction n with
        | zero => intro lf k wn LP2_h0 LP2_h1 LP2_h2 LP2_h3 hn; exact absurd hn (Nat.not_lt_zero _)
        | succ n ih2 =>
          intro lf k wn LP2_h0 LP2_h1 LP2_h2 LP2_h3 hn2 H locs hP hD hS ls hl
          have n_lf := ki_nat lf rfl (om_8 LP2_h0)
          have n_k := ki_nat k rfl (om_8 LP2_h1)
          have h_lf := LP2_h3.2.1
          have h_lk := LP2_h3.1
          refine lv_iload_n hx hb dX3_cancel_47 rfl (lv_at hl 0 rfl) ?_
          refine lv_aload_n hx hb dX3_cancel_48 rfl (lv_at hl 2 rfl) ?_
          refine va_get (D := (dC, dI)) (ci := 3) (v := .int vs) (C := RX3) (T := TX3) (N := 5) hx hb hts hi_3 hown hK hP 0 rfl rfl 2 (by decide) hf_18 (fun _ h9 => h9) rfl dX3_cancel_49 ?_
          refine lv_icmp_ge (tgt := 86) hx hb dX3_cancel_52 (by decide) (fun c_24 => ?_) (fun c_24 => ?_)
          · have i_24 : vs.toInt ≤ k.toInt := kc_le c_24
            refine lv_aload_n hx hb dX3_cancel_86 rfl (lv_at hl 2 rfl) ?_
            refine lv_iload_n hx hb dX3_cancel_87 rfl (lv_at hl 1 rfl) ?_
            refine va_put (D := (dC, dI)) (ci := 3) (v := .int lf) (ty := .int) (C := RX3) (T := TX3) (N := 5) hx hb hts hi_3 tyX3 tyX3_ok nmX3 hown hK hP hD hS 0 rfl rfl 2 (by decide) hf_18 (fun _ h9 => h9) rfl (by decide +kernel) rfl rfl (Nat.le_of_ble_eq_true rfl) dX3_cancel_88 (fun H locs hP hD hS => ?_)
            have hP : va_P (dC, dI) vwCl [kx_3 h0 a_v a_n lf y_23 y_21, kx_a a_v cyI 12 o_2, kx_a a_n cyI 12 wn] H := hP
            have hD : va_D A [kx_3 h0 a_v a_n lf y_23 y_21, kx_a a_v cyI 12 o_2, kx_a a_n cyI 12 wn] := hD
            have hP9 := hP
            have hD9 := hD
            have hK9 := hK
            have hen := mj_wc_end LP2_h3 (m := vs.toNatClampNeg) (by omega) hsum w_1.1 (by omega)
            exact W.vret hx hb hr (fun t ht hW => ⟨⟨(lf, y_23, y_21, o_2, wn, (fun v => if (y_21.toInt : Int) < mu v then mu v - y_21.toInt else 0)), rfl, ⟨⟨o_2, o_3, vs.toNatClampNeg, hsum, w_1.1, Or.inr ⟨(by omega), ey_21⟩, (fun v => rfl)⟩, (by (try dsimp only); rw [ey_23]), (by (try dsimp only); omega), (by (try dsimp only); omega), hen.1, hen.2, (by (try dsimp only); omega)⟩, by rw [ht]; exact hP9, va_K.moved hW.alike hK9, hD9⟩, hS.F ht⟩) hS.2.2 dX3_cancel_91
          · have i_24 : k.toInt < vs.toInt := kc_nle c_24
            refine lv_aload_n hx hb dX3_cancel_55 rfl (lv_at hl 2 rfl) ?_
            refine va_get (D := (dC, dI)) (ci := 3) (v := .ref a_n) (C := RX3) (T := TX3) (N := 5) hx hb hts hi_3 hown hK hP 0 rfl rfl 1 (by decide) hf_15 (fun _ h9 => h9) rfl dX3_cancel_56 ?_
            refine lv_iload_n hx hb dX3_cancel_59 rfl (lv_at hl 0 rfl) ?_
            refine lv_dup2_11 hx hb dX3_cancel_60 rfl rfl ?_
            refine va_iald hx hb hK hP 2 0 rfl rfl (ki_in (om_8 LP2_h1) (om_29 a1 i_24)) dX3_cancel_61 ?_
            refine lv_topi (fun y_25 ey_25 => ?_)
            have j_25 : y_25.toInt = (wn k.toNatClampNeg).toInt := congrArg Int32.toInt ey_25
            have q_w : wn k.toNatClampNeg = o_3 k.toNatClampNeg := LP2_h3.2.2.2.2.2 _ (Nat.le_refl _)
            have g_26 : 0 < y_25.toInt ∧ y_25.toInt ≤ 1000000 := by rw [ey_25, q_w]; exact hbd k.toNatClampNeg (by omega)
            have q_k : y_25.toInt = (o_3 k.toNatClampNeg).toInt := by rw [ey_25, q_w]
            refine lv_aload_n hx hb dX3_cancel_62 rfl (lv_at hl 2 rfl) ?_
            refine va_get (D := (dC, dI)) (ci := 3) (v := .int y_21) (C := RX3) (T := TX3) (N := 5) hx hb hts hi_3 hown hK hP 0 rfl rfl 4 (by decide) hf_25 (fun _ h9 => h9) rfl dX3_cancel_63 ?_
            refine lv_isub hx hb dX3_cancel_66 ?_
            refine lv_topi (fun y_27 ey_27 => ?_)
            have i_27 : y_27.toInt = y_25.toInt - y_21.toInt := ki_sub ey_27 rfl rfl (by omega) (by omega)
            refine va_iast hx hb hK hP hD hS 2 0 rfl rfl (ki_in (om_8 LP2_h1) (om_29 a1 i_24)) dX3_cancel_67 (fun H locs hP hD hS => ?_)
            have hP : va_P (dC, dI) vwCl [kx_3 h0 a_v a_n vs y_23 y_21, kx_a a_v cyI 12 o_2, kx_a a_n cyI 12 (upd wn k.toNatClampNeg y_27)] H := hP
            have hD : va_D A [kx_3 h0 a_v a_n vs y_23 y_21, kx_a a_v cyI 12 o_2, kx_a a_n cyI 12 (upd wn k.toNatClampNeg y_27)] := hD
            refine lv_aload_n hx hb dX3_cancel_68 rfl (lv_at hl 2 rfl) ?_
            refine va_get (D := (dC, dI)) (ci := 3) (v := .ref a_n) (C := RX3) (T := TX3) (N := 5) hx hb hts hi_3 hown hK hP 0 rfl rfl 1 (by decide) hf_15 (fun _ h9 => h9) rfl dX3_cancel_69 ?_
            refine lv_iload_n hx hb dX3_cancel_72 rfl (lv_at hl 0 rfl) ?_
            refine va_iald hx hb hK hP 2 0 rfl rfl (ki_in (om_8 LP2_h1) (om_29 a1 i_24)) dX3_cancel_73 ?_
            refine lv_topi (fun y_28 ey_28 => ?_)
            have j_28 : y_28.toInt = ((upd wn k.toNatClampNeg y_27) k.toNatClampNeg).toInt := congrArg Int32.toInt ey_28
            have q_t : y_28.toInt = y_27.toInt := by rw [ey_28, upd_at]
            refine lv_if_le (tgt := 80) hx hb dX3_cancel_74 (by decide) (fun c_29 => ?_) (fun c_29 => ?_)
            · have i_29 : y_28.toInt ≤ 0 := kc_le c_29
              obtain ⟨x_30, ex_30⟩ : ∃ y : Int32, y = k + 1 := ⟨_, rfl⟩
              have i_30 : x_30.toInt = k.toInt + 1 := ki_add ex_30 rfl rfl (om_10 LP2_h1) (om_46 a1 LP2_h2)
              refine lv_iinc (v := x_30) (lv' := [(3, .int x_30), (2, .int lf), (0, .ref h0), (1, .int p0)]) hx hb dX3_cancel_80 hl (k := 0) rfl (by rw [ex_30]; rfl) (by decide) rfl (fun ls hl => ?_)
              refine lv_goto (tgt := 47) hx hb dX3_cancel_83 (by decide) ?_
              have n_31 := ki_nat x_30 rfl (om_31 LP2_h1 i_30)
              exact ih2 lf x_30 (upd wn k.toNatClampNeg y_27) (om_8 LP2_h0) (om_31 LP2_h1 i_30) (om_47 i_24 i_30) (mj_wc_step LP2_h3 w_1.1 (by omega) (by omega) (fun _ => j_21) (by omega) (by omega)) (om_mu hn2 (om_5 i_30) (om_6 i_24)) _ _ hP hD hS ls (lv_sub hl [0, 1, 2, 3] rfl)
            · have i_29 : 0 < y_28.toInt := kc_nle c_29
              obtain ⟨x_32, ex_32⟩ : ∃ y : Int32, y = lf + 1 := ⟨_, rfl⟩
              have i_32 : x_32.toInt = lf.toInt + 1 := ki_add ex_32 rfl rfl (om_10 LP2_h0) (by omega)
              refine lv_iinc (v := x_32) (lv' := [(2, .int x_32), (3, .int k), (0, .ref h0), (1, .int p0)]) hx hb dX3_cancel_77 hl (k := 1) rfl (by rw [ex_32]; rfl) (by decide) rfl (fun ls hl => ?_)
              obtain ⟨x_33, ex_33⟩ : ∃ y : Int32, y = k + 1 := ⟨_, rfl⟩
              have i_33 : x_33.toInt = k.toInt + 1 := ki_add ex_33 rfl rfl (om_10 LP2_h1) (om_46 a1 LP2_h2)
              refine lv_iinc (v := x_33) (lv' := [(3, .int x_33), (2, .int x_32), (0, .ref h0), (1, .int p0)]) hx hb dX3_cancel_80 hl (k := 1) rfl (by rw [ex_33]; rfl) (by decide) rfl (fun ls hl => ?_)
              refine lv_goto (tgt := 47) hx hb dX3_cancel_83 (by decide) ?_
              have n_34 := ki_nat x_33 rfl (om_31 LP2_h1 i_33)
              have n_35 := ki_nat x_32 rfl (om_31 LP2_h0 i_32)
              exact ih2 x_32 x_33 (upd wn k.toNatClampNeg y_27) (om_31 LP2_h0 i_32) (om_31 LP2_h1 i_33) (om_47 i_24 i_33) (mj_wc_step LP2_h3 w_1.1 (by omega) (by omega) (fun _ => j_21) (by omega) (by omega)) (om_mu hn2 (om_5 i_33) (om_6 i_24)) _ _ hP hD hS ls (lv_sub hl [0, 1, 2, 3] rfl)
      have k_36 : (0 : Int32).toInt = 0 := rfl
      have k_37 : (0 : Int32).toInt = 0 := rfl
      exact LP2 ((vs.toInt - 0 : Int).toNat + 1) 0 0 o_3 om_32 om_32 (om_8 a0) (mj_wc_0 _ _ _ rfl rfl) (Nat.lt_succ_self _) _ _ hP hD hS ls (lv_sub hl [0, 1, 2, 3] rfl)

set_option maxHeartbeats 4000000 in
set_option maxRecDepth 100000 in
theorem c_X2_joinNode_x (l : Launch) (dC : Nat → ClassId) (dI : Nat → Nat → Nat) (q_t : Nat) (q_row : Nat) (q_joined : Nat) (q_from : Nat) (q_to : Nat) (q_size : Nat) (q_lossOf : Nat) (q_lessBy : Nat) (q_value : Nat) (q_number : Nat) (nodes : Int32) (here : Int32) (h0 : Nat) (a_v : Nat) (a_n : Nat) (cyI : ClassId) (vs : Int32) (lo : Int32) (le : Int32) (fv : Nat → Int32) (fn : Nat → Int32) (fs : Nat → Int32) (fo : Nat → Int32) (uv : Nat → Int32) (un : Nat → Int32) (mua : Int32 → Int) (mub : Int32 → Int) (p0 : Int32) (sz : Nat) (b0 : 0 ≤ p0.toInt) (b1 : p0.toInt < 319) (n0 : 0 ≤ vs.toInt) (n1 : vs.toInt ≤ 6) (n2 : 0 ≤ (fs p0.toNatClampNeg).toInt) (n3 : (fs p0.toNatClampNeg).toInt ≤ 6) (va : mj_vs fv fn 0 vs.toNatClampNeg mua) (vb : mj_vs uv un (6 * p0.toNatClampNeg) (fs p0.toNatClampNeg).toNatClampNeg mub) (bd : ∀ v : Int32, mua v + mub v ≤ 1000000) : Met l yX2_joinNode wsX2_joinNode ({ frames := 1, cells := 0, slots := 0, locals := 45 }) (va_Pc [.ref q_t, .ref h0, .int p0] (fun U => U.heap.size = sz ∧ va_P (dC, dI) vwCl [kx_2 q_t q_row q_joined q_from q_to q_size q_lossOf q_lessBy q_value q_number nodes here, kx_a q_size cyI 319 fs, kx_a q_lossOf cyI 319 fo, kx_a q_value cyI 1914 uv, kx_a q_number cyI 1914 un, kx_3 h0 a_v a_n vs lo le, kx_a a_v cyI 12 fv, kx_a a_n cyI 12 fn] U.heap ∧ va_K (dC, dI) vwCl [(cyI, .int)] U ∧ va_D (fun _ => True) [kx_2 q_t q_row q_joined q_from q_to q_size q_lossOf q_lessBy q_value q_number nodes here, kx_a q_size cyI 319 fs, kx_a q_lossOf cyI 319 fo, kx_a q_value cyI 1914 uv, kx_a q_number cyI 1914 un, kx_3 h0 a_v a_n vs lo le, kx_a a_v cyI 12 fv, kx_a a_n cyI 12 fn])) (va_Qv (fun u : Int32 × Int32 × (Nat → Int32) × (Nat → Int32) => mj_vs u.2.2.1 u.2.2.2 0 u.1.toNatClampNeg (fun w => mua w + mub w) ∧ u.2.1 = lo + fo p0.toNatClampNeg ∧ 0 ≤ u.1.toInt ∧ u.1.toInt ≤ vs.toInt + (fs p0.toNatClampNeg).toInt) (fun (u : Int32 × Int32 × (Nat → Int32) × (Nat → Int32)) (t : State) => va_P (dC, dI) vwCl [kx_2 q_t q_row q_joined q_from q_to q_size q_lossOf q_lessBy q_value q_number nodes here, kx_a q_size cyI 319 fs, kx_a q_lossOf cyI 319 fo, kx_a q_value cyI 1914 uv, kx_a q_number cyI 1914 un, kx_3 h0 a_v a_n u.1 u.2.1 le, kx_a a_v cyI 12 u.2.2.1, kx_a a_n cyI 12 u.2.2.2] t.heap ∧ va_K (dC, dI) vwCl [(cyI, .int)] t ∧ va_D (va_A [kx_2 q_t q_row q_joined q_from q_to q_size q_lossOf q_lessBy q_value q_number nodes here, kx_a q_size cyI 319 fs, kx_a q_lossOf cyI 319 fo, kx_a q_value cyI 1914 uv, kx_a q_number cyI 1914 un, kx_3 h0 a_v a_n vs lo le, kx_a a_v cyI 12 fv, kx_a a_n cyI 12 fn] sz) [kx_2 q_t q_row q_joined q_from q_to q_size q_lossOf q_lessBy q_value q_number nodes here, kx_a q_size cyI 319 fs, kx_a q_lossOf cyI 319 fo, kx_a q_value cyI 1914 uv, kx_a q_number cyI 1914 un, kx_3 h0 a_v a_n u.1 u.2.1 le, kx_a a_v cyI 12 u.2.2.1, kx_a a_n cyI 12 u.2.2.2]) (va_A [kx_2 q_t q_row q_joined q_from q_to q_size q_lossOf q_lessBy q_value q_number nodes here, kx_a q_size cyI 319 fs, kx_a q_lossOf cyI 319 fo, kx_a q_value cyI 1914 uv, kx_a q_number cyI 1914 un, kx_3 h0 a_v a_n vs lo le, kx_a a_v cyI 12 fv, kx_a a_n cyI 12 fn] sz)) 0 0 (va_A [kx_2 q_t q_row q_joined q_from q_to q_size q_lossOf q_lessBy q_value q_number nodes here, kx_a q_size cyI 319 fs, kx_a q_lossOf cyI 319 fo, kx_a q_value cyI 1914 uv, kx_a q_number cyI 1914 un, kx_3 h0 a_v a_n vs lo le, kx_a a_v cyI 12 fv, kx_a a_n cyI 12 fn] sz) := by
  refine Met.ofW (cc := cX2_joinNode) (maxL := 5) (ret := none) (by decide) rfl ?_
  intro p e s m args below meth c s₁ B hml hv
  obtain ⟨rfl, hsz, hP, hK, hD0⟩ := hv
  have hx := B.exec
  have hb := B.bytes
  have hr := B.returns
  have hts := atoms_spec (ws := wsX2_joinNode) B.pre
  have hown : s.vm.findClass RX2 = some m.cls := findClass_of_methodNamed B.named
  have hlocks := B.notSynchronized
  subst hsz
  have hD := hD0.self (sz := s.heap.size)
  generalize hAe : va_A [kx_2 q_t q_row q_joined q_from q_to q_size q_lossOf q_lessBy q_value q_number nodes here, kx_a q_size cyI 319 fs, kx_a q_lossOf cyI 319 fo, kx_a q_value cyI 1914 uv, kx_a q_number cyI 1914 un, kx_3 h0 a_v a_n vs lo le, kx_a a_v cyI 12 fv, kx_a a_n cyI 12 fn] s.heap.size = A at hD ⊢
  have hA : ∀ q : Nat, s.heap.size ≤ q → A q := fun q h => by rw [← hAe]; exact Or.inr h
  have hS : va_S A s.heap s.heap [] := va_S.rf
  have hP : va_P (dC, dI) vwCl [kx_2 q_t q_row q_joined q_from q_to q_size q_lossOf q_lessBy q_value q_number nodes here, kx_a q_size cyI 319 fs, kx_a q_lossOf cyI 319 fo, kx_a q_value cyI 1914 uv, kx_a q_number cyI 1914 un, kx_3 h0 a_v a_n vs lo le, kx_a a_v cyI 12 fv, kx_a a_n cyI 12 fn] s.heap := hP
  have hl := lv_entry ([.ref q_t, .ref h0, .int p0]) (n := 5) (Nat.le_of_ble_eq_true rfl)
  rw [lg_entry_eq]
  generalize (lg_sl ([.ref q_t, .ref h0, .int p0]) ++ List.replicate (5 - (lg_sl ([.ref q_t, .ref h0, .int p0])).length) Slot.unset).toArray = ls at hl ⊢
  have hl : lv_has ls 5 [(0, .ref q_t), (1, .ref h0), (2, .int p0)] := hl
  have hf_25 := hts (.fieldLink RX2 25 "MajorityIndex$Tree" "size" "[I") (List.mem_of_getElem? (i := 1) rfl)
  have hi_2 : ∀ w ∈ u_ws RX2 TX2 11, w ∈ wsX2_joinNode := fun w h => List.mem_cons_of_mem _ (List.mem_append_left _ (List.mem_append_right _ h))
  have hf_91 := hts (.fieldLink RX2 91 "MajorityIndex$Votes" "lost" "I") (List.mem_of_getElem? (i := 4) rfl)
  have hi_3 : ∀ w ∈ u_ws RX3 TX3 5, w ∈ wsX2_joinNode := fun w h => List.mem_cons_of_mem _ (List.mem_append_right _ h)
  have hf_28 := hts (.fieldLink RX2 28 "MajorityIndex$Tree" "lossOf" "[I") (List.mem_of_getElem? (i := 5) rfl)
  have hf_34 := hts (.fieldLink RX2 34 "MajorityIndex$Tree" "value" "[I") (List.mem_of_getElem? (i := 2) rfl)
  have hf_37 := hts (.fieldLink RX2 37 "MajorityIndex$Tree" "number" "[I") (List.mem_of_getElem? (i := 3) rfl)
  have n_p0 := ki_nat p0 rfl (om_8 b0)
  have n_fs := ki_nat (fs p0.toNatClampNeg) rfl (om_8 n2)
  refine lv_iload_n hx hb dX2_joinNode_0 rfl (lv_at hl 2 rfl) ?_
  refine lv_bipush (v := 6) hx hb dX2_joinNode_1 (by decide) ?_
  refine lv_imul hx hb dX2_joinNode_3 ?_
  refine lv_topi (fun y_1 ey_1 => ?_)
  have i_1 : y_1.toInt = p0.toInt * 6 := ki_mul ey_1 rfl rfl (om_76 b0) (om_77 b1)
  refine lv_istore_n (lv' := [(3, .int y_1), (0, .ref q_t), (1, .ref h0), (2, .int p0)]) hx hb dX2_joinNode_4 rfl hl (by decide) rfl (fun ls hl => ?_)
  refine lv_iconst (v := 0) hx hb dX2_joinNode_5 (by decide) ?_
  refine lv_istore (lv' := [(4, .int 0), (3, .int y_1), (0, .ref q_t), (1, .ref h0), (2, .int p0)]) hx hb dX2_joinNode_6 hl (by decide) rfl (fun ls hl => ?_)
  have LP1 : ∀ (n : Nat) (i : Int32) (zz : Int32) (yv : Nat → Int32) (yn : Nat → Int32), (0 ≤ i.toInt) → (i.toInt ≤ (fs p0.toNatClampNeg).toInt) → (0 ≤ zz.toInt) → (zz.toInt ≤ vs.toInt + i.toInt) → (mj_vs yv yn 0 zz.toNatClampNeg (fun w => mua w + mj_pm uv un (6 * p0.toNatClampNeg) i.toNatClampNeg w)) → ((fs p0.toNatClampNeg).toInt - i.toInt).toNat < n → ∀ (H : Heap) (locs : List Loc), va_P (dC, dI) vwCl [kx_2 q_t q_row q_joined q_from q_to q_size q_lossOf q_lessBy q_value q_number nodes here, kx_a q_size cyI 319 fs, kx_a q_lossOf cyI 319 fo, kx_a q_value cyI 1914 uv, kx_a q_number cyI 1914 un, kx_3 h0 a_v a_n zz lo le, kx_a a_v cyI 12 yv, kx_a a_n cyI 12 yn] H → va_D A [kx_2 q_t q_row q_joined q_from q_to q_size q_lossOf q_lessBy q_value q_number nodes here, kx_a q_size cyI 319 fs, kx_a q_lossOf cyI 319 fo, kx_a q_value cyI 1914 uv, kx_a q_number cyI 1914 un, kx_3 h0 a_v a_n zz lo le, kx_a a_v cyI 12 yv, kx_a a_n cyI 12 yn] → va_S A s.heap H locs → ∀ (ls : Array Slot), lv_has ls 5 [(4, .int i), (3, .int y_1), (0, .ref q_t), (1, .ref h0), (2, .int p0)] → W p l e (headSpec wsX2_joinNode ({ frames := 1, cells := 0, slots := 0, locals := 45 })).room s m ([.ref q_t, .ref h0, .int p0] : List Value).toArray below meth c H locs 0 0 (MQ below (va_Qv (fun u : Int32 × Int32 × (Nat → Int32) × (Nat → Int32) => mj_vs u.2.2.1 u.2.2.2 0 u.1.toNatClampNeg (fun w => mua w + mub w) ∧ u.2.1 = lo + fo p0.toNatClampNeg ∧ 0 ≤ u.1.toInt ∧ u.1.toInt ≤ vs.toInt + (fs p0.toNatClampNeg).toInt) (fun (u : Int32 × Int32 × (Nat → Int32) × (Nat → Int32)) (t : State) => va_P (dC, dI) vwCl [kx_2 q_t q_row q_joined q_from q_to q_size q_lossOf q_lessBy q_value q_number nodes here, kx_a q_size cyI 319 fs, kx_a q_lossOf cyI 319 fo, kx_a q_value cyI 1914 uv, kx_a q_number cyI 1914 un, kx_3 h0 a_v a_n u.1 u.2.1 le, kx_a a_v cyI 12 u.2.2.1, kx_a a_n cyI 12 u.2.2.2] t.heap ∧ va_K (dC, dI) vwCl [(cyI, .int)] t ∧ va_D A [kx_2 q_t q_row q_joined q_from q_to q_size q_lossOf q_lessBy q_value q_number nodes here, kx_a q_size cyI 319 fs, kx_a q_lossOf cyI 319 fo, kx_a q_value cyI 1914 uv, kx_a q_number cyI 1914 un, kx_3 h0 a_v a_n u.1 u.2.1 le, kx_a a_v cyI 12 u.2.2.1, kx_a a_n cyI 12 u.2.2.2]) A) ([.ref q_t, .ref h0, .int p0] : List Value).toArray s 0 0 A) (F0 m 8 ls []) := by
    intro n
    induction n with
    | zero => intro i zz yv yn LP1_h0 LP1_h1 LP1_h2 LP1_h3 LP1_h4 hn; exact absurd hn (Nat.not_lt_zero _)
    | succ n ih1 =>
      intro i zz yv yn LP1_h0 LP1_h1 LP1_h2 LP1_h3 LP1_h4 hn1 H locs hP hD hS ls hl
      have n_i := ki_nat i rfl (om_8 LP1_h0)
      refine lv_iload hx hb dX2_joinNode_8 (lv_at hl 0 rfl) ?_
      refine lv_aload_n hx hb dX2_joinNode_10 rfl (lv_at hl 2 rfl) ?_
      refine va_get (D := (dC, dI)) (ci := 2) (v := .ref q_size) (C := RX2) (T := TX2) (N := 11) hx hb hts hi_2 hown hK hP 0 rfl rfl 4 (by decide) hf_25 (fun _ h9 => h9) rfl dX2_joinNode_11 ?_
      refine lv_iload_n hx hb dX2_joinNode_14 rfl (lv_at hl 4 rfl) ?_
      refine va_iald hx hb hK hP 1 0 rfl rfl (ki_in (om_8 b0) (om_54 b1)) dX2_joinNode_15 ?_
      refine lv_topi (fun y_2 ey_2 => ?_)
      have j_2 : y_2.toInt = (fs p0.toNatClampNeg).toInt := congrArg Int32.toInt ey_2
      refine lv_icmp_ge (tgt := 47) hx hb dX2_joinNode_16 (by decide) (fun c_3 => ?_) (fun c_3 => ?_)
      · have i_3 : y_2.toInt ≤ i.toInt := kc_le c_3
        refine lv_aload_n hx hb dX2_joinNode_47 rfl (lv_at hl 3 rfl) ?_
        refine lv_dup hx hb dX2_joinNode_48 rfl ?_
        refine va_get (D := (dC, dI)) (ci := 3) (v := .int lo) (C := RX3) (T := TX3) (N := 5) hx hb hts hi_3 hown hK hP 5 rfl rfl 3 (by decide) hf_91 (fun _ h9 => h9) rfl dX2_joinNode_49 ?_
        refine lv_aload_n hx hb dX2_joinNode_52 rfl (lv_at hl 2 rfl) ?_
        refine va_get (D := (dC, dI)) (ci := 2) (v := .ref q_lossOf) (C := RX2) (T := TX2) (N := 11) hx hb hts hi_2 hown hK hP 0 rfl rfl 5 (by decide) hf_28 (fun _ h9 => h9) rfl dX2_joinNode_53 ?_
        refine lv_iload_n hx hb dX2_joinNode_56 rfl (lv_at hl 4 rfl) ?_
        refine va_iald hx hb hK hP 2 0 rfl rfl (ki_in (om_8 b0) (om_54 b1)) dX2_joinNode_57 ?_
        refine lv_topi (fun y_4 ey_4 => ?_)
        have j_4 : y_4.toInt = (fo p0.toNatClampNeg).toInt := congrArg Int32.toInt ey_4
        refine lv_iadd hx hb dX2_joinNode_58 ?_
        refine lv_topi (fun y_5 ey_5 => ?_)
        refine va_put (D := (dC, dI)) (ci := 3) (v := .int y_5) (ty := .int) (C := RX3) (T := TX3) (N := 5) hx hb hts hi_3 tyX3 tyX3_ok nmX3 hown hK hP hD hS 5 rfl rfl 3 (by decide) hf_91 (fun _ h9 => h9) rfl (by decide +kernel) rfl rfl (Nat.le_of_ble_eq_true rfl) dX2_joinNode_59 (fun H locs hP hD hS => ?_)
        have hP : va_P (dC, dI) vwCl [kx_2 q_t q_row q_joined q_from q_to q_size q_lossOf q_lessBy q_value q_number nodes here, kx_a q_size cyI 319 fs, kx_a q_lossOf cyI 319 fo, kx_a q_value cyI 1914 uv, kx_a q_number cyI 1914 un, kx_3 h0 a_v a_n zz y_5 le, kx_a a_v cyI 12 yv, kx_a a_n cyI 12 yn] H := hP
        have hD : va_D A [kx_2 q_t q_row q_joined q_from q_to q_size q_lossOf q_lessBy q_value q_number nodes here, kx_a q_size cyI 319 fs, kx_a q_lossOf cyI 319 fo, kx_a q_value cyI 1914 uv, kx_a q_number cyI 1914 un, kx_3 h0 a_v a_n zz y_5 le, kx_a a_v cyI 12 yv, kx_a a_n cyI 12 yn] := hD
        have hP9 := hP
        have hD9 := hD
        have hK9 := hK
        exact W.vret hx hb hr (fun t ht hW => ⟨⟨(zz, y_5, yv, yn), rfl, ⟨mj_done LP1_h4 vb (by omega), (by (try dsimp only); rw [ey_5, ey_4]), (by (try dsimp only); omega), (by (try dsimp only); omega)⟩, by rw [ht]; exact hP9, va_K.moved hW.alike hK9, hD9⟩, hS.F ht⟩) hS.2.2 dX2_joinNode_62
      · have i_3 : i.toInt < y_2.toInt := kc_nle c_3
        refine lv_aload_n hx hb dX2_joinNode_19 rfl (lv_at hl 3 rfl) ?_
        refine lv_aload_n hx hb dX2_joinNode_20 rfl (lv_at hl 2 rfl) ?_
        refine va_get (D := (dC, dI)) (ci := 2) (v := .ref q_value) (C := RX2) (T := TX2) (N := 11) hx hb hts hi_2 hown hK hP 0 rfl rfl 7 (by decide) hf_34 (fun _ h9 => h9) rfl dX2_joinNode_21 ?_
        refine lv_iload_n hx hb dX2_joinNode_24 rfl (lv_at hl 1 rfl) ?_
        refine lv_iload hx hb dX2_joinNode_25 (lv_at hl 0 rfl) ?_
        refine lv_iadd hx hb dX2_joinNode_27 ?_
        refine lv_topi (fun y_6 ey_6 => ?_)
        have i_6 : y_6.toInt = y_1.toInt + i.toInt := ki_add ey_6 rfl rfl (om_78 b0 i_1 LP1_h0) (om_329 b1 n3 i_1 LP1_h1)
        refine va_iald hx hb hK hP 3 0 rfl rfl (ki_in (om_79 b0 i_1 LP1_h0 i_6) (by omega)) dX2_joinNode_28 ?_
        refine lv_topi (fun y_7 ey_7 => ?_)
        have j_7 : y_7.toInt = (uv y_6.toNatClampNeg).toInt := congrArg Int32.toInt ey_7
        refine lv_aload_n hx hb dX2_joinNode_29 rfl (lv_at hl 2 rfl) ?_
        refine va_get (D := (dC, dI)) (ci := 2) (v := .ref q_number) (C := RX2) (T := TX2) (N := 11) hx hb hts hi_2 hown hK hP 0 rfl rfl 8 (by decide) hf_37 (fun _ h9 => h9) rfl dX2_joinNode_30 ?_
        refine lv_iload_n hx hb dX2_joinNode_33 rfl (lv_at hl 1 rfl) ?_
        refine lv_iload hx hb dX2_joinNode_34 (lv_at hl 0 rfl) ?_
        refine lv_iadd hx hb dX2_joinNode_36 ?_
        refine lv_topi (fun y_8 ey_8 => ?_)
        have i_8 : y_8.toInt = y_1.toInt + i.toInt := ki_add ey_8 rfl rfl (om_78 b0 i_1 LP1_h0) (om_329 b1 n3 i_1 LP1_h1)
        refine va_iald hx hb hK hP 4 0 rfl rfl (ki_in (om_79 b0 i_1 LP1_h0 i_8) (by omega)) dX2_joinNode_37 ?_
        refine lv_topi (fun y_9 ey_9 => ?_)
        have j_9 : y_9.toInt = (un y_8.toNatClampNeg).toInt := congrArg Int32.toInt ey_9
        have hPc := hP.sub (ws' := [kx_3 h0 a_v a_n zz lo le, kx_a a_v cyI 12 yv, kx_a a_n cyI 12 yn]) [5, 6, 7] rfl
        have hKc := hK
        have hDc := hD.sub (ws' := [kx_3 h0 a_v a_n zz lo le, kx_a a_v cyI 12 yv, kx_a a_n cyI 12 yn]) [5, 6, 7] (by decide) rfl
        have hFc := va_free (wc := [kx_3 h0 a_v a_n zz lo le, kx_a a_v cyI 12 yv, kx_a a_n cyI 12 yn]) hD hS hA [5, 6, 7] rfl
        refine va_callv (va_runV (As := [.int y_7, .int y_9]) (rest := []) ⟨hx, hb, hml, hown, hts⟩ (c_X3_add_x l dC dI h0 a_v a_n cyI zz lo le yv yn y_7 y_9 H.size LP1_h2 (by omega)) (cwV 2 hts gX2_joinNode_X3_add rfl rfl rfl (by decide +kernel) ⟨Nat.le_of_ble_eq_true rfl, Nat.le_of_ble_eq_true rfl⟩) ⟨fun a U g mk q => by obtain ⟨q0, q1, qP, qK, qD⟩ := q; exact ⟨q0, q1, qP, va_K.moved (u := U) (U := U.calling g mk a) (Vm.Alike.refl U.vm) qK, qD⟩, va_recv hKc hPc (ci := 3) (q0 := 0) rfl rfl, fun U hU hW => ⟨rfl, by rw [hU], by rw [hU]; exact hPc, va_K.moved hW.alike hKc, hDc.weaken (fun _ _ _ _ => trivial)⟩⟩ rfl rfl hl.1 rfl (lv_room (Nat.le_of_ble_eq_true rfl)) dX2_joinNode_38 ⟨Nat.le_of_ble_eq_true rfl, Nat.le_of_ble_eq_true rfl⟩) hS (fun q _ h => hFc q h) hFc (fun u t H1 locs ht hvm w_10 hB hz1 hk1 hS => ?_)
        obtain ⟨o_11, o_12, o_13⟩ := u
        dsimp only at w_10 hB
        obtain ⟨hP1, hK1, hD1⟩ := hB
        rw [ht] at hP1
        have hK1 := va_K.moved hvm.symm hK1
        obtain ⟨hP, hD⟩ := va_join (wr := [kx_2 q_t q_row q_joined q_from q_to q_size q_lossOf q_lessBy q_value q_number nodes here, kx_a q_size cyI 319 fs, kx_a q_lossOf cyI 319 fo, kx_a q_value cyI 1914 uv, kx_a q_number cyI 1914 un]) (w1 := [kx_3 h0 a_v a_n o_11 lo le, kx_a a_v cyI 12 o_12, kx_a a_n cyI 12 o_13]) hP hD [5, 6, 7] [0, 1, 2, 3, 4] rfl rfl (by decide) (by decide) hk1 hFc hP1 hD1
        clear hP1 hD1 hK1 hk1 hz1 hFc hDc hPc hKc
        generalize H1 = H at hP hS ⊢
        have hP : va_P (dC, dI) vwCl [kx_2 q_t q_row q_joined q_from q_to q_size q_lossOf q_lessBy q_value q_number nodes here, kx_a q_size cyI 319 fs, kx_a q_lossOf cyI 319 fo, kx_a q_value cyI 1914 uv, kx_a q_number cyI 1914 un, kx_3 h0 a_v a_n o_11 lo le, kx_a a_v cyI 12 o_12, kx_a a_n cyI 12 o_13] H := hP
        have hD : va_D A [kx_2 q_t q_row q_joined q_from q_to q_size q_lossOf q_lessBy q_value q_number nodes here, kx_a q_size cyI 319 fs, kx_a q_lossOf cyI 319 fo, kx_a q_value cyI 1914 uv, kx_a q_number cyI 1914 un, kx_3 h0 a_v a_n o_11 lo le, kx_a a_v cyI 12 o_12, kx_a a_n cyI 12 o_13] := hD
        have w_10 : mj_addR yv yn zz.toNatClampNeg y_7 y_9 o_12 o_13 o_11.toNatClampNeg ∧ zz.toInt ≤ o_11.toInt ∧ o_11.toInt ≤ zz.toInt + 1 := w_10
        obtain ⟨x_14, ex_14⟩ : ∃ y : Int32, y = i + 1 := ⟨_, rfl⟩
        have i_14 : x_14.toInt = i.toInt + 1 := ki_add ex_14 rfl rfl (om_10 LP1_h0) (om_220 n3 LP1_h1)
        refine lv_iinc (v := x_14) (lv' := [(4, .int x_14), (3, .int y_1), (0, .ref q_t), (1, .ref h0), (2, .int p0)]) hx hb dX2_joinNode_41 hl (k := 0) rfl (by rw [ex_14]; rfl) (by decide) rfl (fun ls hl => ?_)
        refine lv_goto (tgt := 8) hx hb dX2_joinNode_44 (by decide) ?_
        have n_15 := ki_nat x_14 rfl (om_31 LP1_h0 i_14)
        have n_16 := ki_nat y_6 rfl (om_79 b0 i_1 LP1_h0 i_6)
        have n_17 := ki_nat y_8 rfl (om_79 b0 i_1 LP1_h0 i_8)
        exact ih1 x_14 o_11 o_12 o_13 (om_31 LP1_h0 i_14) (by omega) (om_0 LP1_h2 w_10.2.1) (om_221 LP1_h3 w_10.2.2 i_14) (by rw [show x_14.toNatClampNeg = i.toNatClampNeg + 1 by omega]; exact mj_step (i := i.toNatClampNeg) (q := y_6.toNatClampNeg) (q2 := y_8.toNatClampNeg) vb (by omega) (by omega) (by omega) ey_7 ey_9 (mj_hb2 bd _) LP1_h4 w_10.1) (by omega) _ _ hP hD hS ls (lv_sub hl [0, 1, 2, 3, 4] rfl)
  have k_18 : (0 : Int32).toInt = 0 := rfl
  exact LP1 (((fs p0.toNatClampNeg).toInt - 0 : Int).toNat + 1) 0 vs fv fn om_32 (om_8 n2) (om_8 n0) om_330 (mj_vs_congr va (fun w => (Int.add_zero (mua w)).symm)) (Nat.lt_succ_self _) _ _ hP hD hS ls (lv_sub hl [0, 1, 2, 3, 4] rfl)


