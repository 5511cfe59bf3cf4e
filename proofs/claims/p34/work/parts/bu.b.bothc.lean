theorem mj_hb_uni {V N V2 N2 : Nat → Int32} {m : Nat} {i x y : Int32} (h : ∀ j : Nat, j < m → V (0 + j) = V2 (0 + j) ∧ N (0 + j) = N2 (0 + j)) (a : x = V i.toNatClampNeg) (b : y = V2 i.toNatClampNeg) (h0 : 0 ≤ i.toInt) (h1 : i.toInt < (m : Int)) : x = y := by
  have n9 := ki_nat i rfl h0
  have w := h i.toNatClampNeg (by omega)
  rw [Nat.zero_add] at w
  rw [a, b, w.1]

set_option maxHeartbeats 4000000 in
set_option maxRecDepth 100000 in
theorem c_X3_join_x (l : Launch) (dC : Nat → ClassId) (dI : Nat → Nat → Nat) (h0 : Nat) (a_v : Nat) (a_n : Nat) (cyI : ClassId) (vs : Int32) (lo : Int32) (le : Int32) (fv : Nat → Int32) (fn : Nat → Int32) (k0 : Nat) (kv : Nat) (kn : Nat) (sb : Int32) (lb : Int32) (eb : Int32) (gb : Nat → Int32) (nb : Nat → Int32) (mua : Int32 → Int) (mub : Int32 → Int) (sz : Nat) (n0 : 0 ≤ vs.toInt) (n1 : vs.toInt ≤ 6) (n2 : 0 ≤ sb.toInt) (n3 : sb.toInt ≤ 6) (va : mj_vs fv fn 0 vs.toNatClampNeg mua) (vb : mj_vs gb nb 0 sb.toNatClampNeg mub) (bd : ∀ v : Int32, mua v + mub v ≤ 1000000) : kx_MQ l (dC, dI) yX3_join wsX3_join ({ frames := 1, cells := 0, slots := 0, locals := 45 }) [.ref h0, .ref k0] [kx_3 h0 a_v a_n vs lo le, kx_a a_v cyI 12 fv, kx_a a_n cyI 12 fn, kx_3 k0 kv kn sb lb eb, kx_a kv cyI 12 gb, kx_a kn cyI 12 nb] [(cyI, .int)] sz (fun A => va_Qv (fun u : Int32 × Int32 × (Nat → Int32) × (Nat → Int32) => mj_vs u.2.2.1 u.2.2.2 0 u.1.toNatClampNeg (fun w => mua w + mub w) ∧ u.2.1 = lo + lb ∧ 0 ≤ u.1.toInt ∧ u.1.toInt ≤ vs.toInt + sb.toInt) (fun (u : Int32 × Int32 × (Nat → Int32) × (Nat → Int32)) (t : State) => va_P (dC, dI) vwCl [kx_3 h0 a_v a_n u.1 u.2.1 le, kx_a a_v cyI 12 u.2.2.1, kx_a a_n cyI 12 u.2.2.2, kx_3 k0 kv kn sb lb eb, kx_a kv cyI 12 gb, kx_a kn cyI 12 nb] t.heap ∧ va_K (dC, dI) vwCl [(cyI, .int)] t ∧ va_D A [kx_3 h0 a_v a_n u.1 u.2.1 le, kx_a a_v cyI 12 u.2.2.1, kx_a a_n cyI 12 u.2.2.2, kx_3 k0 kv kn sb lb eb, kx_a kv cyI 12 gb, kx_a kn cyI 12 nb]) A) := by
  refine kx_stQ (ws := wsX3_join) (cc := cX3_join) (maxL := 3) (ret := none) (by decide) rfl (Nat.le_of_ble_eq_true rfl) ?_
  intro p e s m below meth c A ls hx hb hr hlocks hts hown hml hA hS hP hK hD hl
  have hown : s.vm.findClass RX3 = some m.cls := hown
  have hl : lv_has ls 3 [(0, .ref h0), (1, .ref k0)] := hl
  have hf_18 := hts (.fieldLink RX3 18 "MajorityIndex$Votes" "size" "I") (List.mem_of_getElem? (i := 1) rfl)
  have hi_3 : ∀ w ∈ u_ws RX3 TX3 5, w ∈ wsX3_join := fun w h => List.mem_cons_of_mem _ (List.mem_append_right _ h)
  have hf_22 := hts (.fieldLink RX3 22 "MajorityIndex$Votes" "lost" "I") (List.mem_of_getElem? (i := 4) rfl)
  have hf_9 := hts (.fieldLink RX3 9 "MajorityIndex$Votes" "value" "[I") (List.mem_of_getElem? (i := 2) rfl)
  have hf_15 := hts (.fieldLink RX3 15 "MajorityIndex$Votes" "number" "[I") (List.mem_of_getElem? (i := 3) rfl)
  have n_sb := ki_nat sb rfl (om_10 n2)
  refine lv_iconst (v := 0) hx hb dX3_join_0 (by decide) ?_
  refine lv_istore_n (lv' := [(2, .int 0), (0, .ref h0), (1, .ref k0)]) hx hb dX3_join_1 rfl hl (by decide) rfl (fun ls hl => ?_)
  have LP1 : ∀ (n : Nat) (i : Int32) (zz : Int32) (yv : Nat → Int32) (yn : Nat → Int32), (0 ≤ i.toInt) → (i.toInt ≤ sb.toInt) → (0 ≤ zz.toInt) → (zz.toInt ≤ vs.toInt + i.toInt) → (mj_vs yv yn 0 zz.toNatClampNeg (fun w => mua w + mj_pm gb nb 0 i.toNatClampNeg w)) → (sb.toInt - i.toInt).toNat < n → ∀ (H : Heap) (locs : List Loc), va_P (dC, dI) vwCl [kx_3 h0 a_v a_n zz lo le, kx_a a_v cyI 12 yv, kx_a a_n cyI 12 yn, kx_3 k0 kv kn sb lb eb, kx_a kv cyI 12 gb, kx_a kn cyI 12 nb] H → va_D A [kx_3 h0 a_v a_n zz lo le, kx_a a_v cyI 12 yv, kx_a a_n cyI 12 yn, kx_3 k0 kv kn sb lb eb, kx_a kv cyI 12 gb, kx_a kn cyI 12 nb] → va_S A s.heap H locs → ∀ (ls : Array Slot), lv_has ls 3 [(2, .int i), (0, .ref h0), (1, .ref k0)] → W p l e (headSpec wsX3_join ({ frames := 1, cells := 0, slots := 0, locals := 45 })).room s m ([.ref h0, .ref k0] : List Value).toArray below meth c H locs 0 0 (MQ below (va_Qv (fun u : Int32 × Int32 × (Nat → Int32) × (Nat → Int32) => mj_vs u.2.2.1 u.2.2.2 0 u.1.toNatClampNeg (fun w => mua w + mub w) ∧ u.2.1 = lo + lb ∧ 0 ≤ u.1.toInt ∧ u.1.toInt ≤ vs.toInt + sb.toInt) (fun (u : Int32 × Int32 × (Nat → Int32) × (Nat → Int32)) (t : State) => va_P (dC, dI) vwCl [kx_3 h0 a_v a_n u.1 u.2.1 le, kx_a a_v cyI 12 u.2.2.1, kx_a a_n cyI 12 u.2.2.2, kx_3 k0 kv kn sb lb eb, kx_a kv cyI 12 gb, kx_a kn cyI 12 nb] t.heap ∧ va_K (dC, dI) vwCl [(cyI, .int)] t ∧ va_D A [kx_3 h0 a_v a_n u.1 u.2.1 le, kx_a a_v cyI 12 u.2.2.1, kx_a a_n cyI 12 u.2.2.2, kx_3 k0 kv kn sb lb eb, kx_a kv cyI 12 gb, kx_a kn cyI 12 nb]) A) ([.ref h0, .ref k0] : List Value).toArray s 0 0 A) (F0 m 2 ls []) := by
    intro n
    induction n with
    | zero => intro i zz yv yn LP1_h0 LP1_h1 LP1_h2 LP1_h3 LP1_h4 hn; exact absurd hn (Nat.not_lt_zero _)
    | succ n ih1 =>
      intro i zz yv yn LP1_h0 LP1_h1 LP1_h2 LP1_h3 LP1_h4 hn1 H locs hP hD hS ls hl
      have n_i := ki_nat i rfl (om_10 LP1_h0)
      refine lv_iload_n hx hb dX3_join_2 rfl (lv_at hl 0 rfl) ?_
      refine lv_aload_n hx hb dX3_join_3 rfl (lv_at hl 2 rfl) ?_
      refine va_get (D := (dC, dI)) (ci := 3) (v := .int sb) (C := RX3) (T := TX3) (N := 5) hx hb hts hi_3 hown hK hP 3 rfl rfl 2 (by decide) hf_18 (fun _ h9 => h9) rfl dX3_join_4 ?_
      refine lv_icmp_ge (tgt := 32) hx hb dX3_join_7 (by decide) (fun c_1 => ?_) (fun c_1 => ?_)
      · have i_1 : sb.toInt ≤ i.toInt := kc_le c_1
        refine lv_aload_n hx hb dX3_join_32 rfl (lv_at hl 1 rfl) ?_
        refine lv_dup hx hb dX3_join_33 rfl ?_
        refine va_get (D := (dC, dI)) (ci := 3) (v := .int lo) (C := RX3) (T := TX3) (N := 5) hx hb hts hi_3 hown hK hP 0 rfl rfl 3 (by decide) hf_22 (fun _ h9 => h9) rfl dX3_join_34 ?_
        refine lv_aload_n hx hb dX3_join_37 rfl (lv_at hl 2 rfl) ?_
        refine va_get (D := (dC, dI)) (ci := 3) (v := .int lb) (C := RX3) (T := TX3) (N := 5) hx hb hts hi_3 hown hK hP 3 rfl rfl 3 (by decide) hf_22 (fun _ h9 => h9) rfl dX3_join_38 ?_
        refine lv_iadd hx hb dX3_join_41 ?_
        refine lv_topi (fun y_2 ey_2 => ?_)
        refine va_put (D := (dC, dI)) (ci := 3) (v := .int y_2) (ty := .int) (C := RX3) (T := TX3) (N := 5) hx hb hts hi_3 tyX3 tyX3_ok nmX3 hown hK hP hD hS 0 rfl rfl 3 (by decide) hf_22 (fun _ h9 => h9) rfl (by decide +kernel) rfl rfl (Nat.le_of_ble_eq_true rfl) dX3_join_42 (fun H locs hP hD hS => ?_)
        obtain ⟨hP, hD⟩ := kx_re (w2 := [kx_3 h0 a_v a_n zz y_2 le, kx_a a_v cyI 12 yv, kx_a a_n cyI 12 yn, kx_3 k0 kv kn sb lb eb, kx_a kv cyI 12 gb, kx_a kn cyI 12 nb]) hP hD rfl
        have hP9 := hP
        have hD9 := hD
        have hK9 := hK
        exact W.vret hx hb hr (hlocks := hlocks) (fun t ht hW => ⟨⟨(zz, y_2, yv, yn), rfl, ⟨mj_done LP1_h4 vb (by omega), ey_2, (by (try dsimp only); omega), (by (try dsimp only); omega)⟩, by rw [ht]; exact hP9, va_K.moved hW.alike hK9, hD9⟩, hS.F ht⟩) hS.2.2 dX3_join_45
      · have i_1 : i.toInt < sb.toInt := kc_nle c_1
        refine lv_aload_n hx hb dX3_join_10 rfl (lv_at hl 1 rfl) ?_
        refine lv_aload_n hx hb dX3_join_11 rfl (lv_at hl 2 rfl) ?_
        refine va_get (D := (dC, dI)) (ci := 3) (v := .ref kv) (C := RX3) (T := TX3) (N := 5) hx hb hts hi_3 hown hK hP 3 rfl rfl 0 (by decide) hf_9 (fun _ h9 => h9) rfl dX3_join_12 ?_
        refine lv_iload_n hx hb dX3_join_15 rfl (lv_at hl 0 rfl) ?_
        refine va_iald hx hb hK hP 4 0 rfl rfl (ki_in (om_10 LP1_h0) (om_559 n3 LP1_h1)) dX3_join_16 ?_
        refine lv_topi (fun y_3 ey_3 => ?_)
        have j_3 : y_3.toInt = (gb i.toNatClampNeg).toInt := congrArg Int32.toInt ey_3
        refine lv_aload_n hx hb dX3_join_17 rfl (lv_at hl 2 rfl) ?_
        refine va_get (D := (dC, dI)) (ci := 3) (v := .ref kn) (C := RX3) (T := TX3) (N := 5) hx hb hts hi_3 hown hK hP 3 rfl rfl 1 (by decide) hf_15 (fun _ h9 => h9) rfl dX3_join_18 ?_
        refine lv_iload_n hx hb dX3_join_21 rfl (lv_at hl 0 rfl) ?_
        refine va_iald hx hb hK hP 5 0 rfl rfl (ki_in (om_10 LP1_h0) (om_559 n3 LP1_h1)) dX3_join_22 ?_
        refine lv_topi (fun y_4 ey_4 => ?_)
        have j_4 : y_4.toInt = (nb i.toNatClampNeg).toInt := congrArg Int32.toInt ey_4
        obtain ⟨hPc, hDc, hFc, hCc⟩ := kx_preM (wc := [kx_3 h0 a_v a_n zz lo le, kx_a a_v cyI 12 yv, kx_a a_n cyI 12 yn]) hP hD hS hA [true, true, true, false, false, false] rfl
        have hKc := hK
        refine va_callv (va_runV (As := [.int y_3, .int y_4]) (rest := []) ⟨hx, hb, hml, hown, hts⟩ (kx_un (c_X3_add_x l dC dI h0 a_v a_n cyI zz lo le yv yn y_3 y_4 H.size LP1_h2 (om_560 n1 n3 LP1_h3 i_1))) (cwV 2 hts gX3_join_X3_add rfl rfl rfl (by decide +kernel) ⟨Nat.le_of_ble_eq_true rfl, Nat.le_of_ble_eq_true rfl⟩) ⟨fun a U g mk q => by obtain ⟨q0, q1, qP, qK, qD⟩ := q; exact ⟨q0, q1, qP, va_K.moved (u := U) (U := U.calling g mk a) (Vm.Alike.refl U.vm) qK, qD⟩, kx_rc3 hKc hPc (q0 := 0) rfl, fun U hU hW => ⟨rfl, by rw [hU], by rw [hU]; exact hPc, va_K.moved hW.alike hKc, hDc.weaken (fun _ _ _ _ => trivial)⟩⟩ rfl rfl hl.1 rfl (lv_room (Nat.le_of_ble_eq_true rfl)) dX3_join_23 ⟨Nat.le_of_ble_eq_true rfl, Nat.le_of_ble_eq_true rfl⟩) hS (fun q _ h => hFc q h) hFc (fun u t H1 locs ht hvm w_5 hB hz1 hk1 hS => ?_)
        obtain ⟨o_6, o_7, o_8⟩ := u
        dsimp only at w_5 hB
        obtain ⟨hP1, hK1, hD1⟩ := hB
        rw [ht] at hP1
        have hK1 := va_K.moved hvm.symm hK1
        obtain ⟨hP, hD⟩ := kx_joinM (w2 := [kx_3 h0 a_v a_n o_6 lo le, kx_a a_v cyI 12 o_7, kx_a a_n cyI 12 o_8, kx_3 k0 kv kn sb lb eb, kx_a kv cyI 12 gb, kx_a kn cyI 12 nb]) hP hD hP1 hD1 hk1 hFc [true, true, true, false, false, false] hCc rfl
        clear hP1 hD1 hK1 hk1 hz1 hFc hDc hPc hKc hCc
        generalize H1 = H at hP hS ⊢
        have w_5 : mj_addR yv yn zz.toNatClampNeg y_3 y_4 o_7 o_8 o_6.toNatClampNeg ∧ zz.toInt ≤ o_6.toInt ∧ o_6.toInt ≤ zz.toInt + 1 := w_5
        obtain ⟨x_9, ex_9⟩ : ∃ y : Int32, y = i + 1 := ⟨_, rfl⟩
        have i_9 : x_9.toInt = i.toInt + 1 := ki_add ex_9 rfl rfl (om_13 LP1_h0) (om_316 n3 LP1_h1)
        refine lv_iinc (v := x_9) (lv' := [(2, .int x_9), (0, .ref h0), (1, .ref k0)]) hx hb dX3_join_26 hl (k := 0) rfl (by rw [ex_9]; rfl) (by decide) rfl (fun ls hl => ?_)
        refine lv_goto (tgt := 2) hx hb dX3_join_29 (by decide) ?_
        have n_10 := ki_nat x_9 rfl (om_34 LP1_h0 i_9)
        exact ih1 x_9 o_6 o_7 o_8 (om_34 LP1_h0 i_9) (om_54 i_1 i_9) (om_0 LP1_h2 w_5.2.1) (om_318 LP1_h3 w_5.2.2 i_9) (by rw [show x_9.toNatClampNeg = i.toNatClampNeg + 1 by omega]; exact mj_step (i := i.toNatClampNeg) (q := i.toNatClampNeg) (q2 := i.toNatClampNeg) vb (by omega) (by omega) (by omega) ey_3 ey_4 (mj_hb2 bd _) LP1_h4 w_5.1) (om_mu hn1 (om_5 i_9) (om_6 i_1)) _ _ hP hD hS ls (lv_sub hl [0, 1, 2] rfl)
  have k_11 : (0 : Int32).toInt = 0 := rfl
  exact LP1 ((sb.toInt - 0 : Int).toNat + 1) 0 vs fv fn om_35 (om_10 n2) (om_10 n0) om_502 (mj_vs_congr va (fun w => (Int.add_zero (mua w)).symm)) (Nat.lt_succ_self _) _ _ hP hD hS ls (lv_sub hl [0, 1, 2] rfl)

set_option maxHeartbeats 4000000 in
set_option maxRecDepth 100000 in
theorem c_X4_gatherHeavyOfBoth_x (l : Launch) (dC : Nat → ClassId) (dI : Nat → Nat → Nat) (m_ : Nat) (q_row : Nat) (q_t : Nat) (t_ : Nat) (h0 : Nat) (k0 : Nat) (w_ : Nat) (z_ : Nat) (slots : Int32) (old : Int32) (q_joined : Nat) (q_from : Nat) (q_to : Nat) (q_size : Nat) (q_lossOf : Nat) (q_lessBy : Nat) (q_value : Nat) (q_number : Nat) (nodes : Int32) (here : Int32) (q_cell : Nat) (cyI : ClassId) (len : Int32) (f : Nat → Int32) (ff : Nat → Int32) (ft : Nat → Int32) (fs : Nat → Int32) (fo : Nat → Int32) (uv : Nat → Int32) (un : Nat → Int32) (a_v : Nat) (a_n : Nat) (cyI : ClassId) (vs : Int32) (lo : Int32) (le : Int32) (fv : Nat → Int32) (fn : Nat → Int32) (fe : Nat → Int32) (kv : Nat) (kn : Nat) (sb : Int32) (lb : Int32) (eb : Int32) (gb : Nat → Int32) (nb : Nat → Int32) (p0 : Int32) (p1 : Int32) (p2 : Int32) (p3 : Int32) (p4 : Int32) (p5 : Int32) (sz : Nat) (b0 : 0 ≤ nodes.toInt) (c0 : nodes.toInt ≤ 319) (s0 : sixes fs) (c1 : len.toInt ≤ 160) (kh0 : 1 ≤ here.toInt) (kh1 : here.toInt ≤ 6) (t0 : treeOk ff ft nodes.toInt len.toInt) (s1 : shorts f) (hC : mj_C here.toNatClampNeg f ff ft fs fo fe uv un nodes.toInt len.toInt) (hh : here = slots) (d0 : 0 ≤ p0.toInt) (d1 : p0.toInt < p1.toInt) (d2 : p1.toInt ≤ len.toInt) (d3 : 0 ≤ p2.toInt) (d4 : p2.toInt < p3.toInt) (d5 : p3.toInt ≤ len.toInt) (d6 : p1.toInt - p0.toInt + p3.toInt - p2.toInt ≤ 320) (e0 : 1 ≤ p4.toInt) (e1 : p4.toInt ≤ p5.toInt) (e2 : p5.toInt ≤ 999) (he : p5.toInt ≤ p4.toInt * (here.toInt + 1)) : Met l yX4_gatherHeavyOfBoth wsX4_gatherHeavyOfBoth ({ frames := 4, cells := 0, slots := 0, locals := 180 }) (va_Pc [.ref m_, .ref q_t, .int p0, .int p1, .int p2, .int p3, .int p4, .int p5] (fun U => U.heap.size = sz ∧ va_P (dC, dI) vwCl [kx_4 m_ q_row q_t t_ h0 k0 w_ z_ slots old, kx_0 q_row q_cell len, kx_a q_cell cyI 160 f, kx_2 q_t q_row q_joined q_from q_to q_size q_lossOf q_lessBy q_value q_number nodes here, kx_a q_from cyI 319 ff, kx_a q_to cyI 319 ft, kx_a q_size cyI 319 fs, kx_a q_lossOf cyI 319 fo, kx_a q_lessBy cyI 319 fe, kx_a q_value cyI 1914 uv, kx_a q_number cyI 1914 un, kx_3 h0 a_v a_n vs lo le, kx_a a_v cyI 12 fv, kx_a a_n cyI 12 fn, kx_3 k0 kv kn sb lb eb, kx_a kv cyI 12 gb, kx_a kn cyI 12 nb] U.heap ∧ va_K (dC, dI) vwCl [(cyI, .int)] U ∧ va_D (fun _ => True) [kx_4 m_ q_row q_t t_ h0 k0 w_ z_ slots old, kx_0 q_row q_cell len, kx_a q_cell cyI 160 f, kx_2 q_t q_row q_joined q_from q_to q_size q_lossOf q_lessBy q_value q_number nodes here, kx_a q_from cyI 319 ff, kx_a q_to cyI 319 ft, kx_a q_size cyI 319 fs, kx_a q_lossOf cyI 319 fo, kx_a q_lessBy cyI 319 fe, kx_a q_value cyI 1914 uv, kx_a q_number cyI 1914 un, kx_3 h0 a_v a_n vs lo le, kx_a a_v cyI 12 fv, kx_a a_n cyI 12 fn, kx_3 k0 kv kn sb lb eb, kx_a kv cyI 12 gb, kx_a kn cyI 12 nb] ∧ va_Nw (.methodLinkNest RX3 42 yX4_isHeavy RX4) U)) (va_Qv (fun u : Int32 × Int32 × Int32 × (Nat → Int32) × (Nat → Int32) × Int32 × Int32 × Int32 × (Nat → Int32) × (Nat → Int32) => mj_vs u.2.2.2.1 u.2.2.2.2.1 0 u.1.toNatClampNeg (mj_hvm p4.toInt p5.toInt (p1.toInt - p0.toInt + p3.toInt - p2.toInt) (fun v => (cnt f v p0.toNatClampNeg (p1.toInt - p0.toInt).toNat : Int) + (cnt f v p2.toNatClampNeg ((p3.toInt : Int) - p2.toInt).toNat : Int))) ∧ mj_srt u.2.2.2.1 u.2.2.2.2.1 0 u.1.toNatClampNeg ∧ 0 ≤ u.1.toInt ∧ u.1.toInt ≤ 6) (fun (u : Int32 × Int32 × Int32 × (Nat → Int32) × (Nat → Int32) × Int32 × Int32 × Int32 × (Nat → Int32) × (Nat → Int32)) (t : State) => va_P (dC, dI) vwCl [kx_4 m_ q_row q_t t_ h0 k0 w_ z_ slots old, kx_0 q_row q_cell len, kx_a q_cell cyI 160 f, kx_2 q_t q_row q_joined q_from q_to q_size q_lossOf q_lessBy q_value q_number nodes here, kx_a q_from cyI 319 ff, kx_a q_to cyI 319 ft, kx_a q_size cyI 319 fs, kx_a q_lossOf cyI 319 fo, kx_a q_lessBy cyI 319 fe, kx_a q_value cyI 1914 uv, kx_a q_number cyI 1914 un, kx_3 h0 a_v a_n u.1 u.2.1 u.2.2.1, kx_a a_v cyI 12 u.2.2.2.1, kx_a a_n cyI 12 u.2.2.2.2.1, kx_3 k0 kv kn u.2.2.2.2.2.1 u.2.2.2.2.2.2.1 u.2.2.2.2.2.2.2.1, kx_a kv cyI 12 u.2.2.2.2.2.2.2.2.1, kx_a kn cyI 12 u.2.2.2.2.2.2.2.2.2] t.heap ∧ va_K (dC, dI) vwCl [(cyI, .int)] t ∧ va_D (va_A [kx_4 m_ q_row q_t t_ h0 k0 w_ z_ slots old, kx_0 q_row q_cell len, kx_a q_cell cyI 160 f, kx_2 q_t q_row q_joined q_from q_to q_size q_lossOf q_lessBy q_value q_number nodes here, kx_a q_from cyI 319 ff, kx_a q_to cyI 319 ft, kx_a q_size cyI 319 fs, kx_a q_lossOf cyI 319 fo, kx_a q_lessBy cyI 319 fe, kx_a q_value cyI 1914 uv, kx_a q_number cyI 1914 un, kx_3 h0 a_v a_n vs lo le, kx_a a_v cyI 12 fv, kx_a a_n cyI 12 fn, kx_3 k0 kv kn sb lb eb, kx_a kv cyI 12 gb, kx_a kn cyI 12 nb] sz) [kx_4 m_ q_row q_t t_ h0 k0 w_ z_ slots old, kx_0 q_row q_cell len, kx_a q_cell cyI 160 f, kx_2 q_t q_row q_joined q_from q_to q_size q_lossOf q_lessBy q_value q_number nodes here, kx_a q_from cyI 319 ff, kx_a q_to cyI 319 ft, kx_a q_size cyI 319 fs, kx_a q_lossOf cyI 319 fo, kx_a q_lessBy cyI 319 fe, kx_a q_value cyI 1914 uv, kx_a q_number cyI 1914 un, kx_3 h0 a_v a_n u.1 u.2.1 u.2.2.1, kx_a a_v cyI 12 u.2.2.2.1, kx_a a_n cyI 12 u.2.2.2.2.1, kx_3 k0 kv kn u.2.2.2.2.2.1 u.2.2.2.2.2.2.1 u.2.2.2.2.2.2.2.1, kx_a kv cyI 12 u.2.2.2.2.2.2.2.2.1, kx_a kn cyI 12 u.2.2.2.2.2.2.2.2.2]) (va_A [kx_4 m_ q_row q_t t_ h0 k0 w_ z_ slots old, kx_0 q_row q_cell len, kx_a q_cell cyI 160 f, kx_2 q_t q_row q_joined q_from q_to q_size q_lossOf q_lessBy q_value q_number nodes here, kx_a q_from cyI 319 ff, kx_a q_to cyI 319 ft, kx_a q_size cyI 319 fs, kx_a q_lossOf cyI 319 fo, kx_a q_lessBy cyI 319 fe, kx_a q_value cyI 1914 uv, kx_a q_number cyI 1914 un, kx_3 h0 a_v a_n vs lo le, kx_a a_v cyI 12 fv, kx_a a_n cyI 12 fn, kx_3 k0 kv kn sb lb eb, kx_a kv cyI 12 gb, kx_a kn cyI 12 nb] sz)) 0 0 (va_A [kx_4 m_ q_row q_t t_ h0 k0 w_ z_ slots old, kx_0 q_row q_cell len, kx_a q_cell cyI 160 f, kx_2 q_t q_row q_joined q_from q_to q_size q_lossOf q_lessBy q_value q_number nodes here, kx_a q_from cyI 319 ff, kx_a q_to cyI 319 ft, kx_a q_size cyI 319 fs, kx_a q_lossOf cyI 319 fo, kx_a q_lessBy cyI 319 fe, kx_a q_value cyI 1914 uv, kx_a q_number cyI 1914 un, kx_3 h0 a_v a_n vs lo le, kx_a a_v cyI 12 fv, kx_a a_n cyI 12 fn, kx_3 k0 kv kn sb lb eb, kx_a kv cyI 12 gb, kx_a kn cyI 12 nb] sz) := by
  refine Met.ofW (cc := cX4_gatherHeavyOfBoth) (maxL := 10) (ret := none) (by decide) rfl ?_
  intro p e s m args below meth c s₁ B hml hv
  obtain ⟨rfl, hsz, hP, hK, hD0, hN0⟩ := hv
  have hx := B.exec
  have hb := B.bytes
  have hr := B.returns
  have hts := atoms_spec (ws := wsX4_gatherHeavyOfBoth) B.pre
  have hown : s.vm.findClass RX4 = some m.cls := findClass_of_methodNamed B.named
  have hlocks := B.notSynchronized
  subst hsz
  have hD := hD0.self (sz := s.heap.size)
  generalize hAe : va_A [kx_4 m_ q_row q_t t_ h0 k0 w_ z_ slots old, kx_0 q_row q_cell len, kx_a q_cell cyI 160 f, kx_2 q_t q_row q_joined q_from q_to q_size q_lossOf q_lessBy q_value q_number nodes here, kx_a q_from cyI 319 ff, kx_a q_to cyI 319 ft, kx_a q_size cyI 319 fs, kx_a q_lossOf cyI 319 fo, kx_a q_lessBy cyI 319 fe, kx_a q_value cyI 1914 uv, kx_a q_number cyI 1914 un, kx_3 h0 a_v a_n vs lo le, kx_a a_v cyI 12 fv, kx_a a_n cyI 12 fn, kx_3 k0 kv kn sb lb eb, kx_a kv cyI 12 gb, kx_a kn cyI 12 nb] s.heap.size = A at hD ⊢
  have hA : ∀ q : Nat, s.heap.size ≤ q → A q := fun q h => by rw [← hAe]; exact Or.inr h
  have hS : va_S A s.heap s.heap [] := va_S.rf
  have hP : va_P (dC, dI) vwCl [kx_4 m_ q_row q_t t_ h0 k0 w_ z_ slots old, kx_0 q_row q_cell len, kx_a q_cell cyI 160 f, kx_2 q_t q_row q_joined q_from q_to q_size q_lossOf q_lessBy q_value q_number nodes here, kx_a q_from cyI 319 ff, kx_a q_to cyI 319 ft, kx_a q_size cyI 319 fs, kx_a q_lossOf cyI 319 fo, kx_a q_lessBy cyI 319 fe, kx_a q_value cyI 1914 uv, kx_a q_number cyI 1914 un, kx_3 h0 a_v a_n vs lo le, kx_a a_v cyI 12 fv, kx_a a_n cyI 12 fn, kx_3 k0 kv kn sb lb eb, kx_a kv cyI 12 gb, kx_a kn cyI 12 nb] s.heap := hP
  have hl := lv_entry ([.ref m_, .ref q_t, .int p0, .int p1, .int p2, .int p3, .int p4, .int p5]) (n := 10) (Nat.le_of_ble_eq_true rfl)
  rw [lg_entry_eq]
  generalize (lg_sl ([.ref m_, .ref q_t, .int p0, .int p1, .int p2, .int p3, .int p4, .int p5]) ++ List.replicate (10 - (lg_sl ([.ref m_, .ref q_t, .int p0, .int p1, .int p2, .int p3, .int p4, .int p5])).length) Slot.unset).toArray = ls at hl ⊢
  have hl : lv_has ls 10 [(0, .ref m_), (1, .ref q_t), (2, .int p0), (3, .int p1), (4, .int p2), (5, .int p3), (6, .int p4), (7, .int p5)] := hl
  have hf_35 := hts (.fieldLink RX4 35 "MajorityIndex" "votes" "LMajorityIndex$Votes;") (List.mem_of_getElem? (i := 1) rfl)
  have hi_4 : ∀ w ∈ u_ws RX4 TX4 9, w ∈ wsX4_gatherHeavyOfBoth := fun w h => List.mem_cons_of_mem _ (List.mem_append_left _ (List.mem_append_left _ (List.mem_append_left _ (List.mem_append_right _ h))))
  have hm_91 := hts (.methodLink RX4 91 Lib.Math.min.name) (List.mem_of_getElem? (i := 2) rfl)
  have hms_min := hts (.static Lib.Math.min.name) (List.mem_of_getElem? (i := 3) rfl)
  have hz_math := hts (.initialized "java/lang/Math") (List.mem_of_getElem? (i := 4) rfl)
  have hmc_min := hts (.code Lib.Math.min.name Lib.Math.min.code 2 (some .int)) (List.mem_of_getElem? (i := 5) rfl)
  have hf_39 := hts (.fieldLink RX4 39 "MajorityIndex" "otherVotes" "LMajorityIndex$Votes;") (List.mem_of_getElem? (i := 6) rfl)
  have hm_96 := hts (.methodLink RX4 96 Lib.Math.max.name) (List.mem_of_getElem? (i := 7) rfl)
  have hms_max := hts (.static Lib.Math.max.name) (List.mem_of_getElem? (i := 8) rfl)
  have hmc_max := hts (.code Lib.Math.max.name Lib.Math.max.code 2 (some .int)) (List.mem_of_getElem? (i := 9) rfl)
  have hf_49 := hts (.fieldLink RX4 49 "MajorityIndex" "slotsNow" "I") (List.mem_of_getElem? (i := 10) rfl)
  have hf_174 := hts (.fieldLink RX4 174 "MajorityIndex$Votes" "size" "I") (List.mem_of_getElem? (i := 11) rfl)
  have hi_3 : ∀ w ∈ u_ws RX3 TX3 5, w ∈ wsX4_gatherHeavyOfBoth := fun w h => List.mem_cons_of_mem _ (List.mem_append_left _ (List.mem_append_left _ (List.mem_append_right _ h)))
  have hf_133 := hts (.fieldLink RX4 133 "MajorityIndex$Votes" "value" "[I") (List.mem_of_getElem? (i := 12) rfl)
  have hf_136 := hts (.fieldLink RX4 136 "MajorityIndex$Votes" "number" "[I") (List.mem_of_getElem? (i := 13) rfl)
  have hf_12 := hts (.fieldLink RX4 12 "MajorityIndex" "row" "LMajorityIndex$Row;") (List.mem_of_getElem? (i := 14) rfl)
  refine lv_aload_n hx hb dX4_gatherHeavyOfBoth_0 rfl (lv_at hl 1 rfl) ?_
  refine lv_aload_n hx hb dX4_gatherHeavyOfBoth_1 rfl (lv_at hl 0 rfl) ?_
  refine va_get (D := (dC, dI)) (ci := 4) (v := .ref h0) (C := RX4) (T := TX4) (N := 9) hx hb hts hi_4 hown hK hP 0 rfl rfl 3 (by decide) hf_35 (fun _ h9 => h9) rfl dX4_gatherHeavyOfBoth_2 ?_
  refine lv_iload_n hx hb dX4_gatherHeavyOfBoth_5 rfl (lv_at hl 2 rfl) ?_
  refine lv_iload hx hb dX4_gatherHeavyOfBoth_6 (lv_at hl 4 rfl) ?_
  refine va_mmin hx hb (hml.trans hl.1.symm) hown hm_91 hms_min hz_math hmc_min (Nat.le_of_ble_eq_true rfl) (Nat.le_of_ble_eq_true rfl) (Nat.le_of_ble_eq_true rfl) (Nat.le_of_ble_eq_true rfl) dX4_gatherHeavyOfBoth_8 ?_
  refine lv_topi (fun y_1 ey_1 => ?_)
  have i_2 : (p0.toInt ≤ p2.toInt ∧ y_1.toInt = p0.toInt) ∨ (p2.toInt < p0.toInt ∧ y_1.toInt = p2.toInt) := ki_min ey_1 rfl rfl
  refine lv_iload_n hx hb dX4_gatherHeavyOfBoth_11 rfl (lv_at hl 2 rfl) ?_
  refine lv_iload hx hb dX4_gatherHeavyOfBoth_12 (lv_at hl 4 rfl) ?_
  refine lv_icmp_ge (tgt := 21) hx hb dX4_gatherHeavyOfBoth_14 (by decide) (fun c_3 => ?_) (fun c_3 => ?_)
  · have i_3 : p2.toInt ≤ p0.toInt := kc_le c_3
    refine lv_iload hx hb dX4_gatherHeavyOfBoth_21 (lv_at hl 5 rfl) ?_
    obtain ⟨hPc, hDc, hFc, hCc⟩ := kx_preM (wc := [kx_2 q_t q_row q_joined q_from q_to q_size q_lossOf q_lessBy q_value q_number nodes here, kx_a q_from cyI 319 ff, kx_a q_to cyI 319 ft, kx_a q_size cyI 319 fs, kx_a q_lossOf cyI 319 fo, kx_a q_value cyI 1914 uv, kx_a q_number cyI 1914 un, kx_3 h0 a_v a_n vs lo le, kx_a a_v cyI 12 fv, kx_a a_n cyI 12 fn]) hP hD hS hA [false, false, false, true, true, true, true, true, false, true, true, true, true, true, false, false, false] rfl
    have hKc := hK
    refine va_callv (va_runV (As := [.ref h0, .int y_1, .int p3]) (rest := []) ⟨hx, hb, hml, hown, hts⟩ (kx_un (c_X2_gather_x l dC dI q_t q_row q_joined q_from q_to q_size q_lossOf q_lessBy q_value q_number nodes here h0 a_v a_n cyI vs lo le fv fn len f ff ft fs fo uv un fe y_1 p3 s.heap.size b0 c0 s0 c1 kh0 kh1 t0 hC.2.2.2.2.2.2)) (cwV 3 hts gX4_gatherHeavyOfBoth_X2_gather rfl rfl rfl (by decide +kernel) ⟨Nat.le_of_ble_eq_true rfl, Nat.le_of_ble_eq_true rfl⟩) ⟨fun a U g mk q => by obtain ⟨q0, q1, qP, qK, qD⟩ := q; exact ⟨q0, q1, qP, va_K.moved (u := U) (U := U.calling g mk a) (Vm.Alike.refl U.vm) qK, qD⟩, kx_rc2 hKc hPc (q0 := 0) rfl, fun U hU hW => ⟨rfl, by rw [hU], by rw [hU]; exact hPc, va_K.moved hW.alike hKc, hDc.weaken (fun _ _ _ _ => trivial)⟩⟩ rfl rfl hl.1 rfl (lv_room (Nat.le_of_ble_eq_true rfl)) dX4_gatherHeavyOfBoth_23 ⟨Nat.le_of_ble_eq_true rfl, Nat.le_of_ble_eq_true rfl⟩) hS (fun q _ h => hFc q h) hFc (fun u t H1 locs ht hvm w_4 hB hz1 hk1 hS => ?_)
    obtain ⟨o_5, o_6, o_7, o_8, o_9⟩ := u
    dsimp only at w_4 hB
    obtain ⟨hP1, hK1, hD1⟩ := hB
    rw [ht] at hP1
    have hK1 := va_K.moved hvm.symm hK1
    obtain ⟨hP, hD⟩ := kx_joinM (w2 := [kx_4 m_ q_row q_t t_ h0 k0 w_ z_ slots old, kx_0 q_row q_cell len, kx_a q_cell cyI 160 f, kx_2 q_t q_row q_joined q_from q_to q_size q_lossOf q_lessBy q_value q_number nodes here, kx_a q_from cyI 319 ff, kx_a q_to cyI 319 ft, kx_a q_size cyI 319 fs, kx_a q_lossOf cyI 319 fo, kx_a q_lessBy cyI 319 fe, kx_a q_value cyI 1914 uv, kx_a q_number cyI 1914 un, kx_3 h0 a_v a_n o_5 o_6 o_7, kx_a a_v cyI 12 o_8, kx_a a_n cyI 12 o_9, kx_3 k0 kv kn sb lb eb, kx_a kv cyI 12 gb, kx_a kn cyI 12 nb]) hP hD hP1 hD1 hk1 hFc [false, false, false, true, true, true, true, true, false, true, true, true, true, true, false, false, false] hCc rfl
    clear hP1 hD1 hK1 hk1 hz1 hFc hDc hPc hKc hCc
    generalize H1 = H at hP hS ⊢
    have w_4 : mj_GA here.toNatClampNeg ff ft fs fo uv un y_1.toInt p3.toInt (mj_pq ff ft y_1.toInt p3.toInt nodes.toNatClampNeg) o_5 o_6 o_8 o_9 ∧ 0 ≤ o_5.toInt ∧ o_5.toInt ≤ here.toInt := w_4
    refine lv_aload_n hx hb dX4_gatherHeavyOfBoth_26 rfl (lv_at hl 1 rfl) ?_
    refine lv_aload_n hx hb dX4_gatherHeavyOfBoth_27 rfl (lv_at hl 0 rfl) ?_
    refine va_get (D := (dC, dI)) (ci := 4) (v := .ref k0) (C := RX4) (T := TX4) (N := 9) hx hb hts hi_4 hown hK hP 0 rfl rfl 4 (by decide) hf_39 (fun _ h9 => h9) rfl dX4_gatherHeavyOfBoth_28 ?_
    refine lv_iload_n hx hb dX4_gatherHeavyOfBoth_31 rfl (lv_at hl 2 rfl) ?_
    refine lv_iload hx hb dX4_gatherHeavyOfBoth_32 (lv_at hl 4 rfl) ?_
    refine va_mmax hx hb (hml.trans hl.1.symm) hown hm_96 hms_max hz_math hmc_max (Nat.le_of_ble_eq_true rfl) (Nat.le_of_ble_eq_true rfl) (Nat.le_of_ble_eq_true rfl) (Nat.le_of_ble_eq_true rfl) dX4_gatherHeavyOfBoth_34 ?_
    refine lv_topi (fun y_10 ey_10 => ?_)
    have i_11 : (p0.toInt ≤ p2.toInt ∧ y_10.toInt = p2.toInt) ∨ (p2.toInt < p0.toInt ∧ y_10.toInt = p0.toInt) := ki_max ey_10 rfl rfl
    refine lv_iload_n hx hb dX4_gatherHeavyOfBoth_37 rfl (lv_at hl 2 rfl) ?_
    refine lv_iload hx hb dX4_gatherHeavyOfBoth_38 (lv_at hl 4 rfl) ?_
    refine lv_icmp_ge (tgt := 48) hx hb dX4_gatherHeavyOfBoth_40 (by decide) (fun c_12 => ?_) (fun c_12 => ?_)
    · have i_12 : p2.toInt ≤ p0.toInt := kc_le c_12
      refine lv_iload_n hx hb dX4_gatherHeavyOfBoth_48 rfl (lv_at hl 3 rfl) ?_
      obtain ⟨hPc, hDc, hFc, hCc⟩ := kx_preM (wc := [kx_2 q_t q_row q_joined q_from q_to q_size q_lossOf q_lessBy q_value q_number nodes here, kx_a q_from cyI 319 ff, kx_a q_to cyI 319 ft, kx_a q_size cyI 319 fs, kx_a q_lossOf cyI 319 fo, kx_a q_value cyI 1914 uv, kx_a q_number cyI 1914 un, kx_3 k0 kv kn sb lb eb, kx_a kv cyI 12 gb, kx_a kn cyI 12 nb]) hP hD hS hA [false, false, false, true, true, true, true, true, false, true, true, false, false, false, true, true, true] rfl
      have hKc := hK
      refine va_callv (va_runV (As := [.ref k0, .int y_10, .int p1]) (rest := []) ⟨hx, hb, hml, hown, hts⟩ (kx_un (c_X2_gather_x l dC dI q_t q_row q_joined q_from q_to q_size q_lossOf q_lessBy q_value q_number nodes here k0 kv kn cyI sb lb eb gb nb len f ff ft fs fo uv un fe y_10 p1 H.size b0 c0 s0 c1 kh0 kh1 t0 hC.2.2.2.2.2.2)) (cwV 3 hts gX4_gatherHeavyOfBoth_X2_gather rfl rfl rfl (by decide +kernel) ⟨Nat.le_of_ble_eq_true rfl, Nat.le_of_ble_eq_true rfl⟩) ⟨fun a U g mk q => by obtain ⟨q0, q1, qP, qK, qD⟩ := q; exact ⟨q0, q1, qP, va_K.moved (u := U) (U := U.calling g mk a) (Vm.Alike.refl U.vm) qK, qD⟩, kx_rc2 hKc hPc (q0 := 0) rfl, fun U hU hW => ⟨rfl, by rw [hU], by rw [hU]; exact hPc, va_K.moved hW.alike hKc, hDc.weaken (fun _ _ _ _ => trivial)⟩⟩ rfl rfl hl.1 rfl (lv_room (Nat.le_of_ble_eq_true rfl)) dX4_gatherHeavyOfBoth_49 ⟨Nat.le_of_ble_eq_true rfl, Nat.le_of_ble_eq_true rfl⟩) hS (fun q _ h => hFc q h) hFc (fun u t H1 locs ht hvm w_13 hB hz1 hk1 hS => ?_)
      obtain ⟨o_14, o_15, o_16, o_17, o_18⟩ := u
      dsimp only at w_13 hB
      obtain ⟨hP1, hK1, hD1⟩ := hB
      rw [ht] at hP1
      have hK1 := va_K.moved hvm.symm hK1
      obtain ⟨hP, hD⟩ := kx_joinM (w2 := [kx_4 m_ q_row q_t t_ h0 k0 w_ z_ slots old, kx_0 q_row q_cell len, kx_a q_cell cyI 160 f, kx_2 q_t q_row q_joined q_from q_to q_size q_lossOf q_lessBy q_value q_number nodes here, kx_a q_from cyI 319 ff, kx_a q_to cyI 319 ft, kx_a q_size cyI 319 fs, kx_a q_lossOf cyI 319 fo, kx_a q_lessBy cyI 319 fe, kx_a q_value cyI 1914 uv, kx_a q_number cyI 1914 un, kx_3 h0 a_v a_n o_5 o_6 o_7, kx_a a_v cyI 12 o_8, kx_a a_n cyI 12 o_9, kx_3 k0 kv kn o_14 o_15 o_16, kx_a kv cyI 12 o_17, kx_a kn cyI 12 o_18]) hP hD hP1 hD1 hk1 hFc [false, false, false, true, true, true, true, true, false, true, true, false, false, false, true, true, true] hCc rfl
      clear hP1 hD1 hK1 hk1 hz1 hFc hDc hPc hKc hCc
      generalize H1 = H at hP hS ⊢
      have w_13 : mj_GA here.toNatClampNeg ff ft fs fo uv un y_10.toInt p1.toInt (mj_pq ff ft y_10.toInt p1.toInt nodes.toNatClampNeg) o_14 o_15 o_17 o_18 ∧ 0 ≤ o_14.toInt ∧ o_14.toInt ≤ here.toInt := w_13
      refine lv_aload_n hx hb dX4_gatherHeavyOfBoth_52 rfl (lv_at hl 0 rfl) ?_
      refine va_get (D := (dC, dI)) (ci := 4) (v := .ref h0) (C := RX4) (T := TX4) (N := 9) hx hb hts hi_4 hown hK hP 0 rfl rfl 3 (by decide) hf_35 (fun _ h9 => h9) rfl dX4_gatherHeavyOfBoth_53 ?_
      refine lv_aload_n hx hb dX4_gatherHeavyOfBoth_56 rfl (lv_at hl 0 rfl) ?_
      refine va_get (D := (dC, dI)) (ci := 4) (v := .ref k0) (C := RX4) (T := TX4) (N := 9) hx hb hts hi_4 hown hK hP 0 rfl rfl 4 (by decide) hf_39 (fun _ h9 => h9) rfl dX4_gatherHeavyOfBoth_57 ?_
      have i_hh : here.toInt = slots.toInt := by rw [hh]
      have i_8 : y_1.toInt = p2.toInt := by omega
      have i_34 : y_10.toInt = p0.toInt := by omega
      obtain ⟨mua, h_va, h_ma, h_ba⟩ := mj_GA_mg s1 hC c1 (by omega) (by omega) (by omega) w_4.1
      obtain ⟨mub, h_vb, h_mb, h_bb⟩ := mj_GA_mg s1 hC c1 (by omega) (by omega) (by omega) w_13.1
      rw [i_8] at h_ma
      rw [i_34] at h_mb
      obtain ⟨hPc, hDc, hFc, hCc⟩ := kx_preM (wc := [kx_3 h0 a_v a_n o_5 o_6 o_7, kx_a a_v cyI 12 o_8, kx_a a_n cyI 12 o_9, kx_3 k0 kv kn o_14 o_15 o_16, kx_a kv cyI 12 o_17, kx_a kn cyI 12 o_18]) hP hD hS hA [false, false, false, false, false, false, false, false, false, false, false, true, true, true, true, true, true] rfl
      have hKc := hK
      refine va_callv (va_runV (As := [.ref k0]) (rest := []) ⟨hx, hb, hml, hown, hts⟩ (kx_un (c_X3_join_x l dC dI h0 a_v a_n cyI o_5 o_6 o_7 o_8 o_9 k0 kv kn o_14 o_15 o_16 o_17 o_18 mua mub H.size (by omega) (by omega) (by omega) (by omega) h_va h_vb (fun v => by have h1 := h_ba v; have h2 := h_bb v; omega))) (cwV 1 hts gX4_gatherHeavyOfBoth_X3_join rfl rfl rfl (by decide +kernel) ⟨Nat.le_of_ble_eq_true rfl, Nat.le_of_ble_eq_true rfl⟩) ⟨fun a U g mk q => by obtain ⟨q0, q1, qP, qK, qD⟩ := q; exact ⟨q0, q1, qP, va_K.moved (u := U) (U := U.calling g mk a) (Vm.Alike.refl U.vm) qK, qD⟩, kx_rc3 hKc hPc (q0 := 0) rfl, fun U hU hW => ⟨rfl, by rw [hU], by rw [hU]; exact hPc, va_K.moved hW.alike hKc, hDc.weaken (fun _ _ _ _ => trivial)⟩⟩ rfl rfl hl.1 rfl (lv_room (Nat.le_of_ble_eq_true rfl)) dX4_gatherHeavyOfBoth_60 ⟨Nat.le_of_ble_eq_true rfl, Nat.le_of_ble_eq_true rfl⟩) hS (fun q _ h => hFc q h) hFc (fun u t H1 locs ht hvm w_19 hB hz1 hk1 hS => ?_)
      obtain ⟨o_20, o_21, o_22, o_23⟩ := u
      dsimp only at w_19 hB
      obtain ⟨hP1, hK1, hD1⟩ := hB
      rw [ht] at hP1
      have hK1 := va_K.moved hvm.symm hK1
      obtain ⟨hP, hD⟩ := kx_joinM (w2 := [kx_4 m_ q_row q_t t_ h0 k0 w_ z_ slots old, kx_0 q_row q_cell len, kx_a q_cell cyI 160 f, kx_2 q_t q_row q_joined q_from q_to q_size q_lossOf q_lessBy q_value q_number nodes here, kx_a q_from cyI 319 ff, kx_a q_to cyI 319 ft, kx_a q_size cyI 319 fs, kx_a q_lossOf cyI 319 fo, kx_a q_lessBy cyI 319 fe, kx_a q_value cyI 1914 uv, kx_a q_number cyI 1914 un, kx_3 h0 a_v a_n o_20 o_21 o_7, kx_a a_v cyI 12 o_22, kx_a a_n cyI 12 o_23, kx_3 k0 kv kn o_14 o_15 o_16, kx_a kv cyI 12 o_17, kx_a kn cyI 12 o_18]) hP hD hP1 hD1 hk1 hFc [false, false, false, false, false, false, false, false, false, false, false, true, true, true, true, true, true] hCc rfl
      clear hP1 hD1 hK1 hk1 hz1 hFc hDc hPc hKc hCc
      generalize H1 = H at hP hS ⊢
      have w_19 : mj_vs o_22 o_23 0 o_20.toNatClampNeg (fun w => mua w + mub w) ∧ o_21 = o_6 + o_15 ∧ 0 ≤ o_20.toInt ∧ o_20.toInt ≤ o_5.toInt + o_14.toInt := w_19
      refine lv_aload_n hx hb dX4_gatherHeavyOfBoth_63 rfl (lv_at hl 0 rfl) ?_
      refine va_get (D := (dC, dI)) (ci := 4) (v := .ref h0) (C := RX4) (T := TX4) (N := 9) hx hb hts hi_4 hown hK hP 0 rfl rfl 3 (by decide) hf_35 (fun _ h9 => h9) rfl dX4_gatherHeavyOfBoth_64 ?_
      refine lv_aload_n hx hb dX4_gatherHeavyOfBoth_67 rfl (lv_at hl 0 rfl) ?_
      refine va_get (D := (dC, dI)) (ci := 4) (v := .int slots) (C := RX4) (T := TX4) (N := 9) hx hb hts hi_4 hown hK hP 0 rfl rfl 7 (by decide) hf_49 (fun _ h9 => h9) rfl dX4_gatherHeavyOfBoth_68 ?_
      obtain ⟨hPc, hDc, hFc, hCc⟩ := kx_preM (wc := [kx_3 h0 a_v a_n o_20 o_21 o_7, kx_a a_v cyI 12 o_22, kx_a a_n cyI 12 o_23]) hP hD hS hA [false, false, false, false, false, false, false, false, false, false, false, true, true, true, false, false, false] rfl
      have hKc := hK
      refine va_callv (va_runV (As := [.int slots]) (rest := []) ⟨hx, hb, hml, hown, hts⟩ (kx_un (c_X3_cancel_x l dC dI h0 a_v a_n cyI o_20 o_21 o_7 o_22 o_23 (fun w => mua w + mub w) slots H.size (by omega) (by omega) (by omega) (by omega) w_19.1 (fun v => by have h1 := h_ba v; have h2 := h_bb v; show mua v + mub v ≤ _; omega))) (cwV 1 hts gX4_gatherHeavyOfBoth_X3_cancel rfl rfl rfl (by decide +kernel) ⟨Nat.le_of_ble_eq_true rfl, Nat.le_of_ble_eq_true rfl⟩) ⟨fun a U g mk q => by obtain ⟨q0, q1, qP, qK, qD⟩ := q; exact ⟨q0, q1, qP, va_K.moved (u := U) (U := U.calling g mk a) (Vm.Alike.refl U.vm) qK, qD⟩, kx_rc3 hKc hPc (q0 := 0) rfl, fun U hU hW => ⟨rfl, by rw [hU], by rw [hU]; exact hPc, va_K.moved hW.alike hKc, hDc.weaken (fun _ _ _ _ => trivial)⟩⟩ rfl rfl hl.1 rfl (lv_room (Nat.le_of_ble_eq_true rfl)) dX4_gatherHeavyOfBoth_71 ⟨Nat.le_of_ble_eq_true rfl, Nat.le_of_ble_eq_true rfl⟩) hS (fun q _ h => hFc q h) hFc (fun u t H1 locs ht hvm w_24 hB hz1 hk1 hS => ?_)
      obtain ⟨o_25, o_26, o_27, o_28, o_29, o_30⟩ := u
      dsimp only at w_24 hB
      obtain ⟨hP1, hK1, hD1⟩ := hB
      rw [ht] at hP1
      have hK1 := va_K.moved hvm.symm hK1
      obtain ⟨hP, hD⟩ := kx_joinM (w2 := [kx_4 m_ q_row q_t t_ h0 k0 w_ z_ slots old, kx_0 q_row q_cell len, kx_a q_cell cyI 160 f, kx_2 q_t q_row q_joined q_from q_to q_size q_lossOf q_lessBy q_value q_number nodes here, kx_a q_from cyI 319 ff, kx_a q_to cyI 319 ft, kx_a q_size cyI 319 fs, kx_a q_lossOf cyI 319 fo, kx_a q_lessBy cyI 319 fe, kx_a q_value cyI 1914 uv, kx_a q_number cyI 1914 un, kx_3 h0 a_v a_n o_25 o_26 o_27, kx_a a_v cyI 12 o_28, kx_a a_n cyI 12 o_29, kx_3 k0 kv kn o_14 o_15 o_16, kx_a kv cyI 12 o_17, kx_a kn cyI 12 o_18]) hP hD hP1 hD1 hk1 hFc [false, false, false, false, false, false, false, false, false, false, false, true, true, true, false, false, false] hCc rfl
      clear hP1 hD1 hK1 hk1 hz1 hFc hDc hPc hKc hCc
      generalize H1 = H at hP hS ⊢
      have w_24 : mj_can slots.toNatClampNeg (fun w => mua w + mub w) o_30 o_27 ∧ o_26 = o_21 + o_27 ∧ 0 ≤ o_25.toInt ∧ o_25.toInt ≤ slots.toInt ∧ mj_vs o_28 o_29 0 o_25.toNatClampNeg o_30 ∧ mj_srt o_28 o_29 0 o_25.toNatClampNeg ∧ 0 ≤ o_27.toInt := w_24
      refine lv_iconst (v := 0) hx hb dX4_gatherHeavyOfBoth_74 (by decide) ?_
      refine lv_istore (lv' := [(8, .int 0), (0, .ref m_), (1, .ref q_t), (2, .int p0), (3, .int p1), (4, .int p2), (5, .int p3), (6, .int p4), (7, .int p5)]) hx hb dX4_gatherHeavyOfBoth_75 hl (by decide) rfl (fun ls hl => ?_)
      have LP1 : ∀ (n : Nat) (i : Int32) (wn : Nat → Int32), (0 ≤ i.toInt) → (i.toInt ≤ o_25.toInt) → (∀ j : Nat, j < i.toNatClampNeg → (wn j).toInt = (cnt f (o_28 j) p0.toNatClampNeg (p1.toInt - p0.toInt).toNat : Int) + (cnt f (o_28 j) p2.toNatClampNeg ((p3.toInt : Int) - p2.toInt).toNat : Int)) → (o_25.toInt - i.toInt).toNat < n → ∀ (H : Heap) (locs : List Loc), va_P (dC, dI) vwCl [kx_4 m_ q_row q_t t_ h0 k0 w_ z_ slots old, kx_0 q_row q_cell len, kx_a q_cell cyI 160 f, kx_2 q_t q_row q_joined q_from q_to q_size q_lossOf q_lessBy q_value q_number nodes here, kx_a q_from cyI 319 ff, kx_a q_to cyI 319 ft, kx_a q_size cyI 319 fs, kx_a q_lossOf cyI 319 fo, kx_a q_lessBy cyI 319 fe, kx_a q_value cyI 1914 uv, kx_a q_number cyI 1914 un, kx_3 h0 a_v a_n o_25 o_26 o_27, kx_a a_v cyI 12 o_28, kx_a a_n cyI 12 wn, kx_3 k0 kv kn o_14 o_15 o_16, kx_a kv cyI 12 o_17, kx_a kn cyI 12 o_18] H → va_D A [kx_4 m_ q_row q_t t_ h0 k0 w_ z_ slots old, kx_0 q_row q_cell len, kx_a q_cell cyI 160 f, kx_2 q_t q_row q_joined q_from q_to q_size q_lossOf q_lessBy q_value q_number nodes here, kx_a q_from cyI 319 ff, kx_a q_to cyI 319 ft, kx_a q_size cyI 319 fs, kx_a q_lossOf cyI 319 fo, kx_a q_lessBy cyI 319 fe, kx_a q_value cyI 1914 uv, kx_a q_number cyI 1914 un, kx_3 h0 a_v a_n o_25 o_26 o_27, kx_a a_v cyI 12 o_28, kx_a a_n cyI 12 wn, kx_3 k0 kv kn o_14 o_15 o_16, kx_a kv cyI 12 o_17, kx_a kn cyI 12 o_18] → va_S A s.heap H locs → ∀ (ls : Array Slot), lv_has ls 10 [(8, .int i), (0, .ref m_), (1, .ref q_t), (2, .int p0), (3, .int p1), (4, .int p2), (5, .int p3), (6, .int p4), (7, .int p5)] → W p l e (headSpec wsX4_gatherHeavyOfBoth ({ frames := 4, cells := 0, slots := 0, locals := 180 })).room s m ([.ref m_, .ref q_t, .int p0, .int p1, .int p2, .int p3, .int p4, .int p5] : List Value).toArray below meth c H locs 0 0 (MQ below (va_Qv (fun u : Int32 × Int32 × Int32 × (Nat → Int32) × (Nat → Int32) × Int32 × Int32 × Int32 × (Nat → Int32) × (Nat → Int32) => mj_vs u.2.2.2.1 u.2.2.2.2.1 0 u.1.toNatClampNeg (mj_hvm p4.toInt p5.toInt (p1.toInt - p0.toInt + p3.toInt - p2.toInt) (fun v => (cnt f v p0.toNatClampNeg (p1.toInt - p0.toInt).toNat : Int) + (cnt f v p2.toNatClampNeg ((p3.toInt : Int) - p2.toInt).toNat : Int))) ∧ mj_srt u.2.2.2.1 u.2.2.2.2.1 0 u.1.toNatClampNeg ∧ 0 ≤ u.1.toInt ∧ u.1.toInt ≤ 6) (fun (u : Int32 × Int32 × Int32 × (Nat → Int32) × (Nat → Int32) × Int32 × Int32 × Int32 × (Nat → Int32) × (Nat → Int32)) (t : State) => va_P (dC, dI) vwCl [kx_4 m_ q_row q_t t_ h0 k0 w_ z_ slots old, kx_0 q_row q_cell len, kx_a q_cell cyI 160 f, kx_2 q_t q_row q_joined q_from q_to q_size q_lossOf q_lessBy q_value q_number nodes here, kx_a q_from cyI 319 ff, kx_a q_to cyI 319 ft, kx_a q_size cyI 319 fs, kx_a q_lossOf cyI 319 fo, kx_a q_lessBy cyI 319 fe, kx_a q_value cyI 1914 uv, kx_a q_number cyI 1914 un, kx_3 h0 a_v a_n u.1 u.2.1 u.2.2.1, kx_a a_v cyI 12 u.2.2.2.1, kx_a a_n cyI 12 u.2.2.2.2.1, kx_3 k0 kv kn u.2.2.2.2.2.1 u.2.2.2.2.2.2.1 u.2.2.2.2.2.2.2.1, kx_a kv cyI 12 u.2.2.2.2.2.2.2.2.1, kx_a kn cyI 12 u.2.2.2.2.2.2.2.2.2] t.heap ∧ va_K (dC, dI) vwCl [(cyI, .int)] t ∧ va_D A [kx_4 m_ q_row q_t t_ h0 k0 w_ z_ slots old, kx_0 q_row q_cell len, kx_a q_cell cyI 160 f, kx_2 q_t q_row q_joined q_from q_to q_size q_lossOf q_lessBy q_value q_number nodes here, kx_a q_from cyI 319 ff, kx_a q_to cyI 319 ft, kx_a q_size cyI 319 fs, kx_a q_lossOf cyI 319 fo, kx_a q_lessBy cyI 319 fe, kx_a q_value cyI 1914 uv, kx_a q_number cyI 1914 un, kx_3 h0 a_v a_n u.1 u.2.1 u.2.2.1, kx_a a_v cyI 12 u.2.2.2.1, kx_a a_n cyI 12 u.2.2.2.2.1, kx_3 k0 kv kn u.2.2.2.2.2.1 u.2.2.2.2.2.2.1 u.2.2.2.2.2.2.2.1, kx_a kv cyI 12 u.2.2.2.2.2.2.2.2.1, kx_a kn cyI 12 u.2.2.2.2.2.2.2.2.2]) A) ([.ref m_, .ref q_t, .int p0, .int p1, .int p2, .int p3, .int p4, .int p5] : List Value).toArray s 0 0 A) (F0 m 77 ls []) := by
        intro n
        induction n with
        | zero => intro i wn LP1_h0 LP1_h1 LP1_h2 hn; exact absurd hn (Nat.not_lt_zero _)
        | succ n ih1 =>
          intro i wn LP1_h0 LP1_h1 LP1_h2 hn1 H locs hP hD hS ls hl
          have n_i := ki_nat i rfl (om_10 LP1_h0)
          refine lv_iload hx hb dX4_gatherHeavyOfBoth_77 (lv_at hl 0 rfl) ?_
          refine lv_aload_n hx hb dX4_gatherHeavyOfBoth_79 rfl (lv_at hl 1 rfl) ?_
          refine va_get (D := (dC, dI)) (ci := 4) (v := .ref h0) (C := RX4) (T := TX4) (N := 9) hx hb hts hi_4 hown hK hP 0 rfl rfl 3 (by decide) hf_35 (fun _ h9 => h9) rfl dX4_gatherHeavyOfBoth_80 ?_
          refine va_get (D := (dC, dI)) (ci := 3) (v := .int o_25) (C := RX3) (T := TX3) (N := 5) hx hb hts hi_3 hown hK hP 11 rfl rfl 2 (by decide) hf_174 (fun _ h9 => h9) rfl dX4_gatherHeavyOfBoth_83 ?_
          refine lv_icmp_ge (tgt := 142) hx hb dX4_gatherHeavyOfBoth_86 (by decide) (fun c_31 => ?_) (fun c_31 => ?_)
          · have i_31 : o_25.toInt ≤ i.toInt := kc_le c_31
            refine lv_aload_n hx hb dX4_gatherHeavyOfBoth_142 rfl (lv_at hl 1 rfl) ?_
            refine va_get (D := (dC, dI)) (ci := 4) (v := .ref h0) (C := RX4) (T := TX4) (N := 9) hx hb hts hi_4 hown hK hP 0 rfl rfl 3 (by decide) hf_35 (fun _ h9 => h9) rfl dX4_gatherHeavyOfBoth_143 ?_
            refine lv_iload_n hx hb dX4_gatherHeavyOfBoth_146 rfl (lv_at hl 4 rfl) ?_
            refine lv_iload_n hx hb dX4_gatherHeavyOfBoth_147 rfl (lv_at hl 3 rfl) ?_
            refine lv_isub hx hb dX4_gatherHeavyOfBoth_148 ?_
            refine lv_topi (fun y_32 ey_32 => ?_)
            have i_32 : y_32.toInt = p1.toInt - p0.toInt := ki_sub ey_32 rfl rfl (om_168 d1) (om_561 d4 d6)
            refine lv_iload hx hb dX4_gatherHeavyOfBoth_149 (lv_at hl 6 rfl) ?_
            refine lv_iadd hx hb dX4_gatherHeavyOfBoth_151 ?_
            refine lv_topi (fun y_33 ey_33 => ?_)
            have i_33 : y_33.toInt = y_32.toInt + p3.toInt := ki_add ey_33 rfl rfl (om_562 d1 d3 d4 i_32) (om_563 c1 d2 d5 d6 i_3 i_32)
            refine lv_iload hx hb dX4_gatherHeavyOfBoth_152 (lv_at hl 5 rfl) ?_
            refine lv_isub hx hb dX4_gatherHeavyOfBoth_154 ?_
            refine lv_topi (fun y_34 ey_34 => ?_)
            have i_34 : y_34.toInt = y_33.toInt - p2.toInt := ki_sub ey_34 rfl rfl (om_564 d1 d4 i_32 i_33) (om_565 d6 i_32 i_33)
            refine lv_iload hx hb dX4_gatherHeavyOfBoth_155 (lv_at hl 7 rfl) ?_
            refine lv_iload hx hb dX4_gatherHeavyOfBoth_157 (lv_at hl 8 rfl) ?_
            obtain ⟨hPc, hDc, hFc, hCc⟩ := kx_preM (wc := [kx_3 h0 a_v a_n o_25 o_26 o_27, kx_a a_v cyI 12 o_28, kx_a a_n cyI 12 wn]) hP hD hS hA [false, false, false, false, false, false, false, false, false, false, false, true, true, true, false, false, false] rfl
            have hKc := hK
            refine va_callv (va_runV (As := [.int y_34, .int p4, .int p5]) (rest := []) ⟨hx, hb, hml, hown, hts⟩ (c_X3_keepHeavy_x l dC dI h0 a_v a_n cyI o_25 o_26 o_27 o_28 wn (fun v => (cnt f v p0.toNatClampNeg (p1.toInt - p0.toInt).toNat : Int) + (cnt f v p2.toNatClampNeg ((p3.toInt : Int) - p2.toInt).toNat : Int)) y_34 p4 p5 H.size (by omega) (by omega) (by omega) (by omega) (by omega) (by omega) (by omega) (by omega) (fun j hj => by have n9 := ki_nat o_25 rfl (by omega); have h9 := LP1_h2 j (by omega); have h8 := cnt_le f (o_28 j) p0.toNatClampNeg (p1.toInt - p0.toInt).toNat; have h7 := cnt_le f (o_28 j) p2.toNatClampNeg ((p3.toInt : Int) - p2.toInt).toNat; exact ⟨h9, by omega, by omega⟩) (fun a b ha hb hab => w_24.2.2.2.2.1.2.1 a b ha hb (by rw [Nat.zero_add, Nat.zero_add]; exact hab))) (cwV 3 hts gX4_gatherHeavyOfBoth_X3_keepHeavy rfl rfl rfl (by decide +kernel) ⟨Nat.le_of_ble_eq_true rfl, Nat.le_of_ble_eq_true rfl⟩) ⟨fun a U g mk q => by obtain ⟨q0, q1, qP, qK, qD, qn0⟩ := q; exact ⟨q0, q1, qP, va_K.moved (u := U) (U := U.calling g mk a) (Vm.Alike.refl U.vm) qK, qD, va_Nw.same (u := U) (U := U.calling g mk a) rfl rfl qn0⟩, kx_rc3 hKc hPc (q0 := 0) rfl, fun U hU hW => ⟨rfl, by rw [hU], by rw [hU]; exact hPc, va_K.moved hW.alike hKc, hDc.weaken (fun _ _ _ _ => trivial), va_Nw.warmM hW hN0⟩⟩ rfl rfl hl.1 rfl (lv_room (Nat.le_of_ble_eq_true rfl)) dX4_gatherHeavyOfBoth_159 ⟨Nat.le_of_ble_eq_true rfl, Nat.le_of_ble_eq_true rfl⟩) hS (fun q _ h => hFc q h) hFc (fun u t H1 locs ht hvm w_35 hB hz1 hk1 hS => ?_)
            obtain ⟨o_36, o_37, o_38⟩ := u
            dsimp only at w_35 hB
            obtain ⟨hP1, hK1, hD1⟩ := hB
            rw [ht] at hP1
            have hK1 := va_K.moved hvm.symm hK1
            obtain ⟨hP, hD⟩ := kx_joinM (w2 := [kx_4 m_ q_row q_t t_ h0 k0 w_ z_ slots old, kx_0 q_row q_cell len, kx_a q_cell cyI 160 f, kx_2 q_t q_row q_joined q_from q_to q_size q_lossOf q_lessBy q_value q_number nodes here, kx_a q_from cyI 319 ff, kx_a q_to cyI 319 ft, kx_a q_size cyI 319 fs, kx_a q_lossOf cyI 319 fo, kx_a q_lessBy cyI 319 fe, kx_a q_value cyI 1914 uv, kx_a q_number cyI 1914 un, kx_3 h0 a_v a_n o_36 o_26 o_27, kx_a a_v cyI 12 o_37, kx_a a_n cyI 12 o_38, kx_3 k0 kv kn o_14 o_15 o_16, kx_a kv cyI 12 o_17, kx_a kn cyI 12 o_18]) hP hD hP1 hD1 hk1 hFc [false, false, false, false, false, false, false, false, false, false, false, true, true, true, false, false, false] hCc rfl
            clear hP1 hD1 hK1 hk1 hz1 hFc hDc hPc hKc hCc
            generalize H1 = H at hP hS ⊢
            have w_35 : mj_vs o_37 o_38 0 o_36.toNatClampNeg (mj_hp p4.toInt p5.toInt y_34.toInt o_28 (fun v => (cnt f v p0.toNatClampNeg (p1.toInt - p0.toInt).toNat : Int) + (cnt f v p2.toNatClampNeg ((p3.toInt : Int) - p2.toInt).toNat : Int)) o_25.toNatClampNeg) ∧ mj_srt o_37 o_38 0 o_36.toNatClampNeg ∧ o_36.toInt = (mj_hk p4.toInt p5.toInt y_34.toInt o_28 (fun v => (cnt f v p0.toNatClampNeg (p1.toInt - p0.toInt).toNat : Int) + (cnt f v p2.toNatClampNeg ((p3.toInt : Int) - p2.toInt).toNat : Int)) o_25.toNatClampNeg : Int) ∧ 0 ≤ o_36.toInt ∧ o_36.toInt ≤ o_25.toInt := w_35
            have hP9 := hP
            have hD9 := hD
            have hK9 := hK
            have h_t := mj_can_tog w_24.1 (fun v => rfl)
            rw [← hh] at h_t
            have n_h := ki_nat here rfl (by omega)
            have h_mg := mj_mg_tog (C := fun v => cnt f v p0.toNatClampNeg (p1.toInt - p0.toInt).toNat + cnt f v p2.toNatClampNeg ((p3.toInt : Int) - p2.toInt).toNat) (n := (p1.toInt - p0.toInt + p3.toInt - p2.toInt).toNat) h_ma h_mb h_t (by omega) (fun v => Nat.add_comm _ _)
            have h_in : ∀ v : Int32, p4.toInt * (p1.toInt - p0.toInt + p3.toInt - p2.toInt) < ((cnt f v p0.toNatClampNeg (p1.toInt - p0.toInt).toNat : Int) + (cnt f v p2.toNatClampNeg ((p3.toInt : Int) - p2.toInt).toNat : Int)) * p5.toInt → ∃ j : Nat, j < o_25.toNatClampNeg ∧ o_28 j = v := fun v hv9 => by
              have ne := mj_mg_heavy (v := v) (p := p4.toInt) (q := p5.toInt) h_mg (by omega) (by omega) (by rw [n_h]; exact he) (by rw [show (((p1.toInt - p0.toInt + p3.toInt - p2.toInt).toNat : Nat) : Int) = p1.toInt - p0.toInt + p3.toInt - p2.toInt by omega]; show _ < ((cnt f v p0.toNatClampNeg (p1.toInt - p0.toInt).toNat + cnt f v p2.toNatClampNeg ((p3.toInt : Int) - p2.toInt).toNat : Nat) : Int) * _; rw [show ((cnt f v p0.toNatClampNeg (p1.toInt - p0.toInt).toNat + cnt f v p2.toNatClampNeg ((p3.toInt : Int) - p2.toInt).toNat : Nat) : Int) = ((cnt f v p0.toNatClampNeg (p1.toInt - p0.toInt).toNat : Int) + (cnt f v p2.toNatClampNeg ((p3.toInt : Int) - p2.toInt).toNat : Int)) by omega]; exact hv9)
              obtain ⟨j, j1, j2⟩ := w_24.2.2.2.2.1.2.2 v ne
              rw [Nat.zero_add] at j2
              exact ⟨j, j1, j2⟩
            have h_d : ∀ a b : Nat, a < o_25.toNatClampNeg → b < o_25.toNatClampNeg → o_28 a = o_28 b → a = b := fun a b ha hb hab => w_24.2.2.2.2.1.2.1 a b ha hb (by rw [Nat.zero_add, Nat.zero_add]; exact hab)
            have h_k := w_35
            have i_n : y_34.toInt = p1.toInt - p0.toInt + p3.toInt - p2.toInt := by omega
            rw [i_n] at h_k
            exact W.vret hx hb hr (hlocks := hlocks) (fun t ht hW => ⟨⟨(o_36, o_26, o_27, o_37, o_38, o_14, o_15, o_16, o_17, o_18), rfl, ⟨mj_vs_congr h_k.1 (mj_hp_hvm h_d h_in), h_k.2.1, (by (try dsimp only); omega), (by (try dsimp only); omega)⟩, by rw [ht]; exact hP9, va_K.moved hW.alike hK9, hD9⟩, hS.F ht⟩) hS.2.2 dX4_gatherHeavyOfBoth_162
          · have i_31 : i.toInt < o_25.toInt := kc_nle c_31
            refine lv_aload_n hx hb dX4_gatherHeavyOfBoth_89 rfl (lv_at hl 1 rfl) ?_
            refine va_get (D := (dC, dI)) (ci := 4) (v := .ref h0) (C := RX4) (T := TX4) (N := 9) hx hb hts hi_4 hown hK hP 0 rfl rfl 3 (by decide) hf_35 (fun _ h9 => h9) rfl dX4_gatherHeavyOfBoth_90 ?_
            refine va_get (D := (dC, dI)) (ci := 3) (v := .ref a_v) (C := RX3) (T := TX3) (N := 5) hx hb hts hi_3 hown hK hP 11 rfl rfl 0 (by decide) hf_133 (fun _ h9 => h9) rfl dX4_gatherHeavyOfBoth_93 ?_
            refine lv_iload hx hb dX4_gatherHeavyOfBoth_96 (lv_at hl 0 rfl) ?_
            refine va_iald hx hb hK hP 12 0 rfl rfl (ki_in (om_10 LP1_h0) (by omega)) dX4_gatherHeavyOfBoth_98 ?_
            refine lv_topi (fun y_39 ey_39 => ?_)
            have j_39 : y_39.toInt = (o_28 i.toNatClampNeg).toInt := congrArg Int32.toInt ey_39
            refine lv_istore (lv' := [(9, .int y_39), (8, .int i), (0, .ref m_), (1, .ref q_t), (2, .int p0), (3, .int p1), (4, .int p2), (5, .int p3), (6, .int p4), (7, .int p5)]) hx hb dX4_gatherHeavyOfBoth_99 hl (by decide) rfl (fun ls hl => ?_)
            refine lv_aload_n hx hb dX4_gatherHeavyOfBoth_101 rfl (lv_at hl 2 rfl) ?_
            refine va_get (D := (dC, dI)) (ci := 4) (v := .ref h0) (C := RX4) (T := TX4) (N := 9) hx hb hts hi_4 hown hK hP 0 rfl rfl 3 (by decide) hf_35 (fun _ h9 => h9) rfl dX4_gatherHeavyOfBoth_102 ?_
            refine va_get (D := (dC, dI)) (ci := 3) (v := .ref a_n) (C := RX3) (T := TX3) (N := 5) hx hb hts hi_3 hown hK hP 11 rfl rfl 1 (by decide) hf_136 (fun _ h9 => h9) rfl dX4_gatherHeavyOfBoth_105 ?_
            refine lv_iload hx hb dX4_gatherHeavyOfBoth_108 (lv_at hl 1 rfl) ?_
            refine lv_aload_n hx hb dX4_gatherHeavyOfBoth_110 rfl (lv_at hl 2 rfl) ?_
            refine va_get (D := (dC, dI)) (ci := 4) (v := .ref q_row) (C := RX4) (T := TX4) (N := 9) hx hb hts hi_4 hown hK hP 0 rfl rfl 0 (by decide) hf_12 (fun _ h9 => h9) rfl dX4_gatherHeavyOfBoth_111 ?_
            refine lv_iload hx hb dX4_gatherHeavyOfBoth_114 (lv_at hl 0 rfl) ?_
            refine lv_iload_n hx hb dX4_gatherHeavyOfBoth_116 rfl (lv_at hl 4 rfl) ?_
            refine lv_iload_n hx hb dX4_gatherHeavyOfBoth_117 rfl (lv_at hl 5 rfl) ?_
            have hPc := hP.sub (ws' := [kx_0 q_row q_cell len, kx_a q_cell cyI 160 f]) [1, 2] rfl
            have hKc := hK
            refine vp_callSi (W.runV (As := [.int y_39, .int p0, .int p1]) (rest := [.int i, .ref a_n]) ⟨hx, hb, hml, hown, hts⟩ (c_X0_oftenIn l dC dI q_row q_cell cyI len f y_39 p0 p1 d0 (om_167 c1 d2)) (cwV 3 hts gX4_gatherHeavyOfBoth_X0_oftenIn rfl rfl rfl (by decide +kernel) ⟨Nat.le_of_ble_eq_true rfl, Nat.le_of_ble_eq_true rfl⟩) ⟨fun a U g mk q => by obtain ⟨q0, qP, qK⟩ := q; exact ⟨q0, qP, va_K.moved (u := U) (U := U.calling g mk a) (Vm.Alike.refl U.vm) qK⟩, kx_rc0 hKc hPc (q0 := 0) rfl, fun U hU hW => ⟨rfl, by rw [hU]; exact hPc, va_K.moved hW.alike hKc⟩⟩ rfl rfl hl.1 rfl (lv_room (Nat.le_of_ble_eq_true rfl)) dX4_gatherHeavyOfBoth_118 ⟨Nat.le_of_ble_eq_true rfl, Nat.le_of_ble_eq_true rfl⟩) (fun r_40 w_40 => ?_)
            have w_40 : r_40.toInt = (cnt f y_39 p0.toNatClampNeg (p1.toInt - p0.toInt).toNat : Int) := w_40
            refine lv_aload_n hx hb dX4_gatherHeavyOfBoth_121 rfl (lv_at hl 2 rfl) ?_
            refine va_get (D := (dC, dI)) (ci := 4) (v := .ref q_row) (C := RX4) (T := TX4) (N := 9) hx hb hts hi_4 hown hK hP 0 rfl rfl 0 (by decide) hf_12 (fun _ h9 => h9) rfl dX4_gatherHeavyOfBoth_122 ?_
            refine lv_iload hx hb dX4_gatherHeavyOfBoth_125 (lv_at hl 0 rfl) ?_
            refine lv_iload hx hb dX4_gatherHeavyOfBoth_127 (lv_at hl 6 rfl) ?_
            refine lv_iload hx hb dX4_gatherHeavyOfBoth_129 (lv_at hl 7 rfl) ?_
            have hPc := hP.sub (ws' := [kx_0 q_row q_cell len, kx_a q_cell cyI 160 f]) [1, 2] rfl
            have hKc := hK
            refine vp_callSi (W.runV (As := [.int y_39, .int p2, .int p3]) (rest := [.int r_40, .int i, .ref a_n]) ⟨hx, hb, hml, hown, hts⟩ (c_X0_oftenIn l dC dI q_row q_cell cyI len f y_39 p2 p3 d3 (om_167 c1 d5)) (cwV 3 hts gX4_gatherHeavyOfBoth_X0_oftenIn rfl rfl rfl (by decide +kernel) ⟨Nat.le_of_ble_eq_true rfl, Nat.le_of_ble_eq_true rfl⟩) ⟨fun a U g mk q => by obtain ⟨q0, qP, qK⟩ := q; exact ⟨q0, qP, va_K.moved (u := U) (U := U.calling g mk a) (Vm.Alike.refl U.vm) qK⟩, kx_rc0 hKc hPc (q0 := 0) rfl, fun U hU hW => ⟨rfl, by rw [hU]; exact hPc, va_K.moved hW.alike hKc⟩⟩ rfl rfl hl.1 rfl (lv_room (Nat.le_of_ble_eq_true rfl)) dX4_gatherHeavyOfBoth_131 ⟨Nat.le_of_ble_eq_true rfl, Nat.le_of_ble_eq_true rfl⟩) (fun r_41 w_41 => ?_)
            have w_41 : r_41.toInt = (cnt f y_39 p2.toNatClampNeg (p3.toInt - p2.toInt).toNat : Int) := w_41
            have l_1 := cnt_le f y_39 p0.toNatClampNeg (p1.toInt - p0.toInt).toNat
            have l_2 := cnt_le f y_39 p2.toNatClampNeg ((p3.toInt : Int) - p2.toInt).toNat
            refine lv_iadd hx hb dX4_gatherHeavyOfBoth_134 ?_
            refine lv_topi (fun y_42 ey_42 => ?_)
            have i_42 : y_42.toInt = r_40.toInt + r_41.toInt := ki_add ey_42 rfl rfl (by omega) (by omega)
            refine va_iast hx hb hK hP hD hS 13 0 rfl rfl (ki_in (om_10 LP1_h0) (by omega)) dX4_gatherHeavyOfBoth_135 (fun H locs hP hD hS => ?_)
            obtain ⟨hP, hD⟩ := kx_re (w2 := [kx_4 m_ q_row q_t t_ h0 k0 w_ z_ slots old, kx_0 q_row q_cell len, kx_a q_cell cyI 160 f, kx_2 q_t q_row q_joined q_from q_to q_size q_lossOf q_lessBy q_value q_number nodes here, kx_a q_from cyI 319 ff, kx_a q_to cyI 319 ft, kx_a q_size cyI 319 fs, kx_a q_lossOf cyI 319 fo, kx_a q_lessBy cyI 319 fe, kx_a q_value cyI 1914 uv, kx_a q_number cyI 1914 un, kx_3 h0 a_v a_n o_25 o_26 o_27, kx_a a_v cyI 12 o_28, kx_a a_n cyI 12 (upd wn i.toNatClampNeg y_42), kx_3 k0 kv kn o_14 o_15 o_16, kx_a kv cyI 12 o_17, kx_a kn cyI 12 o_18]) hP hD rfl
            obtain ⟨x_43, ex_43⟩ : ∃ y : Int32, y = i + 1 := ⟨_, rfl⟩
            have i_43 : x_43.toInt = i.toInt + 1 := ki_add ex_43 rfl rfl (om_13 LP1_h0) (by omega)
            refine lv_iinc (v := x_43) (lv' := [(8, .int x_43), (9, .int y_39), (0, .ref m_), (1, .ref q_t), (2, .int p0), (3, .int p1), (4, .int p2), (5, .int p3), (6, .int p4), (7, .int p5)]) hx hb dX4_gatherHeavyOfBoth_136 hl (k := 1) rfl (by rw [ex_43]; rfl) (by decide) rfl (fun ls hl => ?_)
            refine lv_goto (tgt := 77) hx hb dX4_gatherHeavyOfBoth_139 (by decide) ?_
            have n_44 := ki_nat x_43 rfl (om_34 LP1_h0 i_43)
            exact ih1 x_43 (upd wn i.toNatClampNeg y_42) (om_34 LP1_h0 i_43) (om_54 i_31 i_43) (fun j hj => if h9 : j = i.toNatClampNeg then (by rw [h9, upd_at, ← ey_39]; omega) else (by rw [upd_ne h9]; exact LP1_h2 j (by omega))) (om_mu hn1 (om_5 i_43) (om_6 i_31)) _ _ hP hD hS ls (lv_sub hl [0, 2, 3, 4, 5, 6, 7, 8, 9] rfl)
      have k_45 : (0 : Int32).toInt = 0 := rfl
      exact LP1 ((o_25.toInt - 0 : Int).toNat + 1) 0 o_29 om_35 (om_10 w_24.2.2.1) (fun j hj => absurd hj (Nat.not_lt_zero j)) (Nat.lt_succ_self _) _ _ hP hD hS ls (lv_sub hl [0, 1, 2, 3, 4, 5, 6, 7, 8] rfl)
    · have i_12 : p0.toInt < p2.toInt := kc_nle c_12
      exfalso; omega
  · have i_3 : p0.toInt < p2.toInt := kc_nle c_3
    refine lv_iload_n hx hb dX4_gatherHeavyOfBoth_17 rfl (lv_at hl 3 rfl) ?_
    refine lv_goto (tgt := 23) hx hb dX4_gatherHeavyOfBoth_18 (by decide) ?_
    obtain ⟨hPc, hDc, hFc, hCc⟩ := kx_preM (wc := [kx_2 q_t q_row q_joined q_from q_to q_size q_lossOf q_lessBy q_value q_number nodes here, kx_a q_from cyI 319 ff, kx_a q_to cyI 319 ft, kx_a q_size cyI 319 fs, kx_a q_lossOf cyI 319 fo, kx_a q_value cyI 1914 uv, kx_a q_number cyI 1914 un, kx_3 h0 a_v a_n vs lo le, kx_a a_v cyI 12 fv, kx_a a_n cyI 12 fn]) hP hD hS hA [false, false, false, true, true, true, true, true, false, true, true, true, true, true, false, false, false] rfl
    have hKc := hK
    refine va_callv (va_runV (As := [.ref h0, .int y_1, .int p1]) (rest := []) ⟨hx, hb, hml, hown, hts⟩ (kx_un (c_X2_gather_x l dC dI q_t q_row q_joined q_from q_to q_size q_lossOf q_lessBy q_value q_number nodes here h0 a_v a_n cyI vs lo le fv fn len f ff ft fs fo uv un fe y_1 p1 s.heap.size b0 c0 s0 c1 kh0 kh1 t0 hC.2.2.2.2.2.2)) (cwV 3 hts gX4_gatherHeavyOfBoth_X2_gather rfl rfl rfl (by decide +kernel) ⟨Nat.le_of_ble_eq_true rfl, Nat.le_of_ble_eq_true rfl⟩) ⟨fun a U g mk q => by obtain ⟨q0, q1, qP, qK, qD⟩ := q; exact ⟨q0, q1, qP, va_K.moved (u := U) (U := U.calling g mk a) (Vm.Alike.refl U.vm) qK, qD⟩, kx_rc2 hKc hPc (q0 := 0) rfl, fun U hU hW => ⟨rfl, by rw [hU], by rw [hU]; exact hPc, va_K.moved hW.alike hKc, hDc.weaken (fun _ _ _ _ => trivial)⟩⟩ rfl rfl hl.1 rfl (lv_room (Nat.le_of_ble_eq_true rfl)) dX4_gatherHeavyOfBoth_23 ⟨Nat.le_of_ble_eq_true rfl, Nat.le_of_ble_eq_true rfl⟩) hS (fun q _ h => hFc q h) hFc (fun u t H1 locs ht hvm w_46 hB hz1 hk1 hS => ?_)
    obtain ⟨o_47, o_48, o_49, o_50, o_51⟩ := u
    dsimp only at w_46 hB
    obtain ⟨hP1, hK1, hD1⟩ := hB
    rw [ht] at hP1
    have hK1 := va_K.moved hvm.symm hK1
    obtain ⟨hP, hD⟩ := kx_joinM (w2 := [kx_4 m_ q_row q_t t_ h0 k0 w_ z_ slots old, kx_0 q_row q_cell len, kx_a q_cell cyI 160 f, kx_2 q_t q_row q_joined q_from q_to q_size q_lossOf q_lessBy q_value q_number nodes here, kx_a q_from cyI 319 ff, kx_a q_to cyI 319 ft, kx_a q_size cyI 319 fs, kx_a q_lossOf cyI 319 fo, kx_a q_lessBy cyI 319 fe, kx_a q_value cyI 1914 uv, kx_a q_number cyI 1914 un, kx_3 h0 a_v a_n o_47 o_48 o_49, kx_a a_v cyI 12 o_50, kx_a a_n cyI 12 o_51, kx_3 k0 kv kn sb lb eb, kx_a kv cyI 12 gb, kx_a kn cyI 12 nb]) hP hD hP1 hD1 hk1 hFc [false, false, false, true, true, true, true, true, false, true, true, true, true, true, false, false, false] hCc rfl
    clear hP1 hD1 hK1 hk1 hz1 hFc hDc hPc hKc hCc
    generalize H1 = H at hP hS ⊢
    have w_46 : mj_GA here.toNatClampNeg ff ft fs fo uv un y_1.toInt p1.toInt (mj_pq ff ft y_1.toInt p1.toInt nodes.toNatClampNeg) o_47 o_48 o_50 o_51 ∧ 0 ≤ o_47.toInt ∧ o_47.toInt ≤ here.toInt := w_46
    refine lv_aload_n hx hb dX4_gatherHeavyOfBoth_26 rfl (lv_at hl 1 rfl) ?_
    refine lv_aload_n hx hb dX4_gatherHeavyOfBoth_27 rfl (lv_at hl 0 rfl) ?_
    refine va_get (D := (dC, dI)) (ci := 4) (v := .ref k0) (C := RX4) (T := TX4) (N := 9) hx hb hts hi_4 hown hK hP 0 rfl rfl 4 (by decide) hf_39 (fun _ h9 => h9) rfl dX4_gatherHeavyOfBoth_28 ?_
    refine lv_iload_n hx hb dX4_gatherHeavyOfBoth_31 rfl (lv_at hl 2 rfl) ?_
    refine lv_iload hx hb dX4_gatherHeavyOfBoth_32 (lv_at hl 4 rfl) ?_
    refine va_mmax hx hb (hml.trans hl.1.symm) hown hm_96 hms_max hz_math hmc_max (Nat.le_of_ble_eq_true rfl) (Nat.le_of_ble_eq_true rfl) (Nat.le_of_ble_eq_true rfl) (Nat.le_of_ble_eq_true rfl) dX4_gatherHeavyOfBoth_34 ?_
    refine lv_topi (fun y_52 ey_52 => ?_)
    have i_53 : (p0.toInt ≤ p2.toInt ∧ y_52.toInt = p2.toInt) ∨ (p2.toInt < p0.toInt ∧ y_52.toInt = p0.toInt) := ki_max ey_52 rfl rfl
    refine lv_iload_n hx hb dX4_gatherHeavyOfBoth_37 rfl (lv_at hl 2 rfl) ?_
    refine lv_iload hx hb dX4_gatherHeavyOfBoth_38 (lv_at hl 4 rfl) ?_
    refine lv_icmp_ge (tgt := 48) hx hb dX4_gatherHeavyOfBoth_40 (by decide) (fun c_54 => ?_) (fun c_54 => ?_)
    · have i_54 : p2.toInt ≤ p0.toInt := kc_le c_54
      exfalso; omega
    · have i_54 : p0.toInt < p2.toInt := kc_nle c_54
      refine lv_iload hx hb dX4_gatherHeavyOfBoth_43 (lv_at hl 5 rfl) ?_
      refine lv_goto (tgt := 49) hx hb dX4_gatherHeavyOfBoth_45 (by decide) ?_
      obtain ⟨hPc, hDc, hFc, hCc⟩ := kx_preM (wc := [kx_2 q_t q_row q_joined q_from q_to q_size q_lossOf q_lessBy q_value q_number nodes here, kx_a q_from cyI 319 ff, kx_a q_to cyI 319 ft, kx_a q_size cyI 319 fs, kx_a q_lossOf cyI 319 fo, kx_a q_value cyI 1914 uv, kx_a q_number cyI 1914 un, kx_3 k0 kv kn sb lb eb, kx_a kv cyI 12 gb, kx_a kn cyI 12 nb]) hP hD hS hA [false, false, false, true, true, true, true, true, false, true, true, false, false, false, true, true, true] rfl
      have hKc := hK
      refine va_callv (va_runV (As := [.ref k0, .int y_52, .int p3]) (rest := []) ⟨hx, hb, hml, hown, hts⟩ (kx_un (c_X2_gather_x l dC dI q_t q_row q_joined q_from q_to q_size q_lossOf q_lessBy q_value q_number nodes here k0 kv kn cyI sb lb eb gb nb len f ff ft fs fo uv un fe y_52 p3 H.size b0 c0 s0 c1 kh0 kh1 t0 hC.2.2.2.2.2.2)) (cwV 3 hts gX4_gatherHeavyOfBoth_X2_gather rfl rfl rfl (by decide +kernel) ⟨Nat.le_of_ble_eq_true rfl, Nat.le_of_ble_eq_true rfl⟩) ⟨fun a U g mk q => by obtain ⟨q0, q1, qP, qK, qD⟩ := q; exact ⟨q0, q1, qP, va_K.moved (u := U) (U := U.calling g mk a) (Vm.Alike.refl U.vm) qK, qD⟩, kx_rc2 hKc hPc (q0 := 0) rfl, fun U hU hW => ⟨rfl, by rw [hU], by rw [hU]; exact hPc, va_K.moved hW.alike hKc, hDc.weaken (fun _ _ _ _ => trivial)⟩⟩ rfl rfl hl.1 rfl (lv_room (Nat.le_of_ble_eq_true rfl)) dX4_gatherHeavyOfBoth_49 ⟨Nat.le_of_ble_eq_true rfl, Nat.le_of_ble_eq_true rfl⟩) hS (fun q _ h => hFc q h) hFc (fun u t H1 locs ht hvm w_55 hB hz1 hk1 hS => ?_)
      obtain ⟨o_56, o_57, o_58, o_59, o_60⟩ := u
      dsimp only at w_55 hB
      obtain ⟨hP1, hK1, hD1⟩ := hB
      rw [ht] at hP1
      have hK1 := va_K.moved hvm.symm hK1
      obtain ⟨hP, hD⟩ := kx_joinM (w2 := [kx_4 m_ q_row q_t t_ h0 k0 w_ z_ slots old, kx_0 q_row q_cell len, kx_a q_cell cyI 160 f, kx_2 q_t q_row q_joined q_from q_to q_size q_lossOf q_lessBy q_value q_number nodes here, kx_a q_from cyI 319 ff, kx_a q_to cyI 319 ft, kx_a q_size cyI 319 fs, kx_a q_lossOf cyI 319 fo, kx_a q_lessBy cyI 319 fe, kx_a q_value cyI 1914 uv, kx_a q_number cyI 1914 un, kx_3 h0 a_v a_n o_47 o_48 o_49, kx_a a_v cyI 12 o_50, kx_a a_n cyI 12 o_51, kx_3 k0 kv kn o_56 o_57 o_58, kx_a kv cyI 12 o_59, kx_a kn cyI 12 o_60]) hP hD hP1 hD1 hk1 hFc [false, false, false, true, true, true, true, true, false, true, true, false, false, false, true, true, true] hCc rfl
      clear hP1 hD1 hK1 hk1 hz1 hFc hDc hPc hKc hCc
      generalize H1 = H at hP hS ⊢
      have w_55 : mj_GA here.toNatClampNeg ff ft fs fo uv un y_52.toInt p3.toInt (mj_pq ff ft y_52.toInt p3.toInt nodes.toNatClampNeg) o_56 o_57 o_59 o_60 ∧ 0 ≤ o_56.toInt ∧ o_56.toInt ≤ here.toInt := w_55
      refine lv_aload_n hx hb dX4_gatherHeavyOfBoth_52 rfl (lv_at hl 0 rfl) ?_
      refine va_get (D := (dC, dI)) (ci := 4) (v := .ref h0) (C := RX4) (T := TX4) (N := 9) hx hb hts hi_4 hown hK hP 0 rfl rfl 3 (by decide) hf_35 (fun _ h9 => h9) rfl dX4_gatherHeavyOfBoth_53 ?_
      refine lv_aload_n hx hb dX4_gatherHeavyOfBoth_56 rfl (lv_at hl 0 rfl) ?_
      refine va_get (D := (dC, dI)) (ci := 4) (v := .ref k0) (C := RX4) (T := TX4) (N := 9) hx hb hts hi_4 hown hK hP 0 rfl rfl 4 (by decide) hf_39 (fun _ h9 => h9) rfl dX4_gatherHeavyOfBoth_57 ?_
      have i_hh : here.toInt = slots.toInt := by rw [hh]
      have i_8 : y_1.toInt = p0.toInt := by omega
      have i_34 : y_52.toInt = p2.toInt := by omega
      obtain ⟨mua, h_va, h_ma, h_ba⟩ := mj_GA_mg s1 hC c1 (by omega) (by omega) (by omega) w_46.1
      obtain ⟨mub, h_vb, h_mb, h_bb⟩ := mj_GA_mg s1 hC c1 (by omega) (by omega) (by omega) w_55.1
      rw [i_8] at h_ma
      rw [i_34] at h_mb
      obtain ⟨hPc, hDc, hFc, hCc⟩ := kx_preM (wc := [kx_3 h0 a_v a_n o_47 o_48 o_49, kx_a a_v cyI 12 o_50, kx_a a_n cyI 12 o_51, kx_3 k0 kv kn o_56 o_57 o_58, kx_a kv cyI 12 o_59, kx_a kn cyI 12 o_60]) hP hD hS hA [false, false, false, false, false, false, false, false, false, false, false, true, true, true, true, true, true] rfl
      have hKc := hK
      refine va_callv (va_runV (As := [.ref k0]) (rest := []) ⟨hx, hb, hml, hown, hts⟩ (kx_un (c_X3_join_x l dC dI h0 a_v a_n cyI o_47 o_48 o_49 o_50 o_51 k0 kv kn o_56 o_57 o_58 o_59 o_60 mua mub H.size (by omega) (by omega) (by omega) (by omega) h_va h_vb (fun v => by have h1 := h_ba v; have h2 := h_bb v; omega))) (cwV 1 hts gX4_gatherHeavyOfBoth_X3_join rfl rfl rfl (by decide +kernel) ⟨Nat.le_of_ble_eq_true rfl, Nat.le_of_ble_eq_true rfl⟩) ⟨fun a U g mk q => by obtain ⟨q0, q1, qP, qK, qD⟩ := q; exact ⟨q0, q1, qP, va_K.moved (u := U) (U := U.calling g mk a) (Vm.Alike.refl U.vm) qK, qD⟩, kx_rc3 hKc hPc (q0 := 0) rfl, fun U hU hW => ⟨rfl, by rw [hU], by rw [hU]; exact hPc, va_K.moved hW.alike hKc, hDc.weaken (fun _ _ _ _ => trivial)⟩⟩ rfl rfl hl.1 rfl (lv_room (Nat.le_of_ble_eq_true rfl)) dX4_gatherHeavyOfBoth_60 ⟨Nat.le_of_ble_eq_true rfl, Nat.le_of_ble_eq_true rfl⟩) hS (fun q _ h => hFc q h) hFc (fun u t H1 locs ht hvm w_61 hB hz1 hk1 hS => ?_)
      obtain ⟨o_62, o_63, o_64, o_65⟩ := u
      dsimp only at w_61 hB
      obtain ⟨hP1, hK1, hD1⟩ := hB
      rw [ht] at hP1
      have hK1 := va_K.moved hvm.symm hK1
      obtain ⟨hP, hD⟩ := kx_joinM (w2 := [kx_4 m_ q_row q_t t_ h0 k0 w_ z_ slots old, kx_0 q_row q_cell len, kx_a q_cell cyI 160 f, kx_2 q_t q_row q_joined q_from q_to q_size q_lossOf q_lessBy q_value q_number nodes here, kx_a q_from cyI 319 ff, kx_a q_to cyI 319 ft, kx_a q_size cyI 319 fs, kx_a q_lossOf cyI 319 fo, kx_a q_lessBy cyI 319 fe, kx_a q_value cyI 1914 uv, kx_a q_number cyI 1914 un, kx_3 h0 a_v a_n o_62 o_63 o_49, kx_a a_v cyI 12 o_64, kx_a a_n cyI 12 o_65, kx_3 k0 kv kn o_56 o_57 o_58, kx_a kv cyI 12 o_59, kx_a kn cyI 12 o_60]) hP hD hP1 hD1 hk1 hFc [false, false, false, false, false, false, false, false, false, false, false, true, true, true, true, true, true] hCc rfl
      clear hP1 hD1 hK1 hk1 hz1 hFc hDc hPc hKc hCc
      generalize H1 = H at hP hS ⊢
      have w_61 : mj_vs o_64 o_65 0 o_62.toNatClampNeg (fun w => mua w + mub w) ∧ o_63 = o_48 + o_57 ∧ 0 ≤ o_62.toInt ∧ o_62.toInt ≤ o_47.toInt + o_56.toInt := w_61
      refine lv_aload_n hx hb dX4_gatherHeavyOfBoth_63 rfl (lv_at hl 0 rfl) ?_
      refine va_get (D := (dC, dI)) (ci := 4) (v := .ref h0) (C := RX4) (T := TX4) (N := 9) hx hb hts hi_4 hown hK hP 0 rfl rfl 3 (by decide) hf_35 (fun _ h9 => h9) rfl dX4_gatherHeavyOfBoth_64 ?_
      refine lv_aload_n hx hb dX4_gatherHeavyOfBoth_67 rfl (lv_at hl 0 rfl) ?_
      refine va_get (D := (dC, dI)) (ci := 4) (v := .int slots) (C := RX4) (T := TX4) (N := 9) hx hb hts hi_4 hown hK hP 0 rfl rfl 7 (by decide) hf_49 (fun _ h9 => h9) rfl dX4_gatherHeavyOfBoth_68 ?_
      obtain ⟨hPc, hDc, hFc, hCc⟩ := kx_preM (wc := [kx_3 h0 a_v a_n o_62 o_63 o_49, kx_a a_v cyI 12 o_64, kx_a a_n cyI 12 o_65]) hP hD hS hA [false, false, false, false, false, false, false, false, false, false, false, true, true, true, false, false, false] rfl
      have hKc := hK
      refine va_callv (va_runV (As := [.int slots]) (rest := []) ⟨hx, hb, hml, hown, hts⟩ (kx_un (c_X3_cancel_x l dC dI h0 a_v a_n cyI o_62 o_63 o_49 o_64 o_65 (fun w => mua w + mub w) slots H.size (by omega) (by omega) (by omega) (by omega) w_61.1 (fun v => by have h1 := h_ba v; have h2 := h_bb v; show mua v + mub v ≤ _; omega))) (cwV 1 hts gX4_gatherHeavyOfBoth_X3_cancel rfl rfl rfl (by decide +kernel) ⟨Nat.le_of_ble_eq_true rfl, Nat.le_of_ble_eq_true rfl⟩) ⟨fun a U g mk q => by obtain ⟨q0, q1, qP, qK, qD⟩ := q; exact ⟨q0, q1, qP, va_K.moved (u := U) (U := U.calling g mk a) (Vm.Alike.refl U.vm) qK, qD⟩, kx_rc3 hKc hPc (q0 := 0) rfl, fun U hU hW => ⟨rfl, by rw [hU], by rw [hU]; exact hPc, va_K.moved hW.alike hKc, hDc.weaken (fun _ _ _ _ => trivial)⟩⟩ rfl rfl hl.1 rfl (lv_room (Nat.le_of_ble_eq_true rfl)) dX4_gatherHeavyOfBoth_71 ⟨Nat.le_of_ble_eq_true rfl, Nat.le_of_ble_eq_true rfl⟩) hS (fun q _ h => hFc q h) hFc (fun u t H1 locs ht hvm w_66 hB hz1 hk1 hS => ?_)
      obtain ⟨o_67, o_68, o_69, o_70, o_71, o_72⟩ := u
      dsimp only at w_66 hB
      obtain ⟨hP1, hK1, hD1⟩ := hB
      rw [ht] at hP1
      have hK1 := va_K.moved hvm.symm hK1
      obtain ⟨hP, hD⟩ := kx_joinM (w2 := [kx_4 m_ q_row q_t t_ h0 k0 w_ z_ slots old, kx_0 q_row q_cell len, kx_a q_cell cyI 160 f, kx_2 q_t q_row q_joined q_from q_to q_size q_lossOf q_lessBy q_value q_number nodes here, kx_a q_from cyI 319 ff, kx_a q_to cyI 319 ft, kx_a q_size cyI 319 fs, kx_a q_lossOf cyI 319 fo, kx_a q_lessBy cyI 319 fe, kx_a q_value cyI 1914 uv, kx_a q_number cyI 1914 un, kx_3 h0 a_v a_n o_67 o_68 o_69, kx_a a_v cyI 12 o_70, kx_a a_n cyI 12 o_71, kx_3 k0 kv kn o_56 o_57 o_58, kx_a kv cyI 12 o_59, kx_a kn cyI 12 o_60]) hP hD hP1 hD1 hk1 hFc [false, false, false, false, false, false, false, false, false, false, false, true, true, true, false, false, false] hCc rfl
      clear hP1 hD1 hK1 hk1 hz1 hFc hDc hPc hKc hCc
      generalize H1 = H at hP hS ⊢
      have w_66 : mj_can slots.toNatClampNeg (fun w => mua w + mub w) o_72 o_69 ∧ o_68 = o_63 + o_69 ∧ 0 ≤ o_67.toInt ∧ o_67.toInt ≤ slots.toInt ∧ mj_vs o_70 o_71 0 o_67.toNatClampNeg o_72 ∧ mj_srt o_70 o_71 0 o_67.toNatClampNeg ∧ 0 ≤ o_69.toInt := w_66
      refine lv_iconst (v := 0) hx hb dX4_gatherHeavyOfBoth_74 (by decide) ?_
      refine lv_istore (lv' := [(8, .int 0), (0, .ref m_), (1, .ref q_t), (2, .int p0), (3, .int p1), (4, .int p2), (5, .int p3), (6, .int p4), (7, .int p5)]) hx hb dX4_gatherHeavyOfBoth_75 hl (by decide) rfl (fun ls hl => ?_)
      have LP2 : ∀ (n : Nat) (i : Int32) (wn : Nat → Int32), (0 ≤ i.toInt) → (i.toInt ≤ o_67.toInt) → (∀ j : Nat, j < i.toNatClampNeg → (wn j).toInt = (cnt f (o_70 j) p0.toNatClampNeg (p1.toInt - p0.toInt).toNat : Int) + (cnt f (o_70 j) p2.toNatClampNeg ((p3.toInt : Int) - p2.toInt).toNat : Int)) → (o_67.toInt - i.toInt).toNat < n → ∀ (H : Heap) (locs : List Loc), va_P (dC, dI) vwCl [kx_4 m_ q_row q_t t_ h0 k0 w_ z_ slots old, kx_0 q_row q_cell len, kx_a q_cell cyI 160 f, kx_2 q_t q_row q_joined q_from q_to q_size q_lossOf q_lessBy q_value q_number nodes here, kx_a q_from cyI 319 ff, kx_a q_to cyI 319 ft, kx_a q_size cyI 319 fs, kx_a q_lossOf cyI 319 fo, kx_a q_lessBy cyI 319 fe, kx_a q_value cyI 1914 uv, kx_a q_number cyI 1914 un, kx_3 h0 a_v a_n o_67 o_68 o_69, kx_a a_v cyI 12 o_70, kx_a a_n cyI 12 wn, kx_3 k0 kv kn o_56 o_57 o_58, kx_a kv cyI 12 o_59, kx_a kn cyI 12 o_60] H → va_D A [kx_4 m_ q_row q_t t_ h0 k0 w_ z_ slots old, kx_0 q_row q_cell len, kx_a q_cell cyI 160 f, kx_2 q_t q_row q_joined q_from q_to q_size q_lossOf q_lessBy q_value q_number nodes here, kx_a q_from cyI 319 ff, kx_a q_to cyI 319 ft, kx_a q_size cyI 319 fs, kx_a q_lossOf cyI 319 fo, kx_a q_lessBy cyI 319 fe, kx_a q_value cyI 1914 uv, kx_a q_number cyI 1914 un, kx_3 h0 a_v a_n o_67 o_68 o_69, kx_a a_v cyI 12 o_70, kx_a a_n cyI 12 wn, kx_3 k0 kv kn o_56 o_57 o_58, kx_a kv cyI 12 o_59, kx_a kn cyI 12 o_60] → va_S A s.heap H locs → ∀ (ls : Array Slot), lv_has ls 10 [(8, .int i), (0, .ref m_), (1, .ref q_t), (2, .int p0), (3, .int p1), (4, .int p2), (5, .int p3), (6, .int p4), (7, .int p5)] → W p l e (headSpec wsX4_gatherHeavyOfBoth ({ frames := 4, cells := 0, slots := 0, locals := 180 })).room s m ([.ref m_, .ref q_t, .int p0, .int p1, .int p2, .int p3, .int p4, .int p5] : List Value).toArray below meth c H locs 0 0 (MQ below (va_Qv (fun u : Int32 × Int32 × Int32 × (Nat → Int32) × (Nat → Int32) × Int32 × Int32 × Int32 × (Nat → Int32) × (Nat → Int32) => mj_vs u.2.2.2.1 u.2.2.2.2.1 0 u.1.toNatClampNeg (mj_hvm p4.toInt p5.toInt (p1.toInt - p0.toInt + p3.toInt - p2.toInt) (fun v => (cnt f v p0.toNatClampNeg (p1.toInt - p0.toInt).toNat : Int) + (cnt f v p2.toNatClampNeg ((p3.toInt : Int) - p2.toInt).toNat : Int))) ∧ mj_srt u.2.2.2.1 u.2.2.2.2.1 0 u.1.toNatClampNeg ∧ 0 ≤ u.1.toInt ∧ u.1.toInt ≤ 6) (fun (u : Int32 × Int32 × Int32 × (Nat → Int32) × (Nat → Int32) × Int32 × Int32 × Int32 × (Nat → Int32) × (Nat → Int32)) (t : State) => va_P (dC, dI) vwCl [kx_4 m_ q_row q_t t_ h0 k0 w_ z_ slots old, kx_0 q_row q_cell len, kx_a q_cell cyI 160 f, kx_2 q_t q_row q_joined q_from q_to q_size q_lossOf q_lessBy q_value q_number nodes here, kx_a q_from cyI 319 ff, kx_a q_to cyI 319 ft, kx_a q_size cyI 319 fs, kx_a q_lossOf cyI 319 fo, kx_a q_lessBy cyI 319 fe, kx_a q_value cyI 1914 uv, kx_a q_number cyI 1914 un, kx_3 h0 a_v a_n u.1 u.2.1 u.2.2.1, kx_a a_v cyI 12 u.2.2.2.1, kx_a a_n cyI 12 u.2.2.2.2.1, kx_3 k0 kv kn u.2.2.2.2.2.1 u.2.2.2.2.2.2.1 u.2.2.2.2.2.2.2.1, kx_a kv cyI 12 u.2.2.2.2.2.2.2.2.1, kx_a kn cyI 12 u.2.2.2.2.2.2.2.2.2] t.heap ∧ va_K (dC, dI) vwCl [(cyI, .int)] t ∧ va_D A [kx_4 m_ q_row q_t t_ h0 k0 w_ z_ slots old, kx_0 q_row q_cell len, kx_a q_cell cyI 160 f, kx_2 q_t q_row q_joined q_from q_to q_size q_lossOf q_lessBy q_value q_number nodes here, kx_a q_from cyI 319 ff, kx_a q_to cyI 319 ft, kx_a q_size cyI 319 fs, kx_a q_lossOf cyI 319 fo, kx_a q_lessBy cyI 319 fe, kx_a q_value cyI 1914 uv, kx_a q_number cyI 1914 un, kx_3 h0 a_v a_n u.1 u.2.1 u.2.2.1, kx_a a_v cyI 12 u.2.2.2.1, kx_a a_n cyI 12 u.2.2.2.2.1, kx_3 k0 kv kn u.2.2.2.2.2.1 u.2.2.2.2.2.2.1 u.2.2.2.2.2.2.2.1, kx_a kv cyI 12 u.2.2.2.2.2.2.2.2.1, kx_a kn cyI 12 u.2.2.2.2.2.2.2.2.2]) A) ([.ref m_, .ref q_t, .int p0, .int p1, .int p2, .int p3, .int p4, .int p5] : List Value).toArray s 0 0 A) (F0 m 77 ls []) := by
        intro n
        induction n with
        | zero => intro i wn LP2_h0 LP2_h1 LP2_h2 hn; exact absurd hn (Nat.not_lt_zero _)
        | succ n ih2 =>
          intro i wn LP2_h0 LP2_h1 LP2_h2 hn2 H locs hP hD hS ls hl
          have n_i := ki_nat i rfl (om_10 LP2_h0)
          refine lv_iload hx hb dX4_gatherHeavyOfBoth_77 (lv_at hl 0 rfl) ?_
          refine lv_aload_n hx hb dX4_gatherHeavyOfBoth_79 rfl (lv_at hl 1 rfl) ?_
          refine va_get (D := (dC, dI)) (ci := 4) (v := .ref h0) (C := RX4) (T := TX4) (N := 9) hx hb hts hi_4 hown hK hP 0 rfl rfl 3 (by decide) hf_35 (fun _ h9 => h9) rfl dX4_gatherHeavyOfBoth_80 ?_
          refine va_get (D := (dC, dI)) (ci := 3) (v := .int o_67) (C := RX3) (T := TX3) (N := 5) hx hb hts hi_3 hown hK hP 11 rfl rfl 2 (by decide) hf_174 (fun _ h9 => h9) rfl dX4_gatherHeavyOfBoth_83 ?_
          refine lv_icmp_ge (tgt := 142) hx hb dX4_gatherHeavyOfBoth_86 (by decide) (fun c_73 => ?_) (fun c_73 => ?_)
          · have i_73 : o_67.toInt ≤ i.toInt := kc_le c_73
            refine lv_aload_n hx hb dX4_gatherHeavyOfBoth_142 rfl (lv_at hl 1 rfl) ?_
            refine va_get (D := (dC, dI)) (ci := 4) (v := .ref h0) (C := RX4) (T := TX4) (N := 9) hx hb hts hi_4 hown hK hP 0 rfl rfl 3 (by decide) hf_35 (fun _ h9 => h9) rfl dX4_gatherHeavyOfBoth_143 ?_
            refine lv_iload_n hx hb dX4_gatherHeavyOfBoth_146 rfl (lv_at hl 4 rfl) ?_
            refine lv_iload_n hx hb dX4_gatherHeavyOfBoth_147 rfl (lv_at hl 3 rfl) ?_
            refine lv_isub hx hb dX4_gatherHeavyOfBoth_148 ?_
            refine lv_topi (fun y_74 ey_74 => ?_)
            have i_74 : y_74.toInt = p1.toInt - p0.toInt := ki_sub ey_74 rfl rfl (om_168 d1) (om_561 d4 d6)
            refine lv_iload hx hb dX4_gatherHeavyOfBoth_149 (lv_at hl 6 rfl) ?_
            refine lv_iadd hx hb dX4_gatherHeavyOfBoth_151 ?_
            refine lv_topi (fun y_75 ey_75 => ?_)
            have i_75 : y_75.toInt = y_74.toInt + p3.toInt := ki_add ey_75 rfl rfl (om_562 d1 d3 d4 i_74) (om_566 c1 d4 d5 d6 i_74)
            refine lv_iload hx hb dX4_gatherHeavyOfBoth_152 (lv_at hl 5 rfl) ?_
            refine lv_isub hx hb dX4_gatherHeavyOfBoth_154 ?_
            refine lv_topi (fun y_76 ey_76 => ?_)
            have i_76 : y_76.toInt = y_75.toInt - p2.toInt := ki_sub ey_76 rfl rfl (om_564 d1 d4 i_74 i_75) (om_565 d6 i_74 i_75)
            refine lv_iload hx hb dX4_gatherHeavyOfBoth_155 (lv_at hl 7 rfl) ?_
            refine lv_iload hx hb dX4_gatherHeavyOfBoth_157 (lv_at hl 8 rfl) ?_
            obtain ⟨hPc, hDc, hFc, hCc⟩ := kx_preM (wc := [kx_3 h0 a_v a_n o_67 o_68 o_69, kx_a a_v cyI 12 o_70, kx_a a_n cyI 12 wn]) hP hD hS hA [false, false, false, false, false, false, false, false, false, false, false, true, true, true, false, false, false] rfl
            have hKc := hK
            refine va_callv (va_runV (As := [.int y_76, .int p4, .int p5]) (rest := []) ⟨hx, hb, hml, hown, hts⟩ (c_X3_keepHeavy_x l dC dI h0 a_v a_n cyI o_67 o_68 o_69 o_70 wn (fun v => (cnt f v p0.toNatClampNeg (p1.toInt - p0.toInt).toNat : Int) + (cnt f v p2.toNatClampNeg ((p3.toInt : Int) - p2.toInt).toNat : Int)) y_76 p4 p5 H.size (by omega) (by omega) (by omega) (by omega) (by omega) (by omega) (by omega) (by omega) (fun j hj => by have n9 := ki_nat o_67 rfl (by omega); have h9 := LP2_h2 j (by omega); have h8 := cnt_le f (o_70 j) p0.toNatClampNeg (p1.toInt - p0.toInt).toNat; have h7 := cnt_le f (o_70 j) p2.toNatClampNeg ((p3.toInt : Int) - p2.toInt).toNat; exact ⟨h9, by omega, by omega⟩) (fun a b ha hb hab => w_66.2.2.2.2.1.2.1 a b ha hb (by rw [Nat.zero_add, Nat.zero_add]; exact hab))) (cwV 3 hts gX4_gatherHeavyOfBoth_X3_keepHeavy rfl rfl rfl (by decide +kernel) ⟨Nat.le_of_ble_eq_true rfl, Nat.le_of_ble_eq_true rfl⟩) ⟨fun a U g mk q => by obtain ⟨q0, q1, qP, qK, qD, qn0⟩ := q; exact ⟨q0, q1, qP, va_K.moved (u := U) (U := U.calling g mk a) (Vm.Alike.refl U.vm) qK, qD, va_Nw.same (u := U) (U := U.calling g mk a) rfl rfl qn0⟩, kx_rc3 hKc hPc (q0 := 0) rfl, fun U hU hW => ⟨rfl, by rw [hU], by rw [hU]; exact hPc, va_K.moved hW.alike hKc, hDc.weaken (fun _ _ _ _ => trivial), va_Nw.warmM hW hN0⟩⟩ rfl rfl hl.1 rfl (lv_room (Nat.le_of_ble_eq_true rfl)) dX4_gatherHeavyOfBoth_159 ⟨Nat.le_of_ble_eq_true rfl, Nat.le_of_ble_eq_true rfl⟩) hS (fun q _ h => hFc q h) hFc (fun u t H1 locs ht hvm w_77 hB hz1 hk1 hS => ?_)
            obtain ⟨o_78, o_79, o_80⟩ := u
            dsimp only at w_77 hB
            obtain ⟨hP1, hK1, hD1⟩ := hB
            rw [ht] at hP1
            have hK1 := va_K.moved hvm.symm hK1
            obtain ⟨hP, hD⟩ := kx_joinM (w2 := [kx_4 m_ q_row q_t t_ h0 k0 w_ z_ slots old, kx_0 q_row q_cell len, kx_a q_cell cyI 160 f, kx_2 q_t q_row q_joined q_from q_to q_size q_lossOf q_lessBy q_value q_number nodes here, kx_a q_from cyI 319 ff, kx_a q_to cyI 319 ft, kx_a q_size cyI 319 fs, kx_a q_lossOf cyI 319 fo, kx_a q_lessBy cyI 319 fe, kx_a q_value cyI 1914 uv, kx_a q_number cyI 1914 un, kx_3 h0 a_v a_n o_78 o_68 o_69, kx_a a_v cyI 12 o_79, kx_a a_n cyI 12 o_80, kx_3 k0 kv kn o_56 o_57 o_58, kx_a kv cyI 12 o_59, kx_a kn cyI 12 o_60]) hP hD hP1 hD1 hk1 hFc [false, false, false, false, false, false, false, false, false, false, false, true, true, true, false, false, false] hCc rfl
            clear hP1 hD1 hK1 hk1 hz1 hFc hDc hPc hKc hCc
            generalize H1 = H at hP hS ⊢
            have w_77 : mj_vs o_79 o_80 0 o_78.toNatClampNeg (mj_hp p4.toInt p5.toInt y_76.toInt o_70 (fun v => (cnt f v p0.toNatClampNeg (p1.toInt - p0.toInt).toNat : Int) + (cnt f v p2.toNatClampNeg ((p3.toInt : Int) - p2.toInt).toNat : Int)) o_67.toNatClampNeg) ∧ mj_srt o_79 o_80 0 o_78.toNatClampNeg ∧ o_78.toInt = (mj_hk p4.toInt p5.toInt y_76.toInt o_70 (fun v => (cnt f v p0.toNatClampNeg (p1.toInt - p0.toInt).toNat : Int) + (cnt f v p2.toNatClampNeg ((p3.toInt : Int) - p2.toInt).toNat : Int)) o_67.toNatClampNeg : Int) ∧ 0 ≤ o_78.toInt ∧ o_78.toInt ≤ o_67.toInt := w_77
            have hP9 := hP
            have hD9 := hD
            have hK9 := hK
            have h_t := mj_can_tog w_66.1 (fun v => rfl)
            rw [← hh] at h_t
            have n_h := ki_nat here rfl (by omega)
            have h_mg := mj_mg_tog (C := fun v => cnt f v p0.toNatClampNeg (p1.toInt - p0.toInt).toNat + cnt f v p2.toNatClampNeg ((p3.toInt : Int) - p2.toInt).toNat) (n := (p1.toInt - p0.toInt + p3.toInt - p2.toInt).toNat) h_ma h_mb h_t (by omega) (fun v => rfl)
            have h_in : ∀ v : Int32, p4.toInt * (p1.toInt - p0.toInt + p3.toInt - p2.toInt) < ((cnt f v p0.toNatClampNeg (p1.toInt - p0.toInt).toNat : Int) + (cnt f v p2.toNatClampNeg ((p3.toInt : Int) - p2.toInt).toNat : Int)) * p5.toInt → ∃ j : Nat, j < o_67.toNatClampNeg ∧ o_70 j = v := fun v hv9 => by
              have ne := mj_mg_heavy (v := v) (p := p4.toInt) (q := p5.toInt) h_mg (by omega) (by omega) (by rw [n_h]; exact he) (by rw [show (((p1.toInt - p0.toInt + p3.toInt - p2.toInt).toNat : Nat) : Int) = p1.toInt - p0.toInt + p3.toInt - p2.toInt by omega]; show _ < ((cnt f v p0.toNatClampNeg (p1.toInt - p0.toInt).toNat + cnt f v p2.toNatClampNeg ((p3.toInt : Int) - p2.toInt).toNat : Nat) : Int) * _; rw [show ((cnt f v p0.toNatClampNeg (p1.toInt - p0.toInt).toNat + cnt f v p2.toNatClampNeg ((p3.toInt : Int) - p2.toInt).toNat : Nat) : Int) = ((cnt f v p0.toNatClampNeg (p1.toInt - p0.toInt).toNat : Int) + (cnt f v p2.toNatClampNeg ((p3.toInt : Int) - p2.toInt).toNat : Int)) by omega]; exact hv9)
              obtain ⟨j, j1, j2⟩ := w_66.2.2.2.2.1.2.2 v ne
              rw [Nat.zero_add] at j2
              exact ⟨j, j1, j2⟩
            have h_d : ∀ a b : Nat, a < o_67.toNatClampNeg → b < o_67.toNatClampNeg → o_70 a = o_70 b → a = b := fun a b ha hb hab => w_66.2.2.2.2.1.2.1 a b ha hb (by rw [Nat.zero_add, Nat.zero_add]; exact hab)
            have h_k := w_77
            have i_n : y_76.toInt = p1.toInt - p0.toInt + p3.toInt - p2.toInt := by omega
            rw [i_n] at h_k
            exact W.vret hx hb hr (hlocks := hlocks) (fun t ht hW => ⟨⟨(o_78, o_68, o_69, o_79, o_80, o_56, o_57, o_58, o_59, o_60), rfl, ⟨mj_vs_congr h_k.1 (mj_hp_hvm h_d h_in), h_k.2.1, (by (try dsimp only); omega), (by (try dsimp only); omega)⟩, by rw [ht]; exact hP9, va_K.moved hW.alike hK9, hD9⟩, hS.F ht⟩) hS.2.2 dX4_gatherHeavyOfBoth_162
          · have i_73 : i.toInt < o_67.toInt := kc_nle c_73
            refine lv_aload_n hx hb dX4_gatherHeavyOfBoth_89 rfl (lv_at hl 1 rfl) ?_
            refine va_get (D := (dC, dI)) (ci := 4) (v := .ref h0) (C := RX4) (T := TX4) (N := 9) hx hb hts hi_4 hown hK hP 0 rfl rfl 3 (by decide) hf_35 (fun _ h9 => h9) rfl dX4_gatherHeavyOfBoth_90 ?_
            refine va_get (D := (dC, dI)) (ci := 3) (v := .ref a_v) (C := RX3) (T := TX3) (N := 5) hx hb hts hi_3 hown hK hP 11 rfl rfl 0 (by decide) hf_133 (fun _ h9 => h9) rfl dX4_gatherHeavyOfBoth_93 ?_
            refine lv_iload hx hb dX4_gatherHeavyOfBoth_96 (lv_at hl 0 rfl) ?_
            refine va_iald hx hb hK hP 12 0 rfl rfl (ki_in (om_10 LP2_h0) (by omega)) dX4_gatherHeavyOfBoth_98 ?_
            refine lv_topi (fun y_81 ey_81 => ?_)
            have j_81 : y_81.toInt = (o_70 i.toNatClampNeg).toInt := congrArg Int32.toInt ey_81
            refine lv_istore (lv' := [(9, .int y_81), (8, .int i), (0, .ref m_), (1, .ref q_t), (2, .int p0), (3, .int p1), (4, .int p2), (5, .int p3), (6, .int p4), (7, .int p5)]) hx hb dX4_gatherHeavyOfBoth_99 hl (by decide) rfl (fun ls hl => ?_)
            refine lv_aload_n hx hb dX4_gatherHeavyOfBoth_101 rfl (lv_at hl 2 rfl) ?_
            refine va_get (D := (dC, dI)) (ci := 4) (v := .ref h0) (C := RX4) (T := TX4) (N := 9) hx hb hts hi_4 hown hK hP 0 rfl rfl 3 (by decide) hf_35 (fun _ h9 => h9) rfl dX4_gatherHeavyOfBoth_102 ?_
            refine va_get (D := (dC, dI)) (ci := 3) (v := .ref a_n) (C := RX3) (T := TX3) (N := 5) hx hb hts hi_3 hown hK hP 11 rfl rfl 1 (by decide) hf_136 (fun _ h9 => h9) rfl dX4_gatherHeavyOfBoth_105 ?_
            refine lv_iload hx hb dX4_gatherHeavyOfBoth_108 (lv_at hl 1 rfl) ?_
            refine lv_aload_n hx hb dX4_gatherHeavyOfBoth_110 rfl (lv_at hl 2 rfl) ?_
            refine va_get (D := (dC, dI)) (ci := 4) (v := .ref q_row) (C := RX4) (T := TX4) (N := 9) hx hb hts hi_4 hown hK hP 0 rfl rfl 0 (by decide) hf_12 (fun _ h9 => h9) rfl dX4_gatherHeavyOfBoth_111 ?_
            refine lv_iload hx hb dX4_gatherHeavyOfBoth_114 (lv_at hl 0 rfl) ?_
            refine lv_iload_n hx hb dX4_gatherHeavyOfBoth_116 rfl (lv_at hl 4 rfl) ?_
            refine lv_iload_n hx hb dX4_gatherHeavyOfBoth_117 rfl (lv_at hl 5 rfl) ?_
            have hPc := hP.sub (ws' := [kx_0 q_row q_cell len, kx_a q_cell cyI 160 f]) [1, 2] rfl
            have hKc := hK
            refine vp_callSi (W.runV (As := [.int y_81, .int p0, .int p1]) (rest := [.int i, .ref a_n]) ⟨hx, hb, hml, hown, hts⟩ (c_X0_oftenIn l dC dI q_row q_cell cyI len f y_81 p0 p1 d0 (om_167 c1 d2)) (cwV 3 hts gX4_gatherHeavyOfBoth_X0_oftenIn rfl rfl rfl (by decide +kernel) ⟨Nat.le_of_ble_eq_true rfl, Nat.le_of_ble_eq_true rfl⟩) ⟨fun a U g mk q => by obtain ⟨q0, qP, qK⟩ := q; exact ⟨q0, qP, va_K.moved (u := U) (U := U.calling g mk a) (Vm.Alike.refl U.vm) qK⟩, kx_rc0 hKc hPc (q0 := 0) rfl, fun U hU hW => ⟨rfl, by rw [hU]; exact hPc, va_K.moved hW.alike hKc⟩⟩ rfl rfl hl.1 rfl (lv_room (Nat.le_of_ble_eq_true rfl)) dX4_gatherHeavyOfBoth_118 ⟨Nat.le_of_ble_eq_true rfl, Nat.le_of_ble_eq_true rfl⟩) (fun r_82 w_82 => ?_)
            have w_82 : r_82.toInt = (cnt f y_81 p0.toNatClampNeg (p1.toInt - p0.toInt).toNat : Int) := w_82
            refine lv_aload_n hx hb dX4_gatherHeavyOfBoth_121 rfl (lv_at hl 2 rfl) ?_
            refine va_get (D := (dC, dI)) (ci := 4) (v := .ref q_row) (C := RX4) (T := TX4) (N := 9) hx hb hts hi_4 hown hK hP 0 rfl rfl 0 (by decide) hf_12 (fun _ h9 => h9) rfl dX4_gatherHeavyOfBoth_122 ?_
            refine lv_iload hx hb dX4_gatherHeavyOfBoth_125 (lv_at hl 0 rfl) ?_
            refine lv_iload hx hb dX4_gatherHeavyOfBoth_127 (lv_at hl 6 rfl) ?_
            refine lv_iload hx hb dX4_gatherHeavyOfBoth_129 (lv_at hl 7 rfl) ?_
            have hPc := hP.sub (ws' := [kx_0 q_row q_cell len, kx_a q_cell cyI 160 f]) [1, 2] rfl
            have hKc := hK
            refine vp_callSi (W.runV (As := [.int y_81, .int p2, .int p3]) (rest := [.int r_82, .int i, .ref a_n]) ⟨hx, hb, hml, hown, hts⟩ (c_X0_oftenIn l dC dI q_row q_cell cyI len f y_81 p2 p3 d3 (om_167 c1 d5)) (cwV 3 hts gX4_gatherHeavyOfBoth_X0_oftenIn rfl rfl rfl (by decide +kernel) ⟨Nat.le_of_ble_eq_true rfl, Nat.le_of_ble_eq_true rfl⟩) ⟨fun a U g mk q => by obtain ⟨q0, qP, qK⟩ := q; exact ⟨q0, qP, va_K.moved (u := U) (U := U.calling g mk a) (Vm.Alike.refl U.vm) qK⟩, kx_rc0 hKc hPc (q0 := 0) rfl, fun U hU hW => ⟨rfl, by rw [hU]; exact hPc, va_K.moved hW.alike hKc⟩⟩ rfl rfl hl.1 rfl (lv_room (Nat.le_of_ble_eq_true rfl)) dX4_gatherHeavyOfBoth_131 ⟨Nat.le_of_ble_eq_true rfl, Nat.le_of_ble_eq_true rfl⟩) (fun r_83 w_83 => ?_)
            have w_83 : r_83.toInt = (cnt f y_81 p2.toNatClampNeg (p3.toInt - p2.toInt).toNat : Int) := w_83
            have l_1 := cnt_le f y_81 p0.toNatClampNeg (p1.toInt - p0.toInt).toNat
            have l_2 := cnt_le f y_81 p2.toNatClampNeg ((p3.toInt : Int) - p2.toInt).toNat
            refine lv_iadd hx hb dX4_gatherHeavyOfBoth_134 ?_
            refine lv_topi (fun y_84 ey_84 => ?_)
            have i_84 : y_84.toInt = r_82.toInt + r_83.toInt := ki_add ey_84 rfl rfl (by omega) (by omega)
            refine va_iast hx hb hK hP hD hS 13 0 rfl rfl (ki_in (om_10 LP2_h0) (by omega)) dX4_gatherHeavyOfBoth_135 (fun H locs hP hD hS => ?_)
            obtain ⟨hP, hD⟩ := kx_re (w2 := [kx_4 m_ q_row q_t t_ h0 k0 w_ z_ slots old, kx_0 q_row q_cell len, kx_a q_cell cyI 160 f, kx_2 q_t q_row q_joined q_from q_to q_size q_lossOf q_lessBy q_value q_number nodes here, kx_a q_from cyI 319 ff, kx_a q_to cyI 319 ft, kx_a q_size cyI 319 fs, kx_a q_lossOf cyI 319 fo, kx_a q_lessBy cyI 319 fe, kx_a q_value cyI 1914 uv, kx_a q_number cyI 1914 un, kx_3 h0 a_v a_n o_67 o_68 o_69, kx_a a_v cyI 12 o_70, kx_a a_n cyI 12 (upd wn i.toNatClampNeg y_84), kx_3 k0 kv kn o_56 o_57 o_58, kx_a kv cyI 12 o_59, kx_a kn cyI 12 o_60]) hP hD rfl
            obtain ⟨x_85, ex_85⟩ : ∃ y : Int32, y = i + 1 := ⟨_, rfl⟩
            have i_85 : x_85.toInt = i.toInt + 1 := ki_add ex_85 rfl rfl (om_13 LP2_h0) (by omega)
            refine lv_iinc (v := x_85) (lv' := [(8, .int x_85), (9, .int y_81), (0, .ref m_), (1, .ref q_t), (2, .int p0), (3, .int p1), (4, .int p2), (5, .int p3), (6, .int p4), (7, .int p5)]) hx hb dX4_gatherHeavyOfBoth_136 hl (k := 1) rfl (by rw [ex_85]; rfl) (by decide) rfl (fun ls hl => ?_)
            refine lv_goto (tgt := 77) hx hb dX4_gatherHeavyOfBoth_139 (by decide) ?_
            have n_86 := ki_nat x_85 rfl (om_34 LP2_h0 i_85)
            exact ih2 x_85 (upd wn i.toNatClampNeg y_84) (om_34 LP2_h0 i_85) (om_54 i_73 i_85) (fun j hj => if h9 : j = i.toNatClampNeg then (by rw [h9, upd_at, ← ey_81]; omega) else (by rw [upd_ne h9]; exact LP2_h2 j (by omega))) (om_mu hn2 (om_5 i_85) (om_6 i_73)) _ _ hP hD hS ls (lv_sub hl [0, 2, 3, 4, 5, 6, 7, 8, 9] rfl)
      have k_87 : (0 : Int32).toInt = 0 := rfl
      exact LP2 ((o_67.toInt - 0 : Int).toNat + 1) 0 o_71 om_35 (om_10 w_66.2.2.1) (fun j hj => absurd hj (Nat.not_lt_zero j)) (Nat.lt_succ_self _) _ _ hP hD hS ls (lv_sub hl [0, 1, 2, 3, 4, 5, 6, 7, 8] rfl)

set_option maxHeartbeats 4000000 in
set_option maxRecDepth 100000 in
theorem c_X4_refusalOfBoth_x (l : Launch) (dC : Nat → ClassId) (dI : Nat → Nat → Nat) (m_ : Nat) (q_row : Nat) (q_t : Nat) (t_ : Nat) (h0 : Nat) (k0 : Nat) (w_ : Nat) (z_ : Nat) (slots : Int32) (old : Int32) (q_cell : Nat) (cyI : ClassId) (len : Int32) (f : Nat → Int32) (p0 : Int32) (p1 : Int32) (p2 : Int32) (p3 : Int32) (p4 : Int32) (p5 : Int32) (a0 : 0 ≤ len.toInt) (a1 : len.toInt ≤ 160) (sl0 : 1 ≤ slots.toInt) (sl1 : slots.toInt ≤ 6) : Met l yX4_refusalOfBoth wsX4_refusalOfBoth ({ frames := 1, cells := 0, slots := 0, locals := 45 }) (va_Pc [.ref m_, .int p0, .int p1, .int p2, .int p3, .int p4, .int p5] (fun U => va_P (dC, dI) vwCl [kx_4 m_ q_row q_t t_ h0 k0 w_ z_ slots old, kx_0 q_row q_cell len, kx_a q_cell cyI 160 f] U.heap ∧ va_K (dC, dI) vwCl [(cyI, .int)] U)) (vp_Si (fun r : Int32 => (r = 0 ∧ (0 ≤ p0.toInt ∧ p0.toInt < p1.toInt ∧ p1.toInt ≤ len.toInt ∧ 0 ≤ p2.toInt ∧ p2.toInt < p3.toInt ∧ p3.toInt ≤ len.toInt ∧ 1 ≤ p4.toInt ∧ p4.toInt ≤ p5.toInt ∧ p5.toInt ≤ 999 ∧ p5.toInt ≤ p4.toInt * (slots.toInt + 1) ∧ (p3.toInt ≤ p0.toInt ∨ p1.toInt ≤ p2.toInt))) ∨ (r = (-1) ∧ ((p0.toInt < 0 ∨ p1.toInt ≤ p0.toInt ∨ len.toInt < p1.toInt) ∨ (p2.toInt < 0 ∨ p3.toInt ≤ p2.toInt ∨ len.toInt < p3.toInt) ∨ p4.toInt < 1 ∨ p5.toInt < p4.toInt ∨ 999 < p5.toInt)) ∨ (r = (-2) ∧ (0 ≤ p0.toInt ∧ p0.toInt < p1.toInt ∧ p1.toInt ≤ len.toInt ∧ 0 ≤ p2.toInt ∧ p2.toInt < p3.toInt ∧ p3.toInt ≤ len.toInt ∧ 1 ≤ p4.toInt ∧ p4.toInt ≤ p5.toInt ∧ p5.toInt ≤ 999 ∧ p4.toInt * (slots.toInt + 1) < p5.toInt)) ∨ (r = (-3) ∧ (0 ≤ p0.toInt ∧ p0.toInt < p1.toInt ∧ p1.toInt ≤ len.toInt ∧ 0 ≤ p2.toInt ∧ p2.toInt < p3.toInt ∧ p3.toInt ≤ len.toInt ∧ 1 ≤ p4.toInt ∧ p4.toInt ≤ p5.toInt ∧ p5.toInt ≤ 999 ∧ p5.toInt ≤ p4.toInt * (slots.toInt + 1) ∧ p0.toInt < p3.toInt ∧ p2.toInt < p1.toInt)))) 0 0 (fun _ => False) := by
  refine kx_stS (ws := wsX4_refusalOfBoth) (cc := cX4_refusalOfBoth) (maxL := 7) (ret := (some .int)) (by decide) rfl (Nat.le_of_ble_eq_true rfl) ?_
  intro p e s m below meth c ls hx hb hr hlocks hts hown hml hP hK hl
  have hown : s.vm.findClass RX4 = some m.cls := hown
  have hl : lv_has ls 7 [(0, .ref m_), (1, .int p0), (2, .int p1), (3, .int p2), (4, .int p3), (5, .int p4), (6, .int p5)] := hl
  have hf_12 := hts (.fieldLink RX4 12 "MajorityIndex" "row" "LMajorityIndex$Row;") (List.mem_of_getElem? (i := 1) rfl)
  have hi_4 : ∀ w ∈ u_ws RX4 TX4 9, w ∈ wsX4_refusalOfBoth := fun w h => List.mem_cons_of_mem _ (List.mem_append_left _ (List.mem_append_right _ h))
  refine lv_aload_n hx hb dX4_refusalOfBoth_0 rfl (lv_at hl 0 rfl) ?_
  refine va_get (D := (dC, dI)) (ci := 4) (v := .ref q_row) (C := RX4) (T := TX4) (N := 9) hx hb hts hi_4 hown hK hP 0 rfl rfl 0 (by decide) hf_12 (fun _ h9 => h9) rfl dX4_refusalOfBoth_1 ?_
  refine lv_iload_n hx hb dX4_refusalOfBoth_4 rfl (lv_at hl 1 rfl) ?_
  refine lv_iload_n hx hb dX4_refusalOfBoth_5 rfl (lv_at hl 2 rfl) ?_
  have hPc := hP.sub (ws' := [kx_0 q_row q_cell len]) [1] rfl
  have hKc := hK.sub (tys' := []) [] rfl
  refine vp_callSi (W.runV (As := [.int p0, .int p1]) (rest := []) ⟨hx, hb, hml, hown, hts⟩ (c_X0_hasRange l dC dI q_row q_cell len p0 p1) (cwV 2 hts gX4_refusalOfBoth_X0_hasRange rfl rfl rfl (by decide +kernel) ⟨Nat.le_of_ble_eq_true rfl, Nat.le_of_ble_eq_true rfl⟩) ⟨fun a U g mk q => by obtain ⟨q0, qP, qK⟩ := q; exact ⟨q0, qP, va_K.moved (u := U) (U := U.calling g mk a) (Vm.Alike.refl U.vm) qK⟩, kx_rc0 hKc hPc (q0 := 0) rfl, fun U hU hW => ⟨rfl, by rw [hU]; exact hPc, va_K.moved hW.alike hKc⟩⟩ rfl rfl hl.1 rfl (lv_room (Nat.le_of_ble_eq_true rfl)) dX4_refusalOfBoth_6 ⟨Nat.le_of_ble_eq_true rfl, Nat.le_of_ble_eq_true rfl⟩) (fun r_1 w_1 => ?_)
  rcases w_1 with ⟨rfl, w_1⟩ | ⟨rfl, w_1⟩
  · have w_1 : (0 ≤ p0.toInt ∧ p0.toInt < p1.toInt ∧ p1.toInt ≤ len.toInt) := w_1
    refine lv_if_eq (tgt := 35) hx hb dX4_refusalOfBoth_9 (by decide) (fun c_2 => ?_) (fun c_2 => ?_)
    · exact absurd c_2 (by decide)
    · refine lv_aload_n hx hb dX4_refusalOfBoth_12 rfl (lv_at hl 0 rfl) ?_
      refine va_get (D := (dC, dI)) (ci := 4) (v := .ref q_row) (C := RX4) (T := TX4) (N := 9) hx hb hts hi_4 hown hK hP 0 rfl rfl 0 (by decide) hf_12 (fun _ h9 => h9) rfl dX4_refusalOfBoth_13 ?_
      refine lv_iload_n hx hb dX4_refusalOfBoth_16 rfl (lv_at hl 3 rfl) ?_
      refine lv_iload hx hb dX4_refusalOfBoth_17 (lv_at hl 4 rfl) ?_
      have hPc := hP.sub (ws' := [kx_0 q_row q_cell len]) [1] rfl
      have hKc := hK.sub (tys' := []) [] rfl
      refine vp_callSi (W.runV (As := [.int p2, .int p3]) (rest := []) ⟨hx, hb, hml, hown, hts⟩ (c_X0_hasRange l dC dI q_row q_cell len p2 p3) (cwV 2 hts gX4_refusalOfBoth_X0_hasRange rfl rfl rfl (by decide +kernel) ⟨Nat.le_of_ble_eq_true rfl, Nat.le_of_ble_eq_true rfl⟩) ⟨fun a U g mk q => by obtain ⟨q0, qP, qK⟩ := q; exact ⟨q0, qP, va_K.moved (u := U) (U := U.calling g mk a) (Vm.Alike.refl U.vm) qK⟩, kx_rc0 hKc hPc (q0 := 0) rfl, fun U hU hW => ⟨rfl, by rw [hU]; exact hPc, va_K.moved hW.alike hKc⟩⟩ rfl rfl hl.1 rfl (lv_room (Nat.le_of_ble_eq_true rfl)) dX4_refusalOfBoth_19 ⟨Nat.le_of_ble_eq_true rfl, Nat.le_of_ble_eq_true rfl⟩) (fun r_3 w_3 => ?_)
      rcases w_3 with ⟨rfl, w_3⟩ | ⟨rfl, w_3⟩
      · have w_3 : (0 ≤ p2.toInt ∧ p2.toInt < p3.toInt ∧ p3.toInt ≤ len.toInt) := w_3
        refine lv_if_eq (tgt := 35) hx hb dX4_refusalOfBoth_22 (by decide) (fun c_4 => ?_) (fun c_4 => ?_)
        · exact absurd c_4 (by decide)
        · refine lv_iload hx hb dX4_refusalOfBoth_25 (lv_at hl 5 rfl) ?_
          refine lv_iload hx hb dX4_refusalOfBoth_27 (lv_at hl 6 rfl) ?_
          have hPc := hP.sub (ws' := []) [] rfl
          have hKc := hK.sub (tys' := []) [] rfl
          refine vp_callSi (W.runS (As := [.int p4, .int p5]) (rest := []) ⟨hx, hb, hml, hown, hts⟩ (c_X4_isShare l dC dI p4 p5) (va_cwS 2 hts gX4_refusalOfBoth_X4_isShare rfl rfl rfl (by decide +kernel) ⟨Nat.le_of_ble_eq_true rfl, Nat.le_of_ble_eq_true rfl⟩) ⟨fun a U g mk q => by obtain ⟨q0, qP, qK⟩ := q; exact ⟨q0, qP, va_K.moved (u := U) (U := U.calling g mk a) (Vm.Alike.refl U.vm) qK⟩, fun U hU hW => ⟨rfl, by rw [hU]; exact hPc, va_K.moved hW.alike hKc⟩⟩ rfl rfl hl.1 rfl (lv_room (Nat.le_of_ble_eq_true rfl)) dX4_refusalOfBoth_29 ⟨Nat.le_of_ble_eq_true rfl, Nat.le_of_ble_eq_true rfl⟩) (fun r_5 w_5 => ?_)
          rcases w_5 with ⟨rfl, w_5⟩ | ⟨rfl, w_5⟩
          · have w_5 : (1 ≤ p4.toInt ∧ p4.toInt ≤ p5.toInt ∧ p5.toInt ≤ 999) := w_5
            refine lv_if_ne (tgt := 37) hx hb dX4_refusalOfBoth_32 (by decide) (fun c_6 => ?_) (fun c_6 => ?_)
            · refine lv_aload_n hx hb dX4_refusalOfBoth_37 rfl (lv_at hl 0 rfl) ?_
              refine lv_iload hx hb dX4_refusalOfBoth_38 (lv_at hl 5 rfl) ?_
              refine lv_iload hx hb dX4_refusalOfBoth_40 (lv_at hl 6 rfl) ?_
              have hPc := hP.sub (ws' := [kx_4 m_ q_row q_t t_ h0 k0 w_ z_ slots old]) [0] rfl
              have hKc := hK.sub (tys' := []) [] rfl
              refine vp_callSi (W.runV (As := [.int p4, .int p5]) (rest := []) ⟨hx, hb, hml, hown, hts⟩ (c_X4_isEnough_x l dC dI m_ q_row q_t t_ h0 k0 w_ z_ slots old p4 p5 sl0 sl1 (om_151 w_5.1) (om_531 w_5.2.1 w_5.2.2)) (cwV 2 hts gX4_refusalOfBoth_X4_isEnough rfl rfl rfl (by decide +kernel) ⟨Nat.le_of_ble_eq_true rfl, Nat.le_of_ble_eq_true rfl⟩) ⟨fun a U g mk q => by obtain ⟨q0, qP, qK⟩ := q; exact ⟨q0, qP, va_K.moved (u := U) (U := U.calling g mk a) (Vm.Alike.refl U.vm) qK⟩, kx_rc4 hKc hPc (q0 := 0) rfl, fun U hU hW => ⟨rfl, by rw [hU]; exact hPc, va_K.moved hW.alike hKc⟩⟩ rfl rfl hl.1 rfl (lv_room (Nat.le_of_ble_eq_true rfl)) dX4_refusalOfBoth_42 ⟨Nat.le_of_ble_eq_true rfl, Nat.le_of_ble_eq_true rfl⟩) (fun r_7 w_7 => ?_)
              rcases w_7 with ⟨rfl, w_7⟩ | ⟨rfl, w_7⟩
              · have w_7 : p5.toInt ≤ p4.toInt * (slots.toInt + 1) := w_7
                refine lv_if_ne (tgt := 51) hx hb dX4_refusalOfBoth_45 (by decide) (fun c_8 => ?_) (fun c_8 => ?_)
                · refine lv_iload_n hx hb dX4_refusalOfBoth_51 rfl (lv_at hl 1 rfl) ?_
                  refine lv_iload hx hb dX4_refusalOfBoth_52 (lv_at hl 4 rfl) ?_
                  refine lv_icmp_ge (tgt := 67) hx hb dX4_refusalOfBoth_54 (by decide) (fun c_9 => ?_) (fun c_9 => ?_)
                  · have i_9 : p3.toInt ≤ p0.toInt := kc_le c_9
                    refine lv_iconst (v := 0) hx hb dX4_refusalOfBoth_67 (by decide) ?_
                    exact W.iret (v := 0) hx hb hr (hlocks := hlocks) (fun t ht hW => ⟨0, rfl, Or.inl ⟨rfl, by omega⟩, ht⟩) (fun q hq => by cases hq) dX4_refusalOfBoth_68
                  · have i_9 : p0.toInt < p3.toInt := kc_nle c_9
                    refine lv_iload_n hx hb dX4_refusalOfBoth_57 rfl (lv_at hl 3 rfl) ?_
                    refine lv_iload_n hx hb dX4_refusalOfBoth_58 rfl (lv_at hl 2 rfl) ?_
                    refine lv_icmp_ge (tgt := 67) hx hb dX4_refusalOfBoth_59 (by decide) (fun c_10 => ?_) (fun c_10 => ?_)
                    · have i_10 : p1.toInt ≤ p2.toInt := kc_le c_10
                      refine lv_iconst (v := 0) hx hb dX4_refusalOfBoth_67 (by decide) ?_
                      exact W.iret (v := 0) hx hb hr (hlocks := hlocks) (fun t ht hW => ⟨0, rfl, Or.inl ⟨rfl, by omega⟩, ht⟩) (fun q hq => by cases hq) dX4_refusalOfBoth_68
                    · have i_10 : p2.toInt < p1.toInt := kc_nle c_10
                      refine lv_bipush (v := (-3)) hx hb dX4_refusalOfBoth_62 (by decide) ?_
                      refine lv_goto (tgt := 68) hx hb dX4_refusalOfBoth_64 (by decide) ?_
                      exact W.iret (v := (-3)) hx hb hr (hlocks := hlocks) (fun t ht hW => ⟨(-3), rfl, Or.inr (Or.inr (Or.inr (⟨rfl, by omega⟩))), ht⟩) (fun q hq => by cases hq) dX4_refusalOfBoth_68
                · exact absurd c_8 (by decide)
              · have w_7 : p4.toInt * (slots.toInt + 1) < p5.toInt := w_7
                refine lv_if_ne (tgt := 51) hx hb dX4_refusalOfBoth_45 (by decide) (fun c_11 => ?_) (fun c_11 => ?_)
                · exact absurd c_11 (by decide)
                · refine lv_bipush (v := (-2)) hx hb dX4_refusalOfBoth_48 (by decide) ?_
                  exact W.iret (v := (-2)) hx hb hr (hlocks := hlocks) (fun t ht hW => ⟨(-2), rfl, Or.inr (Or.inr (Or.inl ⟨rfl, by omega⟩)), ht⟩) (fun q hq => by cases hq) dX4_refusalOfBoth_50
            · exact absurd c_6 (by decide)
          · have w_5 : (p4.toInt < 1 ∨ p5.toInt < p4.toInt ∨ 999 < p5.toInt) := w_5
            refine lv_if_ne (tgt := 37) hx hb dX4_refusalOfBoth_32 (by decide) (fun c_12 => ?_) (fun c_12 => ?_)
            · exact absurd c_12 (by decide)
            · refine lv_iconst (v := (-1)) hx hb dX4_refusalOfBoth_35 (by decide) ?_
              exact W.iret (v := (-1)) hx hb hr (hlocks := hlocks) (fun t ht hW => ⟨(-1), rfl, Or.inr (Or.inl ⟨rfl, by omega⟩), ht⟩) (fun q hq => by cases hq) dX4_refusalOfBoth_36
      · have w_3 : (p2.toInt < 0 ∨ p3.toInt ≤ p2.toInt ∨ len.toInt < p3.toInt) := w_3
        refine lv_if_eq (tgt := 35) hx hb dX4_refusalOfBoth_22 (by decide) (fun c_13 => ?_) (fun c_13 => ?_)
        · refine lv_iconst (v := (-1)) hx hb dX4_refusalOfBoth_35 (by decide) ?_
          exact W.iret (v := (-1)) hx hb hr (hlocks := hlocks) (fun t ht hW => ⟨(-1), rfl, Or.inr (Or.inl ⟨rfl, by omega⟩), ht⟩) (fun q hq => by cases hq) dX4_refusalOfBoth_36
        · exact absurd c_13 (by decide)
  · have w_1 : (p0.toInt < 0 ∨ p1.toInt ≤ p0.toInt ∨ len.toInt < p1.toInt) := w_1
    refine lv_if_eq (tgt := 35) hx hb dX4_refusalOfBoth_9 (by decide) (fun c_14 => ?_) (fun c_14 => ?_)
    · refine lv_iconst (v := (-1)) hx hb dX4_refusalOfBoth_35 (by decide) ?_
      exact W.iret (v := (-1)) hx hb hr (hlocks := hlocks) (fun t ht hW => ⟨(-1), rfl, Or.inr (Or.inl ⟨rfl, by omega⟩), ht⟩) (fun q hq => by cases hq) dX4_refusalOfBoth_36
    · exact absurd c_14 (by decide)

set_option maxHeartbeats 4000000 in
set_option maxRecDepth 100000 in
theorem c_X4_bothAt_y (l : Launch) (dC : Nat → ClassId) (dI : Nat → Nat → Nat) (m_ : Nat) (q_row : Nat) (q_t : Nat) (t_ : Nat) (h0 : Nat) (k0 : Nat) (w_ : Nat) (z_ : Nat) (slots : Int32) (old : Int32) (q_joined : Nat) (q_from : Nat) (q_to : Nat) (q_size : Nat) (q_lossOf : Nat) (q_lessBy : Nat) (q_value : Nat) (q_number : Nat) (nodes : Int32) (here : Int32) (q_cell : Nat) (cyI : ClassId) (len : Int32) (f : Nat → Int32) (ff : Nat → Int32) (ft : Nat → Int32) (fs : Nat → Int32) (fo : Nat → Int32) (uv : Nat → Int32) (un : Nat → Int32) (fe : Nat → Int32) (j_v : Nat) (j_n : Nat) (js : Int32) (jl : Int32) (je : Int32) (jv : Nat → Int32) (jn : Nat → Int32) (a_v : Nat) (a_n : Nat) (vs : Int32) (lo : Int32) (le : Int32) (fv : Nat → Int32) (fn : Nat → Int32) (kv : Nat) (kn : Nat) (sb : Int32) (lb : Int32) (eb : Int32) (gb : Nat → Int32) (nb : Nat → Int32) (p0 : Int32) (p1 : Int32) (p2 : Int32) (p3 : Int32) (p4 : Int32) (p5 : Int32) (p6 : Int32) (sz : Nat) (a0 : 0 ≤ len.toInt) (a1 : len.toInt ≤ 160) (s0 : sixes fs) (sl0 : 1 ≤ slots.toInt) (sl1 : slots.toInt ≤ 6) (l0 : laidX old slots here f ff ft fs fo fe uv un nodes len) (s1 : shorts f) : Met l yX4_bothAt wsX4_bothAt ({ frames := 6, cells := 0, slots := 0, locals := 270 }) (va_Pc [.ref m_, .int p0, .int p1, .int p2, .int p3, .int p4, .int p5, .int p6] (fun U => U.heap.size = sz ∧ va_P (dC, dI) vwCl [kx_4 m_ q_row q_t t_ h0 k0 w_ z_ slots old, kx_2 q_t q_row q_joined q_from q_to q_size q_lossOf q_lessBy q_value q_number nodes here, kx_0 q_row q_cell len, kx_a q_cell cyI 160 f, kx_a q_from cyI 319 ff, kx_a q_to cyI 319 ft, kx_a q_size cyI 319 fs, kx_a q_lossOf cyI 319 fo, kx_a q_lessBy cyI 319 fe, kx_a q_value cyI 1914 uv, kx_a q_number cyI 1914 un, kx_3 q_joined j_v j_n js jl je, kx_a j_v cyI 12 jv, kx_a j_n cyI 12 jn, kx_3 h0 a_v a_n vs lo le, kx_a a_v cyI 12 fv, kx_a a_n cyI 12 fn, kx_3 k0 kv kn sb lb eb, kx_a kv cyI 12 gb, kx_a kn cyI 12 nb] U.heap ∧ va_K (dC, dI) vwCl [(cyI, .int)] U ∧ va_D (fun _ => True) [kx_4 m_ q_row q_t t_ h0 k0 w_ z_ slots old, kx_2 q_t q_row q_joined q_from q_to q_size q_lossOf q_lessBy q_value q_number nodes here, kx_0 q_row q_cell len, kx_a q_cell cyI 160 f, kx_a q_from cyI 319 ff, kx_a q_to cyI 319 ft, kx_a q_size cyI 319 fs, kx_a q_lossOf cyI 319 fo, kx_a q_lessBy cyI 319 fe, kx_a q_value cyI 1914 uv, kx_a q_number cyI 1914 un, kx_3 q_joined j_v j_n js jl je, kx_a j_v cyI 12 jv, kx_a j_n cyI 12 jn, kx_3 h0 a_v a_n vs lo le, kx_a a_v cyI 12 fv, kx_a a_n cyI 12 fn, kx_3 k0 kv kn sb lb eb, kx_a kv cyI 12 gb, kx_a kn cyI 12 nb] ∧ va_Nw (.methodLinkNest RX3 42 yX4_isHeavy RX4) U)) (va_Qi (fun (r : Int32) (u : Int32 × Int32 × Int32 × (Nat → Int32) × (Nat → Int32) × (Nat → Int32) × (Nat → Int32) × (Nat → Int32) × (Nat → Int32) × (Nat → Int32) × Int32 × Int32 × Int32 × (Nat → Int32) × (Nat → Int32) × Int32 × Int32 × Int32 × (Nat → Int32) × (Nat → Int32) × Int32 × Int32 × Int32 × (Nat → Int32) × (Nat → Int32)) => ((((0 ≤ p0.toInt ∧ p0.toInt < p1.toInt ∧ p1.toInt ≤ len.toInt ∧ 0 ≤ p2.toInt ∧ p2.toInt < p3.toInt ∧ p3.toInt ≤ len.toInt ∧ 1 ≤ p4.toInt ∧ p4.toInt ≤ p5.toInt ∧ p5.toInt ≤ 999 ∧ p5.toInt ≤ p4.toInt * (slots.toInt + 1) ∧ (p3.toInt ≤ p0.toInt ∨ p1.toInt ≤ p2.toInt)) ∧ 0 ≤ p6.toInt) ∧ u.1.toInt = 0 ∧ mj_vs u.2.2.2.2.2.2.2.2.2.2.2.2.2.2.2.2.2.2.1 u.2.2.2.2.2.2.2.2.2.2.2.2.2.2.2.2.2.2.2.1 0 u.2.2.2.2.2.2.2.2.2.2.2.2.2.2.2.1.toNatClampNeg (mj_hvm p4.toInt p5.toInt (p1.toInt - p0.toInt + p3.toInt - p2.toInt) (fun v => (cnt f v p0.toNatClampNeg (p1.toInt - p0.toInt).toNat : Int) + (cnt f v p2.toNatClampNeg ((p3.toInt : Int) - p2.toInt).toNat : Int))) ∧ mj_srt u.2.2.2.2.2.2.2.2.2.2.2.2.2.2.2.2.2.2.1 u.2.2.2.2.2.2.2.2.2.2.2.2.2.2.2.2.2.2.2.1 0 u.2.2.2.2.2.2.2.2.2.2.2.2.2.2.2.1.toNatClampNeg ∧ 0 ≤ u.2.2.2.2.2.2.2.2.2.2.2.2.2.2.2.1.toInt ∧ ((p6.toInt < u.2.2.2.2.2.2.2.2.2.2.2.2.2.2.2.1.toInt ∧ r = u.2.2.2.2.2.2.2.2.2.2.2.2.2.2.2.2.2.2.1 p6.toNatClampNeg) ∨ (u.2.2.2.2.2.2.2.2.2.2.2.2.2.2.2.1.toInt ≤ p6.toInt ∧ r = -40000))) ∨ ((((p0.toInt < 0 ∨ p1.toInt ≤ p0.toInt ∨ len.toInt < p1.toInt) ∨ (p2.toInt < 0 ∨ p3.toInt ≤ p2.toInt ∨ len.toInt < p3.toInt) ∨ p4.toInt < 1 ∨ p5.toInt < p4.toInt ∨ 999 < p5.toInt) ∨ (0 ≤ p0.toInt ∧ p0.toInt < p1.toInt ∧ p1.toInt ≤ len.toInt ∧ 0 ≤ p2.toInt ∧ p2.toInt < p3.toInt ∧ p3.toInt ≤ len.toInt ∧ 1 ≤ p4.toInt ∧ p4.toInt ≤ p5.toInt ∧ p5.toInt ≤ 999 ∧ p4.toInt * (slots.toInt + 1) < p5.toInt) ∨ (0 ≤ p0.toInt ∧ p0.toInt < p1.toInt ∧ p1.toInt ≤ len.toInt ∧ 0 ≤ p2.toInt ∧ p2.toInt < p3.toInt ∧ p3.toInt ≤ len.toInt ∧ 1 ≤ p4.toInt ∧ p4.toInt ≤ p5.toInt ∧ p5.toInt ≤ 999 ∧ p5.toInt ≤ p4.toInt * (slots.toInt + 1) ∧ p0.toInt < p3.toInt ∧ p2.toInt < p1.toInt) ∨ p6.toInt < 0) ∧ r = -40000)) ∧ laidX u.1 slots u.2.2.1 f u.2.2.2.1 u.2.2.2.2.1 u.2.2.2.2.2.1 u.2.2.2.2.2.2.1 u.2.2.2.2.2.2.2.1 u.2.2.2.2.2.2.2.2.1 u.2.2.2.2.2.2.2.2.2.1 u.2.1 len ∧ sixes u.2.2.2.2.2.1) (fun (u : Int32 × Int32 × Int32 × (Nat → Int32) × (Nat → Int32) × (Nat → Int32) × (Nat → Int32) × (Nat → Int32) × (Nat → Int32) × (Nat → Int32) × Int32 × Int32 × Int32 × (Nat → Int32) × (Nat → Int32) × Int32 × Int32 × Int32 × (Nat → Int32) × (Nat → Int32) × Int32 × Int32 × Int32 × (Nat → Int32) × (Nat → Int32)) (t : State) => va_P (dC, dI) vwCl [kx_4 m_ q_row q_t t_ h0 k0 w_ z_ slots u.1, kx_2 q_t q_row q_joined q_from q_to q_size q_lossOf q_lessBy q_value q_number u.2.1 u.2.2.1, kx_0 q_row q_cell len, kx_a q_cell cyI 160 f, kx_a q_from cyI 319 u.2.2.2.1, kx_a q_to cyI 319 u.2.2.2.2.1, kx_a q_size cyI 319 u.2.2.2.2.2.1, kx_a q_lossOf cyI 319 u.2.2.2.2.2.2.1, kx_a q_lessBy cyI 319 u.2.2.2.2.2.2.2.1, kx_a q_value cyI 1914 u.2.2.2.2.2.2.2.2.1, kx_a q_number cyI 1914 u.2.2.2.2.2.2.2.2.2.1, kx_3 q_joined j_v j_n u.2.2.2.2.2.2.2.2.2.2.1 u.2.2.2.2.2.2.2.2.2.2.2.1 u.2.2.2.2.2.2.2.2.2.2.2.2.1, kx_a j_v cyI 12 u.2.2.2.2.2.2.2.2.2.2.2.2.2.1, kx_a j_n cyI 12 u.2.2.2.2.2.2.2.2.2.2.2.2.2.2.1, kx_3 h0 a_v a_n u.2.2.2.2.2.2.2.2.2.2.2.2.2.2.2.1 u.2.2.2.2.2.2.2.2.2.2.2.2.2.2.2.2.1 u.2.2.2.2.2.2.2.2.2.2.2.2.2.2.2.2.2.1, kx_a a_v cyI 12 u.2.2.2.2.2.2.2.2.2.2.2.2.2.2.2.2.2.2.1, kx_a a_n cyI 12 u.2.2.2.2.2.2.2.2.2.2.2.2.2.2.2.2.2.2.2.1, kx_3 k0 kv kn u.2.2.2.2.2.2.2.2.2.2.2.2.2.2.2.2.2.2.2.2.1 u.2.2.2.2.2.2.2.2.2.2.2.2.2.2.2.2.2.2.2.2.2.1 u.2.2.2.2.2.2.2.2.2.2.2.2.2.2.2.2.2.2.2.2.2.2.1, kx_a kv cyI 12 u.2.2.2.2.2.2.2.2.2.2.2.2.2.2.2.2.2.2.2.2.2.2.2.1, kx_a kn cyI 12 u.2.2.2.2.2.2.2.2.2.2.2.2.2.2.2.2.2.2.2.2.2.2.2.2] t.heap ∧ va_K (dC, dI) vwCl [(cyI, .int)] t ∧ va_D (va_A [kx_4 m_ q_row q_t t_ h0 k0 w_ z_ slots old, kx_2 q_t q_row q_joined q_from q_to q_size q_lossOf q_lessBy q_value q_number nodes here, kx_0 q_row q_cell len, kx_a q_cell cyI 160 f, kx_a q_from cyI 319 ff, kx_a q_to cyI 319 ft, kx_a q_size cyI 319 fs, kx_a q_lossOf cyI 319 fo, kx_a q_lessBy cyI 319 fe, kx_a q_value cyI 1914 uv, kx_a q_number cyI 1914 un, kx_3 q_joined j_v j_n js jl je, kx_a j_v cyI 12 jv, kx_a j_n cyI 12 jn, kx_3 h0 a_v a_n vs lo le, kx_a a_v cyI 12 fv, kx_a a_n cyI 12 fn, kx_3 k0 kv kn sb lb eb, kx_a kv cyI 12 gb, kx_a kn cyI 12 nb] sz) [kx_4 m_ q_row q_t t_ h0 k0 w_ z_ slots u.1, kx_2 q_t q_row q_joined q_from q_to q_size q_lossOf q_lessBy q_value q_number u.2.1 u.2.2.1, kx_0 q_row q_cell len, kx_a q_cell cyI 160 f, kx_a q_from cyI 319 u.2.2.2.1, kx_a q_to cyI 319 u.2.2.2.2.1, kx_a q_size cyI 319 u.2.2.2.2.2.1, kx_a q_lossOf cyI 319 u.2.2.2.2.2.2.1, kx_a q_lessBy cyI 319 u.2.2.2.2.2.2.2.1, kx_a q_value cyI 1914 u.2.2.2.2.2.2.2.2.1, kx_a q_number cyI 1914 u.2.2.2.2.2.2.2.2.2.1, kx_3 q_joined j_v j_n u.2.2.2.2.2.2.2.2.2.2.1 u.2.2.2.2.2.2.2.2.2.2.2.1 u.2.2.2.2.2.2.2.2.2.2.2.2.1, kx_a j_v cyI 12 u.2.2.2.2.2.2.2.2.2.2.2.2.2.1, kx_a j_n cyI 12 u.2.2.2.2.2.2.2.2.2.2.2.2.2.2.1, kx_3 h0 a_v a_n u.2.2.2.2.2.2.2.2.2.2.2.2.2.2.2.1 u.2.2.2.2.2.2.2.2.2.2.2.2.2.2.2.2.1 u.2.2.2.2.2.2.2.2.2.2.2.2.2.2.2.2.2.1, kx_a a_v cyI 12 u.2.2.2.2.2.2.2.2.2.2.2.2.2.2.2.2.2.2.1, kx_a a_n cyI 12 u.2.2.2.2.2.2.2.2.2.2.2.2.2.2.2.2.2.2.2.1, kx_3 k0 kv kn u.2.2.2.2.2.2.2.2.2.2.2.2.2.2.2.2.2.2.2.2.1 u.2.2.2.2.2.2.2.2.2.2.2.2.2.2.2.2.2.2.2.2.2.1 u.2.2.2.2.2.2.2.2.2.2.2.2.2.2.2.2.2.2.2.2.2.2.1, kx_a kv cyI 12 u.2.2.2.2.2.2.2.2.2.2.2.2.2.2.2.2.2.2.2.2.2.2.2.1, kx_a kn cyI 12 u.2.2.2.2.2.2.2.2.2.2.2.2.2.2.2.2.2.2.2.2.2.2.2.2]) (va_A [kx_4 m_ q_row q_t t_ h0 k0 w_ z_ slots old, kx_2 q_t q_row q_joined q_from q_to q_size q_lossOf q_lessBy q_value q_number nodes here, kx_0 q_row q_cell len, kx_a q_cell cyI 160 f, kx_a q_from cyI 319 ff, kx_a q_to cyI 319 ft, kx_a q_size cyI 319 fs, kx_a q_lossOf cyI 319 fo, kx_a q_lessBy cyI 319 fe, kx_a q_value cyI 1914 uv, kx_a q_number cyI 1914 un, kx_3 q_joined j_v j_n js jl je, kx_a j_v cyI 12 jv, kx_a j_n cyI 12 jn, kx_3 h0 a_v a_n vs lo le, kx_a a_v cyI 12 fv, kx_a a_n cyI 12 fn, kx_3 k0 kv kn sb lb eb, kx_a kv cyI 12 gb, kx_a kn cyI 12 nb] sz)) 0 0 (va_A [kx_4 m_ q_row q_t t_ h0 k0 w_ z_ slots old, kx_2 q_t q_row q_joined q_from q_to q_size q_lossOf q_lessBy q_value q_number nodes here, kx_0 q_row q_cell len, kx_a q_cell cyI 160 f, kx_a q_from cyI 319 ff, kx_a q_to cyI 319 ft, kx_a q_size cyI 319 fs, kx_a q_lossOf cyI 319 fo, kx_a q_lessBy cyI 319 fe, kx_a q_value cyI 1914 uv, kx_a q_number cyI 1914 un, kx_3 q_joined j_v j_n js jl je, kx_a j_v cyI 12 jv, kx_a j_n cyI 12 jn, kx_3 h0 a_v a_n vs lo le, kx_a a_v cyI 12 fv, kx_a a_n cyI 12 fn, kx_3 k0 kv kn sb lb eb, kx_a kv cyI 12 gb, kx_a kn cyI 12 nb] sz) := by
  refine Met.ofW (cc := cX4_bothAt) (maxL := 8) (ret := (some .int)) (by decide) rfl ?_
  intro p e s m args below meth c s₁ B hml hv
  obtain ⟨rfl, hsz, hP, hK, hD0, hN0⟩ := hv
  have hx := B.exec
  have hb := B.bytes
  have hr := B.returns
  have hts := atoms_spec (ws := wsX4_bothAt) B.pre
  have hown : s.vm.findClass RX4 = some m.cls := findClass_of_methodNamed B.named
  have hlocks := B.notSynchronized
  subst hsz
  have hD := hD0.self (sz := s.heap.size)
  generalize hAe : va_A [kx_4 m_ q_row q_t t_ h0 k0 w_ z_ slots old, kx_2 q_t q_row q_joined q_from q_to q_size q_lossOf q_lessBy q_value q_number nodes here, kx_0 q_row q_cell len, kx_a q_cell cyI 160 f, kx_a q_from cyI 319 ff, kx_a q_to cyI 319 ft, kx_a q_size cyI 319 fs, kx_a q_lossOf cyI 319 fo, kx_a q_lessBy cyI 319 fe, kx_a q_value cyI 1914 uv, kx_a q_number cyI 1914 un, kx_3 q_joined j_v j_n js jl je, kx_a j_v cyI 12 jv, kx_a j_n cyI 12 jn, kx_3 h0 a_v a_n vs lo le, kx_a a_v cyI 12 fv, kx_a a_n cyI 12 fn, kx_3 k0 kv kn sb lb eb, kx_a kv cyI 12 gb, kx_a kn cyI 12 nb] s.heap.size = A at hD ⊢
  have hA : ∀ q : Nat, s.heap.size ≤ q → A q := fun q h => by rw [← hAe]; exact Or.inr h
  have hS : va_S A s.heap s.heap [] := va_S.rf
  have hP : va_P (dC, dI) vwCl [kx_4 m_ q_row q_t t_ h0 k0 w_ z_ slots old, kx_2 q_t q_row q_joined q_from q_to q_size q_lossOf q_lessBy q_value q_number nodes here, kx_0 q_row q_cell len, kx_a q_cell cyI 160 f, kx_a q_from cyI 319 ff, kx_a q_to cyI 319 ft, kx_a q_size cyI 319 fs, kx_a q_lossOf cyI 319 fo, kx_a q_lessBy cyI 319 fe, kx_a q_value cyI 1914 uv, kx_a q_number cyI 1914 un, kx_3 q_joined j_v j_n js jl je, kx_a j_v cyI 12 jv, kx_a j_n cyI 12 jn, kx_3 h0 a_v a_n vs lo le, kx_a a_v cyI 12 fv, kx_a a_n cyI 12 fn, kx_3 k0 kv kn sb lb eb, kx_a kv cyI 12 gb, kx_a kn cyI 12 nb] s.heap := hP
  have hl := lv_entry ([.ref m_, .int p0, .int p1, .int p2, .int p3, .int p4, .int p5, .int p6]) (n := 8) (Nat.le_of_ble_eq_true rfl)
  rw [lg_entry_eq]
  generalize (lg_sl ([.ref m_, .int p0, .int p1, .int p2, .int p3, .int p4, .int p5, .int p6]) ++ List.replicate (8 - (lg_sl ([.ref m_, .int p0, .int p1, .int p2, .int p3, .int p4, .int p5, .int p6])).length) Slot.unset).toArray = ls at hl ⊢
  have hl : lv_has ls 8 [(0, .ref m_), (1, .int p0), (2, .int p1), (3, .int p2), (4, .int p3), (5, .int p4), (6, .int p5), (7, .int p6)] := hl
  have hk_102 := hts (.constant RX4 102 (-40000)) (List.mem_of_getElem? (i := 1) rfl)
  have hf_35 := hts (.fieldLink RX4 35 "MajorityIndex" "votes" "LMajorityIndex$Votes;") (List.mem_of_getElem? (i := 2) rfl)
  have hi_4 : ∀ w ∈ u_ws RX4 TX4 9, w ∈ wsX4_bothAt := fun w h => List.mem_cons_of_mem _ (List.mem_append_left _ (List.mem_append_left _ (List.mem_append_left _ (List.mem_append_right _ h))))
  have hf_174 := hts (.fieldLink RX4 174 "MajorityIndex$Votes" "size" "I") (List.mem_of_getElem? (i := 3) rfl)
  have hi_3 : ∀ w ∈ u_ws RX3 TX3 5, w ∈ wsX4_bothAt := fun w h => List.mem_cons_of_mem _ (List.mem_append_left _ (List.mem_append_left _ (List.mem_append_right _ h)))
  have hf_133 := hts (.fieldLink RX4 133 "MajorityIndex$Votes" "value" "[I") (List.mem_of_getElem? (i := 4) rfl)
  refine lv_iload hx hb dX4_bothAt_0 (lv_at hl 7 rfl) ?_
  refine lv_if_lt (tgt := 21) hx hb dX4_bothAt_2 (by decide) (fun c_1 => ?_) (fun c_1 => ?_)
  · have i_1 : p6.toInt < 0 := kc_lt c_1
    refine lv_ldc (v := (-40000)) hx hb hown hk_102 dX4_bothAt_21 ?_
    have hP9 := hP
    have hD9 := hD
    have hK9 := hK
    exact W.iret (v := (-40000)) hx hb hr (hlocks := hlocks) (fun t ht hW => ⟨⟨(-40000), (old, nodes, here, ff, ft, fs, fo, fe, uv, un, js, jl, je, jv, jn, vs, lo, le, fv, fn, sb, lb, eb, gb, nb), rfl, ⟨Or.inr ⟨(by (try dsimp only); omega), rfl⟩, l0, s0⟩, by rw [ht]; exact hP9, va_K.moved hW.alike hK9, hD9⟩, hS.F ht⟩) hS.2.2 dX4_bothAt_23
  · have i_1 : 0 ≤ p6.toInt := kc_nlt c_1
    refine lv_aload_n hx hb dX4_bothAt_5 rfl (lv_at hl 0 rfl) ?_
    refine lv_iload_n hx hb dX4_bothAt_6 rfl (lv_at hl 1 rfl) ?_
    refine lv_iload_n hx hb dX4_bothAt_7 rfl (lv_at hl 2 rfl) ?_
    refine lv_iload_n hx hb dX4_bothAt_8 rfl (lv_at hl 3 rfl) ?_
    refine lv_iload hx hb dX4_bothAt_9 (lv_at hl 4 rfl) ?_
    refine lv_iload hx hb dX4_bothAt_11 (lv_at hl 5 rfl) ?_
    refine lv_iload hx hb dX4_bothAt_13 (lv_at hl 6 rfl) ?_
    have hPc := hP.sub (ws' := [kx_4 m_ q_row q_t t_ h0 k0 w_ z_ slots old, kx_0 q_row q_cell len, kx_a q_cell cyI 160 f]) [0, 2, 3] rfl
    have hKc := hK
    refine vp_callSi (W.runV (As := [.int p0, .int p1, .int p2, .int p3, .int p4, .int p5]) (rest := []) ⟨hx, hb, hml, hown, hts⟩ (c_X4_refusalOfBoth_x l dC dI m_ q_row q_t t_ h0 k0 w_ z_ slots old q_cell cyI len f p0 p1 p2 p3 p4 p5 a0 a1 sl0 sl1) (cwV 6 hts gX4_bothAt_X4_refusalOfBoth rfl rfl rfl (by decide +kernel) ⟨Nat.le_of_ble_eq_true rfl, Nat.le_of_ble_eq_true rfl⟩) ⟨fun a U g mk q => by obtain ⟨q0, qP, qK⟩ := q; exact ⟨q0, qP, va_K.moved (u := U) (U := U.calling g mk a) (Vm.Alike.refl U.vm) qK⟩, kx_rc4 hKc hPc (q0 := 0) rfl, fun U hU hW => ⟨rfl, by rw [hU]; exact hPc, va_K.moved hW.alike hKc⟩⟩ rfl rfl hl.1 rfl (lv_room (Nat.le_of_ble_eq_true rfl)) dX4_bothAt_15 ⟨Nat.le_of_ble_eq_true rfl, Nat.le_of_ble_eq_true rfl⟩) (fun r_2 w_2 => ?_)
    rcases w_2 with ⟨rfl, w_2⟩ | ⟨rfl, w_2⟩ | ⟨rfl, w_2⟩ | ⟨rfl, w_2⟩
    · have w_2 : (0 ≤ p0.toInt ∧ p0.toInt < p1.toInt ∧ p1.toInt ≤ len.toInt ∧ 0 ≤ p2.toInt ∧ p2.toInt < p3.toInt ∧ p3.toInt ≤ len.toInt ∧ 1 ≤ p4.toInt ∧ p4.toInt ≤ p5.toInt ∧ p5.toInt ≤ 999 ∧ p5.toInt ≤ p4.toInt * (slots.toInt + 1) ∧ (p3.toInt ≤ p0.toInt ∨ p1.toInt ≤ p2.toInt)) := w_2
      refine lv_if_eq (tgt := 24) hx hb dX4_bothAt_18 (by decide) (fun c_3 => ?_) (fun c_3 => ?_)
      · refine lv_aload_n hx hb dX4_bothAt_24 rfl (lv_at hl 0 rfl) ?_
        refine lv_aload_n hx hb dX4_bothAt_25 rfl (lv_at hl 0 rfl) ?_
        obtain ⟨hPc, hDc, hFc, hCc⟩ := kx_preM (wc := [kx_4 m_ q_row q_t t_ h0 k0 w_ z_ slots old, kx_2 q_t q_row q_joined q_from q_to q_size q_lossOf q_lessBy q_value q_number nodes here, kx_0 q_row q_cell len, kx_a q_cell cyI 160 f, kx_a q_from cyI 319 ff, kx_a q_to cyI 319 ft, kx_a q_size cyI 319 fs, kx_a q_lossOf cyI 319 fo, kx_a q_lessBy cyI 319 fe, kx_a q_value cyI 1914 uv, kx_a q_number cyI 1914 un, kx_3 q_joined j_v j_n js jl je, kx_a j_v cyI 12 jv, kx_a j_n cyI 12 jn]) hP hD hS hA [true, true, true, true, true, true, true, true, true, true, true, true, true, true, false, false, false, false, false, false] rfl
        have hKc := hK
        refine va_callr (va_runV (As := []) (rest := [.ref m_]) ⟨hx, hb, hml, hown, hts⟩ (kx_un (c_X4_laidTree_x l dC dI m_ q_row q_t t_ h0 k0 w_ z_ slots old q_joined q_from q_to q_size q_lossOf q_lessBy q_value q_number nodes here q_cell cyI len f ff ft fs fo uv un fe j_v j_n js jl je jv jn s.heap.size a0 a1 s0 sl0 sl1 l0)) (cwV 0 hts gX4_bothAt_X4_laidTree rfl rfl rfl (by decide +kernel) ⟨Nat.le_of_ble_eq_true rfl, Nat.le_of_ble_eq_true rfl⟩) ⟨fun a U g mk q => by obtain ⟨q0, q1, qP, qK, qD⟩ := q; exact ⟨q0, q1, qP, va_K.moved (u := U) (U := U.calling g mk a) (Vm.Alike.refl U.vm) qK, qD⟩, kx_rc4 hKc hPc (q0 := 0) rfl, fun U hU hW => ⟨rfl, by rw [hU], by rw [hU]; exact hPc, va_K.moved hW.alike hKc, hDc.weaken (fun _ _ _ _ => trivial)⟩⟩ rfl rfl hl.1 rfl (lv_room (Nat.le_of_ble_eq_true rfl)) dX4_bothAt_26 ⟨Nat.le_of_ble_eq_true rfl, Nat.le_of_ble_eq_true rfl⟩) hS (fun q _ h => hFc q h) hFc (fun u ra t H1 locs ht hvm w_4 hB hz1 hk1 hS => ?_)
        obtain ⟨o_5, o_6, o_7, o_8, o_9, o_10, o_11, o_12, o_13, o_14, o_15, o_16, o_17, o_18, o_19⟩ := u
        dsimp only at w_4 hB
        obtain ⟨er, hP1, hK1, hD1⟩ := hB
        rw [ht] at hP1
        have hK1 := va_K.moved hvm.symm hK1
        obtain ⟨hP, hD⟩ := kx_joinM (w2 := [kx_4 m_ q_row q_t t_ h0 k0 w_ z_ slots o_5, kx_2 q_t q_row q_joined q_from q_to q_size q_lossOf q_lessBy q_value q_number o_6 o_7, kx_0 q_row q_cell len, kx_a q_cell cyI 160 f, kx_a q_from cyI 319 o_8, kx_a q_to cyI 319 o_9, kx_a q_size cyI 319 o_10, kx_a q_lossOf cyI 319 o_11, kx_a q_lessBy cyI 319 o_12, kx_a q_value cyI 1914 o_13, kx_a q_number cyI 1914 o_14, kx_3 q_joined j_v j_n o_15 o_16 o_17, kx_a j_v cyI 12 o_18, kx_a j_n cyI 12 o_19, kx_3 h0 a_v a_n vs lo le, kx_a a_v cyI 12 fv, kx_a a_n cyI 12 fn, kx_3 k0 kv kn sb lb eb, kx_a kv cyI 12 gb, kx_a kn cyI 12 nb]) hP hD hP1 hD1 hk1 hFc [true, true, true, true, true, true, true, true, true, true, true, true, true, true, false, false, false, false, false, false] hCc rfl
        clear hP1 hD1 hK1 hk1 hz1 hFc hDc hPc hKc hCc
        generalize H1 = H at hP hS ⊢
        have w_4 : o_5.toInt = 0 ∧ o_7 = slots ∧ sixes o_10 ∧ mj_C slots.toNatClampNeg f o_8 o_9 o_10 o_11 o_12 o_13 o_14 o_6.toInt len.toInt ∧ 0 ≤ o_6.toInt ∧ o_6.toInt ≤ 319 ∧ treeOk o_8 o_9 o_6.toInt len.toInt := w_4
        rw [er]
        refine lv_iload_n hx hb dX4_bothAt_29 rfl (lv_at hl 1 rfl) ?_
        refine lv_iload_n hx hb dX4_bothAt_30 rfl (lv_at hl 2 rfl) ?_
        refine lv_iload_n hx hb dX4_bothAt_31 rfl (lv_at hl 3 rfl) ?_
        refine lv_iload hx hb dX4_bothAt_32 (lv_at hl 4 rfl) ?_
        refine lv_iload hx hb dX4_bothAt_34 (lv_at hl 5 rfl) ?_
        refine lv_iload hx hb dX4_bothAt_36 (lv_at hl 6 rfl) ?_
        obtain ⟨hPc, hDc, hFc, hCc⟩ := kx_pre (wc := [kx_4 m_ q_row q_t t_ h0 k0 w_ z_ slots o_5, kx_0 q_row q_cell len, kx_a q_cell cyI 160 f, kx_2 q_t q_row q_joined q_from q_to q_size q_lossOf q_lessBy q_value q_number o_6 o_7, kx_a q_from cyI 319 o_8, kx_a q_to cyI 319 o_9, kx_a q_size cyI 319 o_10, kx_a q_lossOf cyI 319 o_11, kx_a q_lessBy cyI 319 o_12, kx_a q_value cyI 1914 o_13, kx_a q_number cyI 1914 o_14, kx_3 h0 a_v a_n vs lo le, kx_a a_v cyI 12 fv, kx_a a_n cyI 12 fn, kx_3 k0 kv kn sb lb eb, kx_a kv cyI 12 gb, kx_a kn cyI 12 nb]) hP hD hS hA [0, 2, 3, 1, 4, 5, 6, 7, 8, 9, 10, 14, 15, 16, 17, 18, 19] (by decide) rfl
        have hKc := hK
        refine va_callv (va_runV (As := [.ref q_t, .int p0, .int p1, .int p2, .int p3, .int p4, .int p5]) (rest := []) ⟨hx, hb, hml, hown, hts⟩ (c_X4_gatherHeavyOfBoth_x l dC dI m_ q_row q_t t_ h0 k0 w_ z_ slots o_5 q_joined q_from q_to q_size q_lossOf q_lessBy q_value q_number o_6 o_7 q_cell cyI len f o_8 o_9 o_10 o_11 o_13 o_14 a_v a_n cyI vs lo le fv fn o_12 kv kn sb lb eb gb nb p0 p1 p2 p3 p4 p5 H.size w_4.2.2.2.2.1 w_4.2.2.2.2.2.1 w_4.2.2.1 a1 (by rw [w_4.2.1]; omega) (by rw [w_4.2.1]; omega) w_4.2.2.2.2.2.2 s1 (by rw [w_4.2.1]; exact w_4.2.2.2.1) w_4.2.1 (om_10 w_2.1) (om_11 w_2.2.1) (om_9 w_2.2.2.1) (om_10 w_2.2.2.2.1) (om_11 w_2.2.2.2.2.1) (om_9 w_2.2.2.2.2.2.1) (om_567 a1 w_2.1 w_2.2.2.1 w_2.2.2.2.1 w_2.2.2.2.2.2.1) (om_151 w_2.2.2.2.2.2.2.1) (om_9 w_2.2.2.2.2.2.2.2.1) (om_152 w_2.2.2.2.2.2.2.2.2.1) (by rw [w_4.2.1]; omega)) (cwV 7 hts gX4_bothAt_X4_gatherHeavyOfBoth rfl rfl rfl (by decide +kernel) ⟨Nat.le_of_ble_eq_true rfl, Nat.le_of_ble_eq_true rfl⟩) ⟨fun a U g mk q => by obtain ⟨q0, q1, qP, qK, qD, qn0⟩ := q; exact ⟨q0, q1, qP, va_K.moved (u := U) (U := U.calling g mk a) (Vm.Alike.refl U.vm) qK, qD, va_Nw.same (u := U) (U := U.calling g mk a) rfl rfl qn0⟩, kx_rc4 hKc hPc (q0 := 0) rfl, fun U hU hW => ⟨rfl, by rw [hU], by rw [hU]; exact hPc, va_K.moved hW.alike hKc, hDc.weaken (fun _ _ _ _ => trivial), va_Nw.warmM hW hN0⟩⟩ rfl rfl hl.1 rfl (lv_room (Nat.le_of_ble_eq_true rfl)) dX4_bothAt_38 ⟨Nat.le_of_ble_eq_true rfl, Nat.le_of_ble_eq_true rfl⟩) hS (fun q _ h => hFc q h) hFc (fun u t H1 locs ht hvm w_20 hB hz1 hk1 hS => ?_)
        obtain ⟨o_21, o_22, o_23, o_24, o_25, o_26, o_27, o_28, o_29, o_30⟩ := u
        dsimp only at w_20 hB
        obtain ⟨hP1, hK1, hD1⟩ := hB
        rw [ht] at hP1
        have hK1 := va_K.moved hvm.symm hK1
        obtain ⟨hP, hD⟩ := kx_join (w2 := [kx_3 q_joined j_v j_n o_15 o_16 o_17, kx_a j_v cyI 12 o_18, kx_a j_n cyI 12 o_19, kx_4 m_ q_row q_t t_ h0 k0 w_ z_ slots o_5, kx_0 q_row q_cell len, kx_a q_cell cyI 160 f, kx_2 q_t q_row q_joined q_from q_to q_size q_lossOf q_lessBy q_value q_number o_6 o_7, kx_a q_from cyI 319 o_8, kx_a q_to cyI 319 o_9, kx_a q_size cyI 319 o_10, kx_a q_lossOf cyI 319 o_11, kx_a q_lessBy cyI 319 o_12, kx_a q_value cyI 1914 o_13, kx_a q_number cyI 1914 o_14, kx_3 h0 a_v a_n o_21 o_22 o_23, kx_a a_v cyI 12 o_24, kx_a a_n cyI 12 o_25, kx_3 k0 kv kn o_26 o_27 o_28, kx_a kv cyI 12 o_29, kx_a kn cyI 12 o_30]) hP hD hP1 hD1 hk1 hFc [0, 2, 3, 1, 4, 5, 6, 7, 8, 9, 10, 14, 15, 16, 17, 18, 19] [11, 12, 13] hCc rfl (by decide) (by decide)
        clear hP1 hD1 hK1 hk1 hz1 hFc hDc hPc hKc hCc
        generalize H1 = H at hP hS ⊢
        have w_20 : mj_vs o_24 o_25 0 o_21.toNatClampNeg (mj_hvm p4.toInt p5.toInt (p1.toInt - p0.toInt + p3.toInt - p2.toInt) (fun v => (cnt f v p0.toNatClampNeg (p1.toInt - p0.toInt).toNat : Int) + (cnt f v p2.toNatClampNeg ((p3.toInt : Int) - p2.toInt).toNat : Int))) ∧ mj_srt o_24 o_25 0 o_21.toNatClampNeg ∧ 0 ≤ o_21.toInt ∧ o_21.toInt ≤ 6 := w_20
        refine lv_iload hx hb dX4_bothAt_41 (lv_at hl 7 rfl) ?_
        refine lv_aload_n hx hb dX4_bothAt_43 rfl (lv_at hl 0 rfl) ?_
        refine va_get (D := (dC, dI)) (ci := 4) (v := .ref h0) (C := RX4) (T := TX4) (N := 9) hx hb hts hi_4 hown hK hP 3 rfl rfl 3 (by decide) hf_35 (fun _ h9 => h9) rfl dX4_bothAt_44 ?_
        refine va_get (D := (dC, dI)) (ci := 3) (v := .int o_21) (C := RX3) (T := TX3) (N := 5) hx hb hts hi_3 hown hK hP 14 rfl rfl 2 (by decide) hf_174 (fun _ h9 => h9) rfl dX4_bothAt_47 ?_
        refine lv_icmp_ge (tgt := 66) hx hb dX4_bothAt_50 (by decide) (fun c_31 => ?_) (fun c_31 => ?_)
        · have i_31 : o_21.toInt ≤ p6.toInt := kc_le c_31
          refine lv_ldc (v := (-40000)) hx hb hown hk_102 dX4_bothAt_66 ?_
          obtain ⟨hP9, hD9⟩ := kx_sub (w2 := [kx_4 m_ q_row q_t t_ h0 k0 w_ z_ slots o_5, kx_2 q_t q_row q_joined q_from q_to q_size q_lossOf q_lessBy q_value q_number o_6 o_7, kx_0 q_row q_cell len, kx_a q_cell cyI 160 f, kx_a q_from cyI 319 o_8, kx_a q_to cyI 319 o_9, kx_a q_size cyI 319 o_10, kx_a q_lossOf cyI 319 o_11, kx_a q_lessBy cyI 319 o_12, kx_a q_value cyI 1914 o_13, kx_a q_number cyI 1914 o_14, kx_3 q_joined j_v j_n o_15 o_16 o_17, kx_a j_v cyI 12 o_18, kx_a j_n cyI 12 o_19, kx_3 h0 a_v a_n o_21 o_22 o_23, kx_a a_v cyI 12 o_24, kx_a a_n cyI 12 o_25, kx_3 k0 kv kn o_26 o_27 o_28, kx_a kv cyI 12 o_29, kx_a kn cyI 12 o_30]) hP hD [3, 6, 4, 5, 7, 8, 9, 10, 11, 12, 13, 0, 1, 2, 14, 15, 16, 17, 18, 19] (by decide) rfl
          have hK9 := hK
          exact W.iret (v := (-40000)) hx hb hr (hlocks := hlocks) (fun t ht hW => ⟨⟨(-40000), (o_5, o_6, o_7, o_8, o_9, o_10, o_11, o_12, o_13, o_14, o_15, o_16, o_17, o_18, o_19, o_21, o_22, o_23, o_24, o_25, o_26, o_27, o_28, o_29, o_30), rfl, ⟨Or.inl ⟨(by (try dsimp only); omega), w_4.1, w_20.1, w_20.2.1, (by (try dsimp only); omega), Or.inr ⟨(by (try dsimp only); omega), rfl⟩⟩, (fun _ => ⟨w_4.2.1, w_4.2.2.2.1⟩), w_4.2.2.1⟩, by rw [ht]; exact hP9, va_K.moved hW.alike hK9, hD9⟩, hS.F ht⟩) hS.2.2 dX4_bothAt_68
        · have i_31 : p6.toInt < o_21.toInt := kc_nle c_31
          refine lv_aload_n hx hb dX4_bothAt_53 rfl (lv_at hl 0 rfl) ?_
          refine va_get (D := (dC, dI)) (ci := 4) (v := .ref h0) (C := RX4) (T := TX4) (N := 9) hx hb hts hi_4 hown hK hP 3 rfl rfl 3 (by decide) hf_35 (fun _ h9 => h9) rfl dX4_bothAt_54 ?_
          refine va_get (D := (dC, dI)) (ci := 3) (v := .ref a_v) (C := RX3) (T := TX3) (N := 5) hx hb hts hi_3 hown hK hP 14 rfl rfl 0 (by decide) hf_133 (fun _ h9 => h9) rfl dX4_bothAt_57 ?_
          refine lv_iload hx hb dX4_bothAt_60 (lv_at hl 7 rfl) ?_
          refine va_iald hx hb hK hP 15 0 rfl rfl (ki_in (om_10 i_1) (om_558 w_20.2.2.2 i_31)) dX4_bothAt_62 ?_
          refine lv_topi (fun y_32 ey_32 => ?_)
          have j_32 : y_32.toInt = (o_24 p6.toNatClampNeg).toInt := congrArg Int32.toInt ey_32
          refine lv_goto (tgt := 68) hx hb dX4_bothAt_63 (by decide) ?_
          obtain ⟨hP9, hD9⟩ := kx_sub (w2 := [kx_4 m_ q_row q_t t_ h0 k0 w_ z_ slots o_5, kx_2 q_t q_row q_joined q_from q_to q_size q_lossOf q_lessBy q_value q_number o_6 o_7, kx_0 q_row q_cell len, kx_a q_cell cyI 160 f, kx_a q_from cyI 319 o_8, kx_a q_to cyI 319 o_9, kx_a q_size cyI 319 o_10, kx_a q_lossOf cyI 319 o_11, kx_a q_lessBy cyI 319 o_12, kx_a q_value cyI 1914 o_13, kx_a q_number cyI 1914 o_14, kx_3 q_joined j_v j_n o_15 o_16 o_17, kx_a j_v cyI 12 o_18, kx_a j_n cyI 12 o_19, kx_3 h0 a_v a_n o_21 o_22 o_23, kx_a a_v cyI 12 o_24, kx_a a_n cyI 12 o_25, kx_3 k0 kv kn o_26 o_27 o_28, kx_a kv cyI 12 o_29, kx_a kn cyI 12 o_30]) hP hD [3, 6, 4, 5, 7, 8, 9, 10, 11, 12, 13, 0, 1, 2, 14, 15, 16, 17, 18, 19] (by decide) rfl
          have hK9 := hK
          exact W.iret (v := y_32) hx hb hr (hlocks := hlocks) (fun t ht hW => ⟨⟨y_32, (o_5, o_6, o_7, o_8, o_9, o_10, o_11, o_12, o_13, o_14, o_15, o_16, o_17, o_18, o_19, o_21, o_22, o_23, o_24, o_25, o_26, o_27, o_28, o_29, o_30), rfl, ⟨Or.inl ⟨(by (try dsimp only); omega), w_4.1, w_20.1, w_20.2.1, (by (try dsimp only); omega), Or.inl ⟨(by (try dsimp only); omega), ey_32⟩⟩, (fun _ => ⟨w_4.2.1, w_4.2.2.2.1⟩), w_4.2.2.1⟩, by rw [ht]; exact hP9, va_K.moved hW.alike hK9, hD9⟩, hS.F ht⟩) hS.2.2 dX4_bothAt_68
      · exact absurd c_3 (by decide)
    · have w_2 : ((p0.toInt < 0 ∨ p1.toInt ≤ p0.toInt ∨ len.toInt < p1.toInt) ∨ (p2.toInt < 0 ∨ p3.toInt ≤ p2.toInt ∨ len.toInt < p3.toInt) ∨ p4.toInt < 1 ∨ p5.toInt < p4.toInt ∨ 999 < p5.toInt) := w_2
      refine lv_if_eq (tgt := 24) hx hb dX4_bothAt_18 (by decide) (fun c_33 => ?_) (fun c_33 => ?_)
      · exact absurd c_33 (by decide)
      · refine lv_ldc (v := (-40000)) hx hb hown hk_102 dX4_bothAt_21 ?_
        have hP9 := hP
        have hD9 := hD
        have hK9 := hK
        exact W.iret (v := (-40000)) hx hb hr (hlocks := hlocks) (fun t ht hW => ⟨⟨(-40000), (old, nodes, here, ff, ft, fs, fo, fe, uv, un, js, jl, je, jv, jn, vs, lo, le, fv, fn, sb, lb, eb, gb, nb), rfl, ⟨Or.inr ⟨(by (try dsimp only); omega), rfl⟩, l0, s0⟩, by rw [ht]; exact hP9, va_K.moved hW.alike hK9, hD9⟩, hS.F ht⟩) hS.2.2 dX4_bothAt_23
    · have w_2 : (0 ≤ p0.toInt ∧ p0.toInt < p1.toInt ∧ p1.toInt ≤ len.toInt ∧ 0 ≤ p2.toInt ∧ p2.toInt < p3.toInt ∧ p3.toInt ≤ len.toInt ∧ 1 ≤ p4.toInt ∧ p4.toInt ≤ p5.toInt ∧ p5.toInt ≤ 999 ∧ p4.toInt * (slots.toInt + 1) < p5.toInt) := w_2
      refine lv_if_eq (tgt := 24) hx hb dX4_bothAt_18 (by decide) (fun c_34 => ?_) (fun c_34 => ?_)
      · exact absurd c_34 (by decide)
      · refine lv_ldc (v := (-40000)) hx hb hown hk_102 dX4_bothAt_21 ?_
        have hP9 := hP
        have hD9 := hD
        have hK9 := hK
        exact W.iret (v := (-40000)) hx hb hr (hlocks := hlocks) (fun t ht hW => ⟨⟨(-40000), (old, nodes, here, ff, ft, fs, fo, fe, uv, un, js, jl, je, jv, jn, vs, lo, le, fv, fn, sb, lb, eb, gb, nb), rfl, ⟨Or.inr ⟨(by (try dsimp only); omega), rfl⟩, l0, s0⟩, by rw [ht]; exact hP9, va_K.moved hW.alike hK9, hD9⟩, hS.F ht⟩) hS.2.2 dX4_bothAt_23
    · have w_2 : (0 ≤ p0.toInt ∧ p0.toInt < p1.toInt ∧ p1.toInt ≤ len.toInt ∧ 0 ≤ p2.toInt ∧ p2.toInt < p3.toInt ∧ p3.toInt ≤ len.toInt ∧ 1 ≤ p4.toInt ∧ p4.toInt ≤ p5.toInt ∧ p5.toInt ≤ 999 ∧ p5.toInt ≤ p4.toInt * (slots.toInt + 1) ∧ p0.toInt < p3.toInt ∧ p2.toInt < p1.toInt) := w_2
      refine lv_if_eq (tgt := 24) hx hb dX4_bothAt_18 (by decide) (fun c_35 => ?_) (fun c_35 => ?_)
      · exact absurd c_35 (by decide)
      · refine lv_ldc (v := (-40000)) hx hb hown hk_102 dX4_bothAt_21 ?_
        have hP9 := hP
        have hD9 := hD
        have hK9 := hK
        exact W.iret (v := (-40000)) hx hb hr (hlocks := hlocks) (fun t ht hW => ⟨⟨(-40000), (old, nodes, here, ff, ft, fs, fo, fe, uv, un, js, jl, je, jv, jn, vs, lo, le, fv, fn, sb, lb, eb, gb, nb), rfl, ⟨Or.inr ⟨(by (try dsimp only); omega), rfl⟩, l0, s0⟩, by rw [ht]; exact hP9, va_K.moved hW.alike hK9, hD9⟩, hS.F ht⟩) hS.2.2 dX4_bothAt_23


