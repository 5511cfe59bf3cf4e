set_option maxHeartbeats 4000000 in
set_option maxRecDepth 100000 in
theorem c_X5_laysNumbers (l : Launch) (dC : Nat → ClassId) (dI : Nat → Nat → Nat) (h0 : Nat) (g_row : Nat) (g_many : Nat) (g_loss : Nat) (g_less : Nat) (g_voteValue : Nat) (g_voteNumber : Nat) (g_allValue : Nat) (g_allNumber : Nat) (g_nodeL : Nat) (g_nodeR : Nat) (g_part : Nat) (g_wasMany : Nat) (g_wasLoss : Nat) (g_wasValue : Nat) (g_wasNumber : Nat) (g_path : Nat) (g_heavyValue : Nat) (g_heavyTimes : Nat) (g_fewest : Nat) (g_which : Nat) (g_met : Nat) (m_n : Int32) (m_slots : Int32) (m_thrown : Int32) (m_allMany : Int32) (m_nodes : Int32) (m_partMany : Int32) (m_pathMany : Int32) (m_heavyMany : Int32) (m_mostMet : Int32) (cyI : ClassId) (f : Nat → Int32) (fw : Nat → Int32) (sz : Nat) (a0 : 0 ≤ m_n.toInt) (a1 : m_n.toInt ≤ 160) : Met l yX5_laysNumbers wsX5_laysNumbers ({ frames := 0, cells := 0, slots := 0, locals := 0 }) (va_Pc [.ref h0] (fun U => U.heap.size = sz ∧ va_P (dC, dI) vwCl [kx_5 h0 g_row m_n m_slots m_thrown g_many g_loss g_less g_voteValue g_voteNumber g_allValue g_allNumber m_allMany g_nodeL g_nodeR m_nodes g_part m_partMany g_wasMany g_wasLoss g_wasValue g_wasNumber g_path m_pathMany g_heavyValue g_heavyTimes m_heavyMany g_fewest g_which g_met m_mostMet, kx_a g_row cyI 160 f, kx_a g_which cyI 160 fw] U.heap ∧ va_K (dC, dI) vwCl [(cyI, .int)] U ∧ va_D (fun _ => True) [kx_5 h0 g_row m_n m_slots m_thrown g_many g_loss g_less g_voteValue g_voteNumber g_allValue g_allNumber m_allMany g_nodeL g_nodeR m_nodes g_part m_partMany g_wasMany g_wasLoss g_wasValue g_wasNumber g_path m_pathMany g_heavyValue g_heavyTimes m_heavyMany g_fewest g_which g_met m_mostMet, kx_a g_row cyI 160 f, kx_a g_which cyI 160 fw])) (va_Qv (fun u : (Nat → Int32) => kindOk u m_n.toInt) (fun (u : (Nat → Int32)) (t : State) => va_P (dC, dI) vwCl [kx_5 h0 g_row m_n m_slots m_thrown g_many g_loss g_less g_voteValue g_voteNumber g_allValue g_allNumber m_allMany g_nodeL g_nodeR m_nodes g_part m_partMany g_wasMany g_wasLoss g_wasValue g_wasNumber g_path m_pathMany g_heavyValue g_heavyTimes m_heavyMany g_fewest g_which g_met m_mostMet, kx_a g_row cyI 160 f, kx_a g_which cyI 160 u] t.heap ∧ va_K (dC, dI) vwCl [(cyI, .int)] t ∧ va_D (va_A [kx_5 h0 g_row m_n m_slots m_thrown g_many g_loss g_less g_voteValue g_voteNumber g_allValue g_allNumber m_allMany g_nodeL g_nodeR m_nodes g_part m_partMany g_wasMany g_wasLoss g_wasValue g_wasNumber g_path m_pathMany g_heavyValue g_heavyTimes m_heavyMany g_fewest g_which g_met m_mostMet, kx_a g_row cyI 160 f, kx_a g_which cyI 160 fw] sz) [kx_5 h0 g_row m_n m_slots m_thrown g_many g_loss g_less g_voteValue g_voteNumber g_allValue g_allNumber m_allMany g_nodeL g_nodeR m_nodes g_part m_partMany g_wasMany g_wasLoss g_wasValue g_wasNumber g_path m_pathMany g_heavyValue g_heavyTimes m_heavyMany g_fewest g_which g_met m_mostMet, kx_a g_row cyI 160 f, kx_a g_which cyI 160 u]) (va_A [kx_5 h0 g_row m_n m_slots m_thrown g_many g_loss g_less g_voteValue g_voteNumber g_allValue g_allNumber m_allMany g_nodeL g_nodeR m_nodes g_part m_partMany g_wasMany g_wasLoss g_wasValue g_wasNumber g_path m_pathMany g_heavyValue g_heavyTimes m_heavyMany g_fewest g_which g_met m_mostMet, kx_a g_row cyI 160 f, kx_a g_which cyI 160 fw] sz)) 0 0 (va_A [kx_5 h0 g_row m_n m_slots m_thrown g_many g_loss g_less g_voteValue g_voteNumber g_allValue g_allNumber m_allMany g_nodeL g_nodeR m_nodes g_part m_partMany g_wasMany g_wasLoss g_wasValue g_wasNumber g_path m_pathMany g_heavyValue g_heavyTimes m_heavyMany g_fewest g_which g_met m_mostMet, kx_a g_row cyI 160 f, kx_a g_which cyI 160 fw] sz) := by
  refine Met.ofW (cc := cX5_laysNumbers) (maxL := 5) (ret := none) (by decide) rfl ?_
  intro p e s m args below meth c s₁ B hml hv
  obtain ⟨rfl, hsz, hP, hK, hD0⟩ := hv
  have hx := B.exec
  have hb := B.bytes
  have hr := B.returns
  have hts := atoms_spec (ws := wsX5_laysNumbers) B.pre
  have hown : s.vm.findClass RX5 = some m.cls := findClass_of_methodNamed B.named
  have hlocks := B.notSynchronized
  subst hsz
  have hD := hD0.self (sz := s.heap.size)
  generalize hAe : va_A [kx_5 h0 g_row m_n m_slots m_thrown g_many g_loss g_less g_voteValue g_voteNumber g_allValue g_allNumber m_allMany g_nodeL g_nodeR m_nodes g_part m_partMany g_wasMany g_wasLoss g_wasValue g_wasNumber g_path m_pathMany g_heavyValue g_heavyTimes m_heavyMany g_fewest g_which g_met m_mostMet, kx_a g_row cyI 160 f, kx_a g_which cyI 160 fw] s.heap.size = A at hD ⊢
  have hA : ∀ q : Nat, s.heap.size ≤ q → A q := fun q h => by rw [← hAe]; exact Or.inr h
  have hS : va_S A s.heap s.heap [] := va_S.rf
  have hP : va_P (dC, dI) vwCl [kx_5 h0 g_row m_n m_slots m_thrown g_many g_loss g_less g_voteValue g_voteNumber g_allValue g_allNumber m_allMany g_nodeL g_nodeR m_nodes g_part m_partMany g_wasMany g_wasLoss g_wasValue g_wasNumber g_path m_pathMany g_heavyValue g_heavyTimes m_heavyMany g_fewest g_which g_met m_mostMet, kx_a g_row cyI 160 f, kx_a g_which cyI 160 fw] s.heap := hP
  have hl := lv_entry ([.ref h0]) (n := 5) (Nat.le_of_ble_eq_true rfl)
  rw [lg_entry_eq]
  generalize (lg_sl ([.ref h0]) ++ List.replicate (5 - (lg_sl ([.ref h0])).length) Slot.unset).toArray = ls at hl ⊢
  have hl : lv_has ls 5 [(0, .ref h0)] := hl
  have hf_84 := hts (.fieldLink RX5 84 "MajorityIndexModel" "n" "I") (List.mem_of_getElem? (i := 1) rfl)
  have hi_5 : ∀ w ∈ u_ws RX5 TX5 30, w ∈ wsX5_laysNumbers := fun w h => List.mem_cons_of_mem _ (List.mem_append_right _ h)
  have hf_71 := hts (.fieldLink RX5 71 "MajorityIndexModel" "which" "[I") (List.mem_of_getElem? (i := 3) rfl)
  have hf_7 := hts (.fieldLink RX5 7 "MajorityIndexModel" "row" "[I") (List.mem_of_getElem? (i := 2) rfl)
  refine lv_iconst (v := 0) hx hb dX5_laysNumbers_0 (by decide) ?_
  refine lv_istore_n (lv' := [(1, .int 0), (0, .ref h0)]) hx hb dX5_laysNumbers_1 rfl hl (by decide) rfl (fun ls hl => ?_)
  refine lv_iconst (v := 0) hx hb dX5_laysNumbers_2 (by decide) ?_
  refine lv_istore_n (lv' := [(2, .int 0), (1, .int 0), (0, .ref h0)]) hx hb dX5_laysNumbers_3 rfl hl (by decide) rfl (fun ls hl => ?_)
  have LP1 : ∀ (n : Nat) (i : Int32) (nx : Int32) (gw : Nat → Int32), (0 ≤ i.toInt) → (0 ≤ nx.toInt) → (nx.toInt ≤ i.toInt) → (kindOk gw i.toInt) → (m_n.toInt - i.toInt).toNat < n → ∀ (H : Heap) (locs : List Loc), va_P (dC, dI) vwCl [kx_5 h0 g_row m_n m_slots m_thrown g_many g_loss g_less g_voteValue g_voteNumber g_allValue g_allNumber m_allMany g_nodeL g_nodeR m_nodes g_part m_partMany g_wasMany g_wasLoss g_wasValue g_wasNumber g_path m_pathMany g_heavyValue g_heavyTimes m_heavyMany g_fewest g_which g_met m_mostMet, kx_a g_row cyI 160 f, kx_a g_which cyI 160 gw] H → va_D A [kx_5 h0 g_row m_n m_slots m_thrown g_many g_loss g_less g_voteValue g_voteNumber g_allValue g_allNumber m_allMany g_nodeL g_nodeR m_nodes g_part m_partMany g_wasMany g_wasLoss g_wasValue g_wasNumber g_path m_pathMany g_heavyValue g_heavyTimes m_heavyMany g_fewest g_which g_met m_mostMet, kx_a g_row cyI 160 f, kx_a g_which cyI 160 gw] → va_S A s.heap H locs → ∀ (ls : Array Slot), lv_has ls 5 [(2, .int i), (1, .int nx), (0, .ref h0)] → W p l e (headSpec wsX5_laysNumbers ({ frames := 0, cells := 0, slots := 0, locals := 0 })).room s m ([.ref h0] : List Value).toArray below meth c H locs 0 0 (MQ below (va_Qv (fun u : (Nat → Int32) => kindOk u m_n.toInt) (fun (u : (Nat → Int32)) (t : State) => va_P (dC, dI) vwCl [kx_5 h0 g_row m_n m_slots m_thrown g_many g_loss g_less g_voteValue g_voteNumber g_allValue g_allNumber m_allMany g_nodeL g_nodeR m_nodes g_part m_partMany g_wasMany g_wasLoss g_wasValue g_wasNumber g_path m_pathMany g_heavyValue g_heavyTimes m_heavyMany g_fewest g_which g_met m_mostMet, kx_a g_row cyI 160 f, kx_a g_which cyI 160 u] t.heap ∧ va_K (dC, dI) vwCl [(cyI, .int)] t ∧ va_D A [kx_5 h0 g_row m_n m_slots m_thrown g_many g_loss g_less g_voteValue g_voteNumber g_allValue g_allNumber m_allMany g_nodeL g_nodeR m_nodes g_part m_partMany g_wasMany g_wasLoss g_wasValue g_wasNumber g_path m_pathMany g_heavyValue g_heavyTimes m_heavyMany g_fewest g_which g_met m_mostMet, kx_a g_row cyI 160 f, kx_a g_which cyI 160 u]) A) ([.ref h0] : List Value).toArray s 0 0 A) (F0 m 4 ls []) := by
    intro n
    induction n with
    | zero => intro i nx gw LP1_h0 LP1_h1 LP1_h2 LP1_h3 hn; exact absurd hn (Nat.not_lt_zero _)
    | succ n ih1 =>
      intro i nx gw LP1_h0 LP1_h1 LP1_h2 LP1_h3 hn1 H locs hP hD hS ls hl
      refine lv_iload_n hx hb dX5_laysNumbers_4 rfl (lv_at hl 0 rfl) ?_
      refine lv_aload_n hx hb dX5_laysNumbers_5 rfl (lv_at hl 2 rfl) ?_
      refine va_get (D := (dC, dI)) (ci := 5) (v := .int m_n) (C := RX5) (T := TX5) (N := 30) hx hb hts hi_5 hown hK hP 0 rfl rfl 1 (by decide) hf_84 (fun _ h9 => h9) rfl dX5_laysNumbers_6 ?_
      refine lv_icmp_ge (tgt := 85) hx hb dX5_laysNumbers_9 (by decide) (fun c_1 => ?_) (fun c_1 => ?_)
      · have i_1 : m_n.toInt ≤ i.toInt := kc_le c_1
        have hP9 := hP
        have hD9 := hD
        have hK9 := hK
        exact W.vret hx hb hr (fun t ht hW => ⟨⟨(gw), rfl, (fun k hk => LP1_h3 k (by (try dsimp only); omega)), by rw [ht]; exact hP9, va_K.moved hW.alike hK9, hD9⟩, hS.F ht⟩) hS.2.2 dX5_laysNumbers_85
      · have i_1 : i.toInt < m_n.toInt := kc_nle c_1
        refine lv_iconst (v := (-1)) hx hb dX5_laysNumbers_12 (by decide) ?_
        refine lv_istore_n (lv' := [(3, .int (-1)), (2, .int i), (1, .int nx), (0, .ref h0)]) hx hb dX5_laysNumbers_13 rfl hl (by decide) rfl (fun ls hl => ?_)
        refine lv_iconst (v := 0) hx hb dX5_laysNumbers_14 (by decide) ?_
        refine lv_istore (lv' := [(4, .int 0), (3, .int (-1)), (2, .int i), (1, .int nx), (0, .ref h0)]) hx hb dX5_laysNumbers_15 hl (by decide) rfl (fun ls hl => ?_)
        have LP2 : ∀ (n : Nat) (j : Int32) (lk : Int32), (0 ≤ j.toInt) → (lk.toInt = -1 ∨ (0 ≤ lk.toInt ∧ lk.toInt ≤ i.toInt)) → (i.toInt - j.toInt).toNat < n → ∀ (H : Heap) (locs : List Loc), va_P (dC, dI) vwCl [kx_5 h0 g_row m_n m_slots m_thrown g_many g_loss g_less g_voteValue g_voteNumber g_allValue g_allNumber m_allMany g_nodeL g_nodeR m_nodes g_part m_partMany g_wasMany g_wasLoss g_wasValue g_wasNumber g_path m_pathMany g_heavyValue g_heavyTimes m_heavyMany g_fewest g_which g_met m_mostMet, kx_a g_row cyI 160 f, kx_a g_which cyI 160 gw] H → va_D A [kx_5 h0 g_row m_n m_slots m_thrown g_many g_loss g_less g_voteValue g_voteNumber g_allValue g_allNumber m_allMany g_nodeL g_nodeR m_nodes g_part m_partMany g_wasMany g_wasLoss g_wasValue g_wasNumber g_path m_pathMany g_heavyValue g_heavyTimes m_heavyMany g_fewest g_which g_met m_mostMet, kx_a g_row cyI 160 f, kx_a g_which cyI 160 gw] → va_S A s.heap H locs → ∀ (ls : Array Slot), lv_has ls 5 [(4, .int j), (3, .int lk), (2, .int i), (1, .int nx), (0, .ref h0)] → W p l e (headSpec wsX5_laysNumbers ({ frames := 0, cells := 0, slots := 0, locals := 0 })).room s m ([.ref h0] : List Value).toArray below meth c H locs 0 0 (MQ below (va_Qv (fun u : (Nat → Int32) => kindOk u m_n.toInt) (fun (u : (Nat → Int32)) (t : State) => va_P (dC, dI) vwCl [kx_5 h0 g_row m_n m_slots m_thrown g_many g_loss g_less g_voteValue g_voteNumber g_allValue g_allNumber m_allMany g_nodeL g_nodeR m_nodes g_part m_partMany g_wasMany g_wasLoss g_wasValue g_wasNumber g_path m_pathMany g_heavyValue g_heavyTimes m_heavyMany g_fewest g_which g_met m_mostMet, kx_a g_row cyI 160 f, kx_a g_which cyI 160 u] t.heap ∧ va_K (dC, dI) vwCl [(cyI, .int)] t ∧ va_D A [kx_5 h0 g_row m_n m_slots m_thrown g_many g_loss g_less g_voteValue g_voteNumber g_allValue g_allNumber m_allMany g_nodeL g_nodeR m_nodes g_part m_partMany g_wasMany g_wasLoss g_wasValue g_wasNumber g_path m_pathMany g_heavyValue g_heavyTimes m_heavyMany g_fewest g_which g_met m_mostMet, kx_a g_row cyI 160 f, kx_a g_which cyI 160 u]) A) ([.ref h0] : List Value).toArray s 0 0 A) (F0 m 17 ls []) := by
          intro n
          induction n with
          | zero => intro j lk LP2_h0 LP2_h1 hn; exact absurd hn (Nat.not_lt_zero _)
          | succ n ih2 =>
            intro j lk LP2_h0 LP2_h1 hn2 H locs hP hD hS ls hl
            refine lv_iload hx hb dX5_laysNumbers_17 (lv_at hl 0 rfl) ?_
            refine lv_iload_n hx hb dX5_laysNumbers_19 rfl (lv_at hl 2 rfl) ?_
            refine lv_icmp_ge (tgt := 57) hx hb dX5_laysNumbers_20 (by decide) (fun c_2 => ?_) (fun c_2 => ?_)
            · have i_2 : i.toInt ≤ j.toInt := kc_le c_2
              refine lv_aload_n hx hb dX5_laysNumbers_57 rfl (lv_at hl 4 rfl) ?_
              refine va_get (D := (dC, dI)) (ci := 5) (v := .ref g_which) (C := RX5) (T := TX5) (N := 30) hx hb hts hi_5 hown hK hP 0 rfl rfl 27 (by decide) hf_71 (fun _ h9 => h9) rfl dX5_laysNumbers_58 ?_
              refine lv_iload_n hx hb dX5_laysNumbers_61 rfl (lv_at hl 2 rfl) ?_
              refine lv_iload_n hx hb dX5_laysNumbers_62 rfl (lv_at hl 1 rfl) ?_
              refine lv_if_ge (tgt := 70) hx hb dX5_laysNumbers_63 (by decide) (fun c_3 => ?_) (fun c_3 => ?_)
              · have i_3 : 0 ≤ lk.toInt := kc_le c_3
                refine lv_iload_n hx hb dX5_laysNumbers_70 rfl (lv_at hl 1 rfl) ?_
                refine va_iast hx hb hK hP hD hS 2 0 rfl rfl (ki_in (om_8 LP1_h0) (om_1 a1 i_1)) dX5_laysNumbers_71 (fun H locs hP hD hS => ?_)
                have hP : va_P (dC, dI) vwCl [kx_5 h0 g_row m_n m_slots m_thrown g_many g_loss g_less g_voteValue g_voteNumber g_allValue g_allNumber m_allMany g_nodeL g_nodeR m_nodes g_part m_partMany g_wasMany g_wasLoss g_wasValue g_wasNumber g_path m_pathMany g_heavyValue g_heavyTimes m_heavyMany g_fewest g_which g_met m_mostMet, kx_a g_row cyI 160 f, kx_a g_which cyI 160 (upd gw i.toNatClampNeg lk)] H := hP
                have hD : va_D A [kx_5 h0 g_row m_n m_slots m_thrown g_many g_loss g_less g_voteValue g_voteNumber g_allValue g_allNumber m_allMany g_nodeL g_nodeR m_nodes g_part m_partMany g_wasMany g_wasLoss g_wasValue g_wasNumber g_path m_pathMany g_heavyValue g_heavyTimes m_heavyMany g_fewest g_which g_met m_mostMet, kx_a g_row cyI 160 f, kx_a g_which cyI 160 (upd gw i.toNatClampNeg lk)] := hD
                refine lv_iload_n hx hb dX5_laysNumbers_72 rfl (lv_at hl 1 rfl) ?_
                refine lv_if_ge (tgt := 79) hx hb dX5_laysNumbers_73 (by decide) (fun c_4 => ?_) (fun c_4 => ?_)
                · have i_4 : 0 ≤ lk.toInt := kc_le c_4
                  obtain ⟨x_5, ex_5⟩ : ∃ y : Int32, y = i + 1 := ⟨_, rfl⟩
                  have i_5 : x_5.toInt = i.toInt + 1 := ki_add ex_5 rfl rfl (om_10 LP1_h0) (om_3 a1 i_1)
                  refine lv_iinc (v := x_5) (lv' := [(2, .int x_5), (4, .int j), (3, .int lk), (1, .int nx), (0, .ref h0)]) hx hb dX5_laysNumbers_79 hl (k := 2) rfl (by rw [ex_5]; rfl) (by decide) rfl (fun ls hl => ?_)
                  refine lv_goto (tgt := 4) hx hb dX5_laysNumbers_82 (by decide) ?_
                  have n_i := ki_nat i rfl (by omega)
                  exact ih1 x_5 nx (upd gw i.toNatClampNeg lk) (om_31 LP1_h0 i_5) (om_8 LP1_h1) (om_4 LP1_h2 i_5) (kindOk_upd LP1_h3 (by omega) (by omega) (by omega) (by omega)) (om_mu hn1 (om_5 i_5) (om_6 i_1)) _ _ hP hD hS ls (lv_sub hl [0, 3, 4] rfl)
                · have i_4 : lk.toInt < 0 := kc_nle c_4
                  exfalso; omega
              · have i_3 : lk.toInt < 0 := kc_nle c_3
                refine lv_iload_n hx hb dX5_laysNumbers_66 rfl (lv_at hl 3 rfl) ?_
                refine lv_goto (tgt := 71) hx hb dX5_laysNumbers_67 (by decide) ?_
                refine va_iast hx hb hK hP hD hS 2 0 rfl rfl (ki_in (om_8 LP1_h0) (om_1 a1 i_1)) dX5_laysNumbers_71 (fun H locs hP hD hS => ?_)
                have hP : va_P (dC, dI) vwCl [kx_5 h0 g_row m_n m_slots m_thrown g_many g_loss g_less g_voteValue g_voteNumber g_allValue g_allNumber m_allMany g_nodeL g_nodeR m_nodes g_part m_partMany g_wasMany g_wasLoss g_wasValue g_wasNumber g_path m_pathMany g_heavyValue g_heavyTimes m_heavyMany g_fewest g_which g_met m_mostMet, kx_a g_row cyI 160 f, kx_a g_which cyI 160 (upd gw i.toNatClampNeg nx)] H := hP
                have hD : va_D A [kx_5 h0 g_row m_n m_slots m_thrown g_many g_loss g_less g_voteValue g_voteNumber g_allValue g_allNumber m_allMany g_nodeL g_nodeR m_nodes g_part m_partMany g_wasMany g_wasLoss g_wasValue g_wasNumber g_path m_pathMany g_heavyValue g_heavyTimes m_heavyMany g_fewest g_which g_met m_mostMet, kx_a g_row cyI 160 f, kx_a g_which cyI 160 (upd gw i.toNatClampNeg nx)] := hD
                refine lv_iload_n hx hb dX5_laysNumbers_72 rfl (lv_at hl 1 rfl) ?_
                refine lv_if_ge (tgt := 79) hx hb dX5_laysNumbers_73 (by decide) (fun c_6 => ?_) (fun c_6 => ?_)
                · have i_6 : 0 ≤ lk.toInt := kc_le c_6
                  exfalso; omega
                · have i_6 : lk.toInt < 0 := kc_nle c_6
                  obtain ⟨x_7, ex_7⟩ : ∃ y : Int32, y = nx + 1 := ⟨_, rfl⟩
                  have i_7 : x_7.toInt = nx.toInt + 1 := ki_add ex_7 rfl rfl (om_10 LP1_h1) (om_177 a1 LP1_h2 i_1)
                  refine lv_iinc (v := x_7) (lv' := [(1, .int x_7), (4, .int j), (3, .int lk), (2, .int i), (0, .ref h0)]) hx hb dX5_laysNumbers_76 hl (k := 3) rfl (by rw [ex_7]; rfl) (by decide) rfl (fun ls hl => ?_)
                  obtain ⟨x_8, ex_8⟩ : ∃ y : Int32, y = i + 1 := ⟨_, rfl⟩
                  have i_8 : x_8.toInt = i.toInt + 1 := ki_add ex_8 rfl rfl (om_10 LP1_h0) (om_3 a1 i_1)
                  refine lv_iinc (v := x_8) (lv' := [(2, .int x_8), (1, .int x_7), (4, .int j), (3, .int lk), (0, .ref h0)]) hx hb dX5_laysNumbers_79 hl (k := 3) rfl (by rw [ex_8]; rfl) (by decide) rfl (fun ls hl => ?_)
                  refine lv_goto (tgt := 4) hx hb dX5_laysNumbers_82 (by decide) ?_
                  have n_i := ki_nat i rfl (by omega)
                  exact ih1 x_8 x_7 (upd gw i.toNatClampNeg nx) (om_31 LP1_h0 i_8) (om_31 LP1_h1 i_7) (om_49 LP1_h2 i_7 i_8) (kindOk_upd LP1_h3 (by omega) (by omega) (by omega) (by omega)) (om_mu hn1 (om_5 i_8) (om_6 i_1)) _ _ hP hD hS ls (lv_sub hl [0, 1, 4] rfl)
            · have i_2 : j.toInt < i.toInt := kc_nle c_2
              refine lv_iload_n hx hb dX5_laysNumbers_23 rfl (lv_at hl 1 rfl) ?_
              refine lv_if_ge (tgt := 57) hx hb dX5_laysNumbers_24 (by decide) (fun c_9 => ?_) (fun c_9 => ?_)
              · have i_9 : 0 ≤ lk.toInt := kc_le c_9
                refine lv_aload_n hx hb dX5_laysNumbers_57 rfl (lv_at hl 4 rfl) ?_
                refine va_get (D := (dC, dI)) (ci := 5) (v := .ref g_which) (C := RX5) (T := TX5) (N := 30) hx hb hts hi_5 hown hK hP 0 rfl rfl 27 (by decide) hf_71 (fun _ h9 => h9) rfl dX5_laysNumbers_58 ?_
                refine lv_iload_n hx hb dX5_laysNumbers_61 rfl (lv_at hl 2 rfl) ?_
                refine lv_iload_n hx hb dX5_laysNumbers_62 rfl (lv_at hl 1 rfl) ?_
                refine lv_if_ge (tgt := 70) hx hb dX5_laysNumbers_63 (by decide) (fun c_10 => ?_) (fun c_10 => ?_)
                · have i_10 : 0 ≤ lk.toInt := kc_le c_10
                  refine lv_iload_n hx hb dX5_laysNumbers_70 rfl (lv_at hl 1 rfl) ?_
                  refine va_iast hx hb hK hP hD hS 2 0 rfl rfl (ki_in (om_8 LP1_h0) (om_1 a1 i_1)) dX5_laysNumbers_71 (fun H locs hP hD hS => ?_)
                  have hP : va_P (dC, dI) vwCl [kx_5 h0 g_row m_n m_slots m_thrown g_many g_loss g_less g_voteValue g_voteNumber g_allValue g_allNumber m_allMany g_nodeL g_nodeR m_nodes g_part m_partMany g_wasMany g_wasLoss g_wasValue g_wasNumber g_path m_pathMany g_heavyValue g_heavyTimes m_heavyMany g_fewest g_which g_met m_mostMet, kx_a g_row cyI 160 f, kx_a g_which cyI 160 (upd gw i.toNatClampNeg lk)] H := hP
                  have hD : va_D A [kx_5 h0 g_row m_n m_slots m_thrown g_many g_loss g_less g_voteValue g_voteNumber g_allValue g_allNumber m_allMany g_nodeL g_nodeR m_nodes g_part m_partMany g_wasMany g_wasLoss g_wasValue g_wasNumber g_path m_pathMany g_heavyValue g_heavyTimes m_heavyMany g_fewest g_which g_met m_mostMet, kx_a g_row cyI 160 f, kx_a g_which cyI 160 (upd gw i.toNatClampNeg lk)] := hD
                  refine lv_iload_n hx hb dX5_laysNumbers_72 rfl (lv_at hl 1 rfl) ?_
                  refine lv_if_ge (tgt := 79) hx hb dX5_laysNumbers_73 (by decide) (fun c_11 => ?_) (fun c_11 => ?_)
                  · have i_11 : 0 ≤ lk.toInt := kc_le c_11
                    obtain ⟨x_12, ex_12⟩ : ∃ y : Int32, y = i + 1 := ⟨_, rfl⟩
                    have i_12 : x_12.toInt = i.toInt + 1 := ki_add ex_12 rfl rfl (om_10 LP1_h0) (om_3 a1 i_1)
                    refine lv_iinc (v := x_12) (lv' := [(2, .int x_12), (4, .int j), (3, .int lk), (1, .int nx), (0, .ref h0)]) hx hb dX5_laysNumbers_79 hl (k := 2) rfl (by rw [ex_12]; rfl) (by decide) rfl (fun ls hl => ?_)
                    refine lv_goto (tgt := 4) hx hb dX5_laysNumbers_82 (by decide) ?_
                    have n_i := ki_nat i rfl (by omega)
                    exact ih1 x_12 nx (upd gw i.toNatClampNeg lk) (om_31 LP1_h0 i_12) (om_8 LP1_h1) (om_4 LP1_h2 i_12) (kindOk_upd LP1_h3 (by omega) (by omega) (by omega) (by omega)) (om_mu hn1 (om_5 i_12) (om_6 i_1)) _ _ hP hD hS ls (lv_sub hl [0, 3, 4] rfl)
                  · have i_11 : lk.toInt < 0 := kc_nle c_11
                    exfalso; omega
                · have i_10 : lk.toInt < 0 := kc_nle c_10
                  exfalso; omega
              · have i_9 : lk.toInt < 0 := kc_nle c_9
                refine lv_aload_n hx hb dX5_laysNumbers_27 rfl (lv_at hl 4 rfl) ?_
                refine va_get (D := (dC, dI)) (ci := 5) (v := .ref g_row) (C := RX5) (T := TX5) (N := 30) hx hb hts hi_5 hown hK hP 0 rfl rfl 0 (by decide) hf_7 (fun _ h9 => h9) rfl dX5_laysNumbers_28 ?_
                refine lv_iload hx hb dX5_laysNumbers_31 (lv_at hl 0 rfl) ?_
                refine va_iald hx hb hK hP 1 0 rfl rfl (ki_in (om_8 LP2_h0) (om_178 a1 i_1 i_2)) dX5_laysNumbers_33 ?_
                refine lv_topi (fun y_13 ey_13 => ?_)
                have j_13 : y_13.toInt = (f j.toNatClampNeg).toInt := congrArg Int32.toInt ey_13
                refine lv_aload_n hx hb dX5_laysNumbers_34 rfl (lv_at hl 4 rfl) ?_
                refine va_get (D := (dC, dI)) (ci := 5) (v := .ref g_row) (C := RX5) (T := TX5) (N := 30) hx hb hts hi_5 hown hK hP 0 rfl rfl 0 (by decide) hf_7 (fun _ h9 => h9) rfl dX5_laysNumbers_35 ?_
                refine lv_iload_n hx hb dX5_laysNumbers_38 rfl (lv_at hl 2 rfl) ?_
                refine va_iald hx hb hK hP 1 0 rfl rfl (ki_in (om_8 LP1_h0) (om_1 a1 i_1)) dX5_laysNumbers_39 ?_
                refine lv_topi (fun y_14 ey_14 => ?_)
                have j_14 : y_14.toInt = (f i.toNatClampNeg).toInt := congrArg Int32.toInt ey_14
                refine lv_icmp_ne (tgt := 51) hx hb dX5_laysNumbers_40 (by decide) (fun c_15 => ?_) (fun c_15 => ?_)
                · have i_15 : ¬ y_13.toInt = y_14.toInt := kc_ne c_15
                  obtain ⟨x_16, ex_16⟩ : ∃ y : Int32, y = j + 1 := ⟨_, rfl⟩
                  have i_16 : x_16.toInt = j.toInt + 1 := ki_add ex_16 rfl rfl (om_10 LP2_h0) (om_179 a1 i_1 i_2)
                  refine lv_iinc (v := x_16) (lv' := [(4, .int x_16), (3, .int lk), (2, .int i), (1, .int nx), (0, .ref h0)]) hx hb dX5_laysNumbers_51 hl (k := 0) rfl (by rw [ex_16]; rfl) (by decide) rfl (fun ls hl => ?_)
                  refine lv_goto (tgt := 17) hx hb dX5_laysNumbers_54 (by decide) ?_
                  exact ih2 x_16 lk (om_31 LP2_h0 i_16) (by omega) (om_mu hn2 (om_5 i_16) (om_6 i_2)) _ _ hP hD hS ls (lv_sub hl [0, 1, 2, 3, 4] rfl)
                · have i_15 : y_13.toInt = y_14.toInt := kc_eq c_15
                  refine lv_aload_n hx hb dX5_laysNumbers_43 rfl (lv_at hl 4 rfl) ?_
                  refine va_get (D := (dC, dI)) (ci := 5) (v := .ref g_which) (C := RX5) (T := TX5) (N := 30) hx hb hts hi_5 hown hK hP 0 rfl rfl 27 (by decide) hf_71 (fun _ h9 => h9) rfl dX5_laysNumbers_44 ?_
                  refine lv_iload hx hb dX5_laysNumbers_47 (lv_at hl 0 rfl) ?_
                  refine va_iald hx hb hK hP 2 0 rfl rfl (ki_in (om_8 LP2_h0) (om_178 a1 i_1 i_2)) dX5_laysNumbers_49 ?_
                  refine lv_topi (fun y_17 ey_17 => ?_)
                  have j_17 : y_17.toInt = (gw j.toNatClampNeg).toInt := congrArg Int32.toInt ey_17
                  have n_18 : (j.toNatClampNeg : Int) = j.toInt := ki_nat _ rfl (om_8 LP2_h0)
                  have i_19 := LP1_h3 j.toNatClampNeg (by omega)
                  refine lv_istore_n (lv' := [(3, .int y_17), (4, .int j), (2, .int i), (1, .int nx), (0, .ref h0)]) hx hb dX5_laysNumbers_50 rfl hl (by decide) rfl (fun ls hl => ?_)
                  obtain ⟨x_20, ex_20⟩ : ∃ y : Int32, y = j + 1 := ⟨_, rfl⟩
                  have i_20 : x_20.toInt = j.toInt + 1 := ki_add ex_20 rfl rfl (om_10 LP2_h0) (om_179 a1 i_1 i_2)
                  refine lv_iinc (v := x_20) (lv' := [(4, .int x_20), (3, .int y_17), (2, .int i), (1, .int nx), (0, .ref h0)]) hx hb dX5_laysNumbers_51 hl (k := 1) rfl (by rw [ex_20]; rfl) (by decide) rfl (fun ls hl => ?_)
                  refine lv_goto (tgt := 17) hx hb dX5_laysNumbers_54 (by decide) ?_
                  exact ih2 x_20 y_17 (om_31 LP2_h0 i_20) (by omega) (om_mu hn2 (om_5 i_20) (om_6 i_2)) _ _ hP hD hS ls (lv_sub hl [0, 1, 2, 3, 4] rfl)
        have k_21 : (0 : Int32).toInt = 0 := rfl
        have k_22 : ((-1) : Int32).toInt = -1 := rfl
        exact LP2 ((i.toInt - 0 : Int).toNat + 1) 0 (-1) om_32 (by omega) (Nat.lt_succ_self _) _ _ hP hD hS ls (lv_sub hl [0, 1, 2, 3, 4] rfl)
  have k_23 : (0 : Int32).toInt = 0 := rfl
  have k_24 : (0 : Int32).toInt = 0 := rfl
  exact LP1 ((m_n.toInt - 0 : Int).toNat + 1) 0 0 fw om_32 om_32 om_32 (kindOk_0 _ (by omega)) (Nat.lt_succ_self _) _ _ hP hD hS ls (lv_sub hl [0, 1, 2] rfl)

set_option maxHeartbeats 4000000 in
set_option maxRecDepth 100000 in
theorem c_X5_begins (l : Launch) (dC : Nat → ClassId) (dI : Nat → Nat → Nat) (h0 : Nat) (g_row : Nat) (g_many : Nat) (g_loss : Nat) (g_less : Nat) (g_voteValue : Nat) (g_voteNumber : Nat) (g_allValue : Nat) (g_allNumber : Nat) (g_nodeL : Nat) (g_nodeR : Nat) (g_part : Nat) (g_wasMany : Nat) (g_wasLoss : Nat) (g_wasValue : Nat) (g_wasNumber : Nat) (g_path : Nat) (g_heavyValue : Nat) (g_heavyTimes : Nat) (g_fewest : Nat) (g_which : Nat) (g_met : Nat) (m_n : Int32) (m_slots : Int32) (m_thrown : Int32) (m_allMany : Int32) (m_nodes : Int32) (m_partMany : Int32) (m_pathMany : Int32) (m_heavyMany : Int32) (m_mostMet : Int32) (cyI : ClassId) (fq : Nat → Int32) (sz : Nat) (a0 : 0 ≤ m_n.toInt) (a1 : m_n.toInt ≤ 160) : Met l yX5_begins wsX5_begins ({ frames := 0, cells := 0, slots := 0, locals := 0 }) (va_Pc [.ref h0] (fun U => U.heap.size = sz ∧ va_P (dC, dI) vwCl [kx_5 h0 g_row m_n m_slots m_thrown g_many g_loss g_less g_voteValue g_voteNumber g_allValue g_allNumber m_allMany g_nodeL g_nodeR m_nodes g_part m_partMany g_wasMany g_wasLoss g_wasValue g_wasNumber g_path m_pathMany g_heavyValue g_heavyTimes m_heavyMany g_fewest g_which g_met m_mostMet, kx_a g_met cyI 160 fq] U.heap ∧ va_K (dC, dI) vwCl [(cyI, .int)] U ∧ va_D (fun _ => True) [kx_5 h0 g_row m_n m_slots m_thrown g_many g_loss g_less g_voteValue g_voteNumber g_allValue g_allNumber m_allMany g_nodeL g_nodeR m_nodes g_part m_partMany g_wasMany g_wasLoss g_wasValue g_wasNumber g_path m_pathMany g_heavyValue g_heavyTimes m_heavyMany g_fewest g_which g_met m_mostMet, kx_a g_met cyI 160 fq])) (va_Qv (fun u : (Nat → Int32) => True) (fun (u : (Nat → Int32)) (t : State) => va_P (dC, dI) vwCl [kx_5 h0 g_row m_n m_slots m_thrown g_many g_loss g_less g_voteValue g_voteNumber g_allValue g_allNumber m_allMany g_nodeL g_nodeR m_nodes g_part m_partMany g_wasMany g_wasLoss g_wasValue g_wasNumber g_path m_pathMany g_heavyValue g_heavyTimes m_heavyMany g_fewest g_which g_met 0, kx_a g_met cyI 160 u] t.heap ∧ va_K (dC, dI) vwCl [(cyI, .int)] t ∧ va_D (va_A [kx_5 h0 g_row m_n m_slots m_thrown g_many g_loss g_less g_voteValue g_voteNumber g_allValue g_allNumber m_allMany g_nodeL g_nodeR m_nodes g_part m_partMany g_wasMany g_wasLoss g_wasValue g_wasNumber g_path m_pathMany g_heavyValue g_heavyTimes m_heavyMany g_fewest g_which g_met m_mostMet, kx_a g_met cyI 160 fq] sz) [kx_5 h0 g_row m_n m_slots m_thrown g_many g_loss g_less g_voteValue g_voteNumber g_allValue g_allNumber m_allMany g_nodeL g_nodeR m_nodes g_part m_partMany g_wasMany g_wasLoss g_wasValue g_wasNumber g_path m_pathMany g_heavyValue g_heavyTimes m_heavyMany g_fewest g_which g_met 0, kx_a g_met cyI 160 u]) (va_A [kx_5 h0 g_row m_n m_slots m_thrown g_many g_loss g_less g_voteValue g_voteNumber g_allValue g_allNumber m_allMany g_nodeL g_nodeR m_nodes g_part m_partMany g_wasMany g_wasLoss g_wasValue g_wasNumber g_path m_pathMany g_heavyValue g_heavyTimes m_heavyMany g_fewest g_which g_met m_mostMet, kx_a g_met cyI 160 fq] sz)) 0 0 (va_A [kx_5 h0 g_row m_n m_slots m_thrown g_many g_loss g_less g_voteValue g_voteNumber g_allValue g_allNumber m_allMany g_nodeL g_nodeR m_nodes g_part m_partMany g_wasMany g_wasLoss g_wasValue g_wasNumber g_path m_pathMany g_heavyValue g_heavyTimes m_heavyMany g_fewest g_which g_met m_mostMet, kx_a g_met cyI 160 fq] sz) := by
  refine Met.ofW (cc := cX5_begins) (maxL := 2) (ret := none) (by decide) rfl ?_
  intro p e s m args below meth c s₁ B hml hv
  obtain ⟨rfl, hsz, hP, hK, hD0⟩ := hv
  have hx := B.exec
  have hb := B.bytes
  have hr := B.returns
  have hts := atoms_spec (ws := wsX5_begins) B.pre
  have hown : s.vm.findClass RX5 = some m.cls := findClass_of_methodNamed B.named
  have hlocks := B.notSynchronized
  subst hsz
  have hD := hD0.self (sz := s.heap.size)
  generalize hAe : va_A [kx_5 h0 g_row m_n m_slots m_thrown g_many g_loss g_less g_voteValue g_voteNumber g_allValue g_allNumber m_allMany g_nodeL g_nodeR m_nodes g_part m_partMany g_wasMany g_wasLoss g_wasValue g_wasNumber g_path m_pathMany g_heavyValue g_heavyTimes m_heavyMany g_fewest g_which g_met m_mostMet, kx_a g_met cyI 160 fq] s.heap.size = A at hD ⊢
  have hA : ∀ q : Nat, s.heap.size ≤ q → A q := fun q h => by rw [← hAe]; exact Or.inr h
  have hS : va_S A s.heap s.heap [] := va_S.rf
  have hP : va_P (dC, dI) vwCl [kx_5 h0 g_row m_n m_slots m_thrown g_many g_loss g_less g_voteValue g_voteNumber g_allValue g_allNumber m_allMany g_nodeL g_nodeR m_nodes g_part m_partMany g_wasMany g_wasLoss g_wasValue g_wasNumber g_path m_pathMany g_heavyValue g_heavyTimes m_heavyMany g_fewest g_which g_met m_mostMet, kx_a g_met cyI 160 fq] s.heap := hP
  have hl := lv_entry ([.ref h0]) (n := 2) (Nat.le_of_ble_eq_true rfl)
  rw [lg_entry_eq]
  generalize (lg_sl ([.ref h0]) ++ List.replicate (2 - (lg_sl ([.ref h0])).length) Slot.unset).toArray = ls at hl ⊢
  have hl : lv_has ls 2 [(0, .ref h0)] := hl
  have hf_84 := hts (.fieldLink RX5 84 "MajorityIndexModel" "n" "I") (List.mem_of_getElem? (i := 1) rfl)
  have hi_5 : ∀ w ∈ u_ws RX5 TX5 30, w ∈ wsX5_begins := fun w h => List.mem_cons_of_mem _ (List.mem_append_right _ h)
  have hf_210 := hts (.fieldLink RX5 210 "MajorityIndexModel" "mostMet" "I") (List.mem_of_getElem? (i := 3) rfl)
  have hf_74 := hts (.fieldLink RX5 74 "MajorityIndexModel" "met" "[I") (List.mem_of_getElem? (i := 2) rfl)
  refine lv_iconst (v := 0) hx hb dX5_begins_0 (by decide) ?_
  refine lv_istore_n (lv' := [(1, .int 0), (0, .ref h0)]) hx hb dX5_begins_1 rfl hl (by decide) rfl (fun ls hl => ?_)
  have LP1 : ∀ (n : Nat) (i : Int32) (gq : Nat → Int32), (0 ≤ i.toInt) → (m_n.toInt - i.toInt).toNat < n → ∀ (H : Heap) (locs : List Loc), va_P (dC, dI) vwCl [kx_5 h0 g_row m_n m_slots m_thrown g_many g_loss g_less g_voteValue g_voteNumber g_allValue g_allNumber m_allMany g_nodeL g_nodeR m_nodes g_part m_partMany g_wasMany g_wasLoss g_wasValue g_wasNumber g_path m_pathMany g_heavyValue g_heavyTimes m_heavyMany g_fewest g_which g_met m_mostMet, kx_a g_met cyI 160 gq] H → va_D A [kx_5 h0 g_row m_n m_slots m_thrown g_many g_loss g_less g_voteValue g_voteNumber g_allValue g_allNumber m_allMany g_nodeL g_nodeR m_nodes g_part m_partMany g_wasMany g_wasLoss g_wasValue g_wasNumber g_path m_pathMany g_heavyValue g_heavyTimes m_heavyMany g_fewest g_which g_met m_mostMet, kx_a g_met cyI 160 gq] → va_S A s.heap H locs → ∀ (ls : Array Slot), lv_has ls 2 [(1, .int i), (0, .ref h0)] → W p l e (headSpec wsX5_begins ({ frames := 0, cells := 0, slots := 0, locals := 0 })).room s m ([.ref h0] : List Value).toArray below meth c H locs 0 0 (MQ below (va_Qv (fun u : (Nat → Int32) => True) (fun (u : (Nat → Int32)) (t : State) => va_P (dC, dI) vwCl [kx_5 h0 g_row m_n m_slots m_thrown g_many g_loss g_less g_voteValue g_voteNumber g_allValue g_allNumber m_allMany g_nodeL g_nodeR m_nodes g_part m_partMany g_wasMany g_wasLoss g_wasValue g_wasNumber g_path m_pathMany g_heavyValue g_heavyTimes m_heavyMany g_fewest g_which g_met 0, kx_a g_met cyI 160 u] t.heap ∧ va_K (dC, dI) vwCl [(cyI, .int)] t ∧ va_D A [kx_5 h0 g_row m_n m_slots m_thrown g_many g_loss g_less g_voteValue g_voteNumber g_allValue g_allNumber m_allMany g_nodeL g_nodeR m_nodes g_part m_partMany g_wasMany g_wasLoss g_wasValue g_wasNumber g_path m_pathMany g_heavyValue g_heavyTimes m_heavyMany g_fewest g_which g_met 0, kx_a g_met cyI 160 u]) A) ([.ref h0] : List Value).toArray s 0 0 A) (F0 m 2 ls []) := by
    intro n
    induction n with
    | zero => intro i gq LP1_h0 hn; exact absurd hn (Nat.not_lt_zero _)
    | succ n ih1 =>
      intro i gq LP1_h0 hn1 H locs hP hD hS ls hl
      refine lv_iload_n hx hb dX5_begins_2 rfl (lv_at hl 0 rfl) ?_
      refine lv_aload_n hx hb dX5_begins_3 rfl (lv_at hl 1 rfl) ?_
      refine va_get (D := (dC, dI)) (ci := 5) (v := .int m_n) (C := RX5) (T := TX5) (N := 30) hx hb hts hi_5 hown hK hP 0 rfl rfl 1 (by decide) hf_84 (fun _ h9 => h9) rfl dX5_begins_4 ?_
      refine lv_icmp_ge (tgt := 23) hx hb dX5_begins_7 (by decide) (fun c_1 => ?_) (fun c_1 => ?_)
      · have i_1 : m_n.toInt ≤ i.toInt := kc_le c_1
        refine lv_aload_n hx hb dX5_begins_23 rfl (lv_at hl 1 rfl) ?_
        refine lv_iconst (v := 0) hx hb dX5_begins_24 (by decide) ?_
        refine va_put (D := (dC, dI)) (ci := 5) (v := .int 0) (ty := .int) (C := RX5) (T := TX5) (N := 30) hx hb hts hi_5 tyX5 tyX5_ok nmX5 hown hK hP hD hS 0 rfl rfl 29 (by decide) hf_210 (fun _ h9 => h9) rfl (by decide +kernel) rfl rfl (Nat.le_of_ble_eq_true rfl) dX5_begins_25 (fun H locs hP hD hS => ?_)
        have hP : va_P (dC, dI) vwCl [kx_5 h0 g_row m_n m_slots m_thrown g_many g_loss g_less g_voteValue g_voteNumber g_allValue g_allNumber m_allMany g_nodeL g_nodeR m_nodes g_part m_partMany g_wasMany g_wasLoss g_wasValue g_wasNumber g_path m_pathMany g_heavyValue g_heavyTimes m_heavyMany g_fewest g_which g_met 0, kx_a g_met cyI 160 gq] H := hP
        have hD : va_D A [kx_5 h0 g_row m_n m_slots m_thrown g_many g_loss g_less g_voteValue g_voteNumber g_allValue g_allNumber m_allMany g_nodeL g_nodeR m_nodes g_part m_partMany g_wasMany g_wasLoss g_wasValue g_wasNumber g_path m_pathMany g_heavyValue g_heavyTimes m_heavyMany g_fewest g_which g_met 0, kx_a g_met cyI 160 gq] := hD
        have hP9 := hP
        have hD9 := hD
        have hK9 := hK
        exact W.vret hx hb hr (fun t ht hW => ⟨⟨(gq), rfl, trivial, by rw [ht]; exact hP9, va_K.moved hW.alike hK9, hD9⟩, hS.F ht⟩) hS.2.2 dX5_begins_28
      · have i_1 : i.toInt < m_n.toInt := kc_nle c_1
        refine lv_aload_n hx hb dX5_begins_10 rfl (lv_at hl 1 rfl) ?_
        refine va_get (D := (dC, dI)) (ci := 5) (v := .ref g_met) (C := RX5) (T := TX5) (N := 30) hx hb hts hi_5 hown hK hP 0 rfl rfl 28 (by decide) hf_74 (fun _ h9 => h9) rfl dX5_begins_11 ?_
        refine lv_iload_n hx hb dX5_begins_14 rfl (lv_at hl 0 rfl) ?_
        refine lv_iconst (v := 0) hx hb dX5_begins_15 (by decide) ?_
        refine va_iast hx hb hK hP hD hS 1 0 rfl rfl (ki_in (om_8 LP1_h0) (om_1 a1 i_1)) dX5_begins_16 (fun H locs hP hD hS => ?_)
        have hP : va_P (dC, dI) vwCl [kx_5 h0 g_row m_n m_slots m_thrown g_many g_loss g_less g_voteValue g_voteNumber g_allValue g_allNumber m_allMany g_nodeL g_nodeR m_nodes g_part m_partMany g_wasMany g_wasLoss g_wasValue g_wasNumber g_path m_pathMany g_heavyValue g_heavyTimes m_heavyMany g_fewest g_which g_met m_mostMet, kx_a g_met cyI 160 (upd gq i.toNatClampNeg 0)] H := hP
        have hD : va_D A [kx_5 h0 g_row m_n m_slots m_thrown g_many g_loss g_less g_voteValue g_voteNumber g_allValue g_allNumber m_allMany g_nodeL g_nodeR m_nodes g_part m_partMany g_wasMany g_wasLoss g_wasValue g_wasNumber g_path m_pathMany g_heavyValue g_heavyTimes m_heavyMany g_fewest g_which g_met m_mostMet, kx_a g_met cyI 160 (upd gq i.toNatClampNeg 0)] := hD
        obtain ⟨x_2, ex_2⟩ : ∃ y : Int32, y = i + 1 := ⟨_, rfl⟩
        have i_2 : x_2.toInt = i.toInt + 1 := ki_add ex_2 rfl rfl (om_10 LP1_h0) (om_3 a1 i_1)
        refine lv_iinc (v := x_2) (lv' := [(1, .int x_2), (0, .ref h0)]) hx hb dX5_begins_17 hl (k := 0) rfl (by rw [ex_2]; rfl) (by decide) rfl (fun ls hl => ?_)
        refine lv_goto (tgt := 2) hx hb dX5_begins_20 (by decide) ?_
        exact ih1 x_2 (upd gq i.toNatClampNeg 0) (om_31 LP1_h0 i_2) (om_mu hn1 (om_5 i_2) (om_6 i_1)) _ _ hP hD hS ls (lv_sub hl [0, 1] rfl)
  have k_3 : (0 : Int32).toInt = 0 := rfl
  exact LP1 ((m_n.toInt - 0 : Int).toNat + 1) 0 fq om_32 (Nat.lt_succ_self _) _ _ hP hD hS ls (lv_sub hl [0, 1] rfl)

set_option maxHeartbeats 4000000 in
set_option maxRecDepth 100000 in
theorem c_X5_goesOn (l : Launch) (dC : Nat → ClassId) (dI : Nat → Nat → Nat) (h0 : Nat) (g_row : Nat) (g_many : Nat) (g_loss : Nat) (g_less : Nat) (g_voteValue : Nat) (g_voteNumber : Nat) (g_allValue : Nat) (g_allNumber : Nat) (g_nodeL : Nat) (g_nodeR : Nat) (g_part : Nat) (g_wasMany : Nat) (g_wasLoss : Nat) (g_wasValue : Nat) (g_wasNumber : Nat) (g_path : Nat) (g_heavyValue : Nat) (g_heavyTimes : Nat) (g_fewest : Nat) (g_which : Nat) (g_met : Nat) (m_n : Int32) (m_slots : Int32) (m_thrown : Int32) (m_allMany : Int32) (m_nodes : Int32) (m_partMany : Int32) (m_pathMany : Int32) (m_heavyMany : Int32) (m_mostMet : Int32) (cyI : ClassId) (fw : Nat → Int32) (fq : Nat → Int32) (nn : Int) (p0 : Int32) (p1 : Int32) (sz : Nat) (k0 : kindOk fw nn) (b0 : 1 ≤ p0.toInt) (b1 : p0.toInt ≤ nn) (b2 : nn ≤ 160) : Met l yX5_goesOn wsX5_goesOn ({ frames := 0, cells := 0, slots := 0, locals := 0 }) (va_Pc [.ref h0, .int p0, .int p1] (fun U => U.heap.size = sz ∧ va_P (dC, dI) vwCl [kx_5 h0 g_row m_n m_slots m_thrown g_many g_loss g_less g_voteValue g_voteNumber g_allValue g_allNumber m_allMany g_nodeL g_nodeR m_nodes g_part m_partMany g_wasMany g_wasLoss g_wasValue g_wasNumber g_path m_pathMany g_heavyValue g_heavyTimes m_heavyMany g_fewest g_which g_met m_mostMet, kx_a g_which cyI 160 fw, kx_a g_met cyI 160 fq] U.heap ∧ va_K (dC, dI) vwCl [(cyI, .int)] U ∧ va_D (fun _ => True) [kx_5 h0 g_row m_n m_slots m_thrown g_many g_loss g_less g_voteValue g_voteNumber g_allValue g_allNumber m_allMany g_nodeL g_nodeR m_nodes g_part m_partMany g_wasMany g_wasLoss g_wasValue g_wasNumber g_path m_pathMany g_heavyValue g_heavyTimes m_heavyMany g_fewest g_which g_met m_mostMet, kx_a g_which cyI 160 fw, kx_a g_met cyI 160 fq])) (va_Qi (fun (r : Int32) (u : Int32 × (Nat → Int32)) => r = 1 ∨ r = 0) (fun (u : Int32 × (Nat → Int32)) (t : State) => va_P (dC, dI) vwCl [kx_5 h0 g_row m_n m_slots m_thrown g_many g_loss g_less g_voteValue g_voteNumber g_allValue g_allNumber m_allMany g_nodeL g_nodeR m_nodes g_part m_partMany g_wasMany g_wasLoss g_wasValue g_wasNumber g_path m_pathMany g_heavyValue g_heavyTimes m_heavyMany g_fewest g_which g_met u.1, kx_a g_which cyI 160 fw, kx_a g_met cyI 160 u.2] t.heap ∧ va_K (dC, dI) vwCl [(cyI, .int)] t ∧ va_D (va_A [kx_5 h0 g_row m_n m_slots m_thrown g_many g_loss g_less g_voteValue g_voteNumber g_allValue g_allNumber m_allMany g_nodeL g_nodeR m_nodes g_part m_partMany g_wasMany g_wasLoss g_wasValue g_wasNumber g_path m_pathMany g_heavyValue g_heavyTimes m_heavyMany g_fewest g_which g_met m_mostMet, kx_a g_which cyI 160 fw, kx_a g_met cyI 160 fq] sz) [kx_5 h0 g_row m_n m_slots m_thrown g_many g_loss g_less g_voteValue g_voteNumber g_allValue g_allNumber m_allMany g_nodeL g_nodeR m_nodes g_part m_partMany g_wasMany g_wasLoss g_wasValue g_wasNumber g_path m_pathMany g_heavyValue g_heavyTimes m_heavyMany g_fewest g_which g_met u.1, kx_a g_which cyI 160 fw, kx_a g_met cyI 160 u.2]) (va_A [kx_5 h0 g_row m_n m_slots m_thrown g_many g_loss g_less g_voteValue g_voteNumber g_allValue g_allNumber m_allMany g_nodeL g_nodeR m_nodes g_part m_partMany g_wasMany g_wasLoss g_wasValue g_wasNumber g_path m_pathMany g_heavyValue g_heavyTimes m_heavyMany g_fewest g_which g_met m_mostMet, kx_a g_which cyI 160 fw, kx_a g_met cyI 160 fq] sz)) 0 0 (va_A [kx_5 h0 g_row m_n m_slots m_thrown g_many g_loss g_less g_voteValue g_voteNumber g_allValue g_allNumber m_allMany g_nodeL g_nodeR m_nodes g_part m_partMany g_wasMany g_wasLoss g_wasValue g_wasNumber g_path m_pathMany g_heavyValue g_heavyTimes m_heavyMany g_fewest g_which g_met m_mostMet, kx_a g_which cyI 160 fw, kx_a g_met cyI 160 fq] sz) := by
  refine Met.ofW (cc := cX5_goesOn) (maxL := 4) (ret := (some .boolean)) (by decide) rfl ?_
  intro p e s m args below meth c s₁ B hml hv
  obtain ⟨rfl, hsz, hP, hK, hD0⟩ := hv
  have hx := B.exec
  have hb := B.bytes
  have hr := B.returns
  have hts := atoms_spec (ws := wsX5_goesOn) B.pre
  have hown : s.vm.findClass RX5 = some m.cls := findClass_of_methodNamed B.named
  have hlocks := B.notSynchronized
  subst hsz
  have hD := hD0.self (sz := s.heap.size)
  generalize hAe : va_A [kx_5 h0 g_row m_n m_slots m_thrown g_many g_loss g_less g_voteValue g_voteNumber g_allValue g_allNumber m_allMany g_nodeL g_nodeR m_nodes g_part m_partMany g_wasMany g_wasLoss g_wasValue g_wasNumber g_path m_pathMany g_heavyValue g_heavyTimes m_heavyMany g_fewest g_which g_met m_mostMet, kx_a g_which cyI 160 fw, kx_a g_met cyI 160 fq] s.heap.size = A at hD ⊢
  have hA : ∀ q : Nat, s.heap.size ≤ q → A q := fun q h => by rw [← hAe]; exact Or.inr h
  have hS : va_S A s.heap s.heap [] := va_S.rf
  have hP : va_P (dC, dI) vwCl [kx_5 h0 g_row m_n m_slots m_thrown g_many g_loss g_less g_voteValue g_voteNumber g_allValue g_allNumber m_allMany g_nodeL g_nodeR m_nodes g_part m_partMany g_wasMany g_wasLoss g_wasValue g_wasNumber g_path m_pathMany g_heavyValue g_heavyTimes m_heavyMany g_fewest g_which g_met m_mostMet, kx_a g_which cyI 160 fw, kx_a g_met cyI 160 fq] s.heap := hP
  have hl := lv_entry ([.ref h0, .int p0, .int p1]) (n := 4) (Nat.le_of_ble_eq_true rfl)
  rw [lg_entry_eq]
  generalize (lg_sl ([.ref h0, .int p0, .int p1]) ++ List.replicate (4 - (lg_sl ([.ref h0, .int p0, .int p1])).length) Slot.unset).toArray = ls at hl ⊢
  have hl : lv_has ls 4 [(0, .ref h0), (1, .int p0), (2, .int p1)] := hl
  have hf_71 := hts (.fieldLink RX5 71 "MajorityIndexModel" "which" "[I") (List.mem_of_getElem? (i := 1) rfl)
  have hi_5 : ∀ w ∈ u_ws RX5 TX5 30, w ∈ wsX5_goesOn := fun w h => List.mem_cons_of_mem _ (List.mem_append_right _ h)
  have hf_74 := hts (.fieldLink RX5 74 "MajorityIndexModel" "met" "[I") (List.mem_of_getElem? (i := 2) rfl)
  have hf_210 := hts (.fieldLink RX5 210 "MajorityIndexModel" "mostMet" "I") (List.mem_of_getElem? (i := 3) rfl)
  refine lv_aload_n hx hb dX5_goesOn_0 rfl (lv_at hl 0 rfl) ?_
  refine va_get (D := (dC, dI)) (ci := 5) (v := .ref g_which) (C := RX5) (T := TX5) (N := 30) hx hb hts hi_5 hown hK hP 0 rfl rfl 27 (by decide) hf_71 (fun _ h9 => h9) rfl dX5_goesOn_1 ?_
  refine lv_iload_n hx hb dX5_goesOn_4 rfl (lv_at hl 1 rfl) ?_
  refine lv_iconst (v := 1) hx hb dX5_goesOn_5 (by decide) ?_
  refine lv_isub hx hb dX5_goesOn_6 ?_
  refine lv_topi (fun y_1 ey_1 => ?_)
  have i_1 : y_1.toInt = p0.toInt - 1 := ki_sub ey_1 rfl rfl (om_122 b0) (by omega)
  refine va_iald hx hb hK hP 1 0 rfl rfl (ki_in (om_158 b0 i_1) (by omega)) dX5_goesOn_7 ?_
  refine lv_topi (fun y_2 ey_2 => ?_)
  have j_2 : y_2.toInt = (fw y_1.toNatClampNeg).toInt := congrArg Int32.toInt ey_2
  have n_3 : (y_1.toNatClampNeg : Int) = y_1.toInt := ki_nat _ rfl (om_158 b0 i_1)
  have i_4 := k0 y_1.toNatClampNeg (by omega)
  refine lv_istore_n (lv' := [(3, .int y_2), (0, .ref h0), (1, .int p0), (2, .int p1)]) hx hb dX5_goesOn_8 rfl hl (by decide) rfl (fun ls hl => ?_)
  refine lv_aload_n hx hb dX5_goesOn_9 rfl (lv_at hl 1 rfl) ?_
  refine va_get (D := (dC, dI)) (ci := 5) (v := .ref g_met) (C := RX5) (T := TX5) (N := 30) hx hb hts hi_5 hown hK hP 0 rfl rfl 28 (by decide) hf_74 (fun _ h9 => h9) rfl dX5_goesOn_10 ?_
  refine lv_iload_n hx hb dX5_goesOn_13 rfl (lv_at hl 0 rfl) ?_
  refine lv_dup2_11 hx hb dX5_goesOn_14 rfl rfl ?_
  refine va_iald hx hb hK hP 2 0 rfl rfl (ki_in (by omega) (by omega)) dX5_goesOn_15 ?_
  refine lv_topi (fun y_5 ey_5 => ?_)
  have j_5 : y_5.toInt = (fq y_2.toNatClampNeg).toInt := congrArg Int32.toInt ey_5
  refine lv_iconst (v := 1) hx hb dX5_goesOn_16 (by decide) ?_
  refine lv_iadd hx hb dX5_goesOn_17 ?_
  refine lv_topi (fun y_6 ey_6 => ?_)
  refine va_iast hx hb hK hP hD hS 2 0 rfl rfl (ki_in (by omega) (by omega)) dX5_goesOn_18 (fun H locs hP hD hS => ?_)
  have hP : va_P (dC, dI) vwCl [kx_5 h0 g_row m_n m_slots m_thrown g_many g_loss g_less g_voteValue g_voteNumber g_allValue g_allNumber m_allMany g_nodeL g_nodeR m_nodes g_part m_partMany g_wasMany g_wasLoss g_wasValue g_wasNumber g_path m_pathMany g_heavyValue g_heavyTimes m_heavyMany g_fewest g_which g_met m_mostMet, kx_a g_which cyI 160 fw, kx_a g_met cyI 160 (upd fq y_2.toNatClampNeg y_6)] H := hP
  have hD : va_D A [kx_5 h0 g_row m_n m_slots m_thrown g_many g_loss g_less g_voteValue g_voteNumber g_allValue g_allNumber m_allMany g_nodeL g_nodeR m_nodes g_part m_partMany g_wasMany g_wasLoss g_wasValue g_wasNumber g_path m_pathMany g_heavyValue g_heavyTimes m_heavyMany g_fewest g_which g_met m_mostMet, kx_a g_which cyI 160 fw, kx_a g_met cyI 160 (upd fq y_2.toNatClampNeg y_6)] := hD
  refine lv_aload_n hx hb dX5_goesOn_19 rfl (lv_at hl 1 rfl) ?_
  refine va_get (D := (dC, dI)) (ci := 5) (v := .ref g_met) (C := RX5) (T := TX5) (N := 30) hx hb hts hi_5 hown hK hP 0 rfl rfl 28 (by decide) hf_74 (fun _ h9 => h9) rfl dX5_goesOn_20 ?_
  refine lv_iload_n hx hb dX5_goesOn_23 rfl (lv_at hl 0 rfl) ?_
  refine va_iald hx hb hK hP 2 0 rfl rfl (ki_in (by omega) (by omega)) dX5_goesOn_24 ?_
  refine lv_topi (fun y_7 ey_7 => ?_)
  have j_7 : y_7.toInt = ((upd fq y_2.toNatClampNeg y_6) y_2.toNatClampNeg).toInt := congrArg Int32.toInt ey_7
  refine lv_aload_n hx hb dX5_goesOn_25 rfl (lv_at hl 1 rfl) ?_
  refine va_get (D := (dC, dI)) (ci := 5) (v := .int m_mostMet) (C := RX5) (T := TX5) (N := 30) hx hb hts hi_5 hown hK hP 0 rfl rfl 29 (by decide) hf_210 (fun _ h9 => h9) rfl dX5_goesOn_26 ?_
  refine lv_icmp_le (tgt := 42) hx hb dX5_goesOn_29 (by decide) (fun c_8 => ?_) (fun c_8 => ?_)
  · have i_8 : y_7.toInt ≤ m_mostMet.toInt := kc_le c_8
    refine lv_iconst (v := 2) hx hb dX5_goesOn_42 (by decide) ?_
    refine lv_aload_n hx hb dX5_goesOn_43 rfl (lv_at hl 1 rfl) ?_
    refine va_get (D := (dC, dI)) (ci := 5) (v := .int m_mostMet) (C := RX5) (T := TX5) (N := 30) hx hb hts hi_5 hown hK hP 0 rfl rfl 29 (by decide) hf_210 (fun _ h9 => h9) rfl dX5_goesOn_44 ?_
    refine lv_imul hx hb dX5_goesOn_47 ?_
    refine lv_topi (fun y_9 ey_9 => ?_)
    refine lv_iload_n hx hb dX5_goesOn_48 rfl (lv_at hl 2 rfl) ?_
    refine lv_iload_n hx hb dX5_goesOn_49 rfl (lv_at hl 3 rfl) ?_
    refine lv_isub hx hb dX5_goesOn_50 ?_
    refine lv_topi (fun y_10 ey_10 => ?_)
    refine lv_icmp_le (tgt := 58) hx hb dX5_goesOn_51 (by decide) (fun c_11 => ?_) (fun c_11 => ?_)
    · have i_11 : y_9.toInt ≤ y_10.toInt := kc_le c_11
      refine lv_iconst (v := 0) hx hb dX5_goesOn_58 (by decide) ?_
      have hP9 := hP
      have hD9 := hD
      have hK9 := hK
      exact W.zret (v := 0) hx hb hr (by decide) (fun t ht hW => ⟨⟨0, (m_mostMet, (upd fq y_2.toNatClampNeg y_6)), rfl, (Or.inr rfl), by rw [ht]; exact hP9, va_K.moved hW.alike hK9, hD9⟩, hS.F ht⟩) hS.2.2 dX5_goesOn_59
    · have i_11 : y_10.toInt < y_9.toInt := kc_nle c_11
      refine lv_iconst (v := 1) hx hb dX5_goesOn_54 (by decide) ?_
      refine lv_goto (tgt := 59) hx hb dX5_goesOn_55 (by decide) ?_
      have hP9 := hP
      have hD9 := hD
      have hK9 := hK
      exact W.zret (v := 1) hx hb hr (by decide) (fun t ht hW => ⟨⟨1, (m_mostMet, (upd fq y_2.toNatClampNeg y_6)), rfl, (Or.inl rfl), by rw [ht]; exact hP9, va_K.moved hW.alike hK9, hD9⟩, hS.F ht⟩) hS.2.2 dX5_goesOn_59
  · have i_8 : m_mostMet.toInt < y_7.toInt := kc_nle c_8
    refine lv_aload_n hx hb dX5_goesOn_32 rfl (lv_at hl 1 rfl) ?_
    refine lv_aload_n hx hb dX5_goesOn_33 rfl (lv_at hl 1 rfl) ?_
    refine va_get (D := (dC, dI)) (ci := 5) (v := .ref g_met) (C := RX5) (T := TX5) (N := 30) hx hb hts hi_5 hown hK hP 0 rfl rfl 28 (by decide) hf_74 (fun _ h9 => h9) rfl dX5_goesOn_34 ?_
    refine lv_iload_n hx hb dX5_goesOn_37 rfl (lv_at hl 0 rfl) ?_
    refine va_iald hx hb hK hP 2 0 rfl rfl (ki_in (by omega) (by omega)) dX5_goesOn_38 ?_
    refine lv_topi (fun y_12 ey_12 => ?_)
    have j_12 : y_12.toInt = ((upd fq y_2.toNatClampNeg y_6) y_2.toNatClampNeg).toInt := congrArg Int32.toInt ey_12
    refine va_put (D := (dC, dI)) (ci := 5) (v := .int y_12) (ty := .int) (C := RX5) (T := TX5) (N := 30) hx hb hts hi_5 tyX5 tyX5_ok nmX5 hown hK hP hD hS 0 rfl rfl 29 (by decide) hf_210 (fun _ h9 => h9) rfl (by decide +kernel) rfl rfl (Nat.le_of_ble_eq_true rfl) dX5_goesOn_39 (fun H locs hP hD hS => ?_)
    have hP : va_P (dC, dI) vwCl [kx_5 h0 g_row m_n m_slots m_thrown g_many g_loss g_less g_voteValue g_voteNumber g_allValue g_allNumber m_allMany g_nodeL g_nodeR m_nodes g_part m_partMany g_wasMany g_wasLoss g_wasValue g_wasNumber g_path m_pathMany g_heavyValue g_heavyTimes m_heavyMany g_fewest g_which g_met y_12, kx_a g_which cyI 160 fw, kx_a g_met cyI 160 (upd fq y_2.toNatClampNeg y_6)] H := hP
    have hD : va_D A [kx_5 h0 g_row m_n m_slots m_thrown g_many g_loss g_less g_voteValue g_voteNumber g_allValue g_allNumber m_allMany g_nodeL g_nodeR m_nodes g_part m_partMany g_wasMany g_wasLoss g_wasValue g_wasNumber g_path m_pathMany g_heavyValue g_heavyTimes m_heavyMany g_fewest g_which g_met y_12, kx_a g_which cyI 160 fw, kx_a g_met cyI 160 (upd fq y_2.toNatClampNeg y_6)] := hD
    refine lv_iconst (v := 2) hx hb dX5_goesOn_42 (by decide) ?_
    refine lv_aload_n hx hb dX5_goesOn_43 rfl (lv_at hl 1 rfl) ?_
    refine va_get (D := (dC, dI)) (ci := 5) (v := .int y_12) (C := RX5) (T := TX5) (N := 30) hx hb hts hi_5 hown hK hP 0 rfl rfl 29 (by decide) hf_210 (fun _ h9 => h9) rfl dX5_goesOn_44 ?_
    refine lv_imul hx hb dX5_goesOn_47 ?_
    refine lv_topi (fun y_13 ey_13 => ?_)
    refine lv_iload_n hx hb dX5_goesOn_48 rfl (lv_at hl 2 rfl) ?_
    refine lv_iload_n hx hb dX5_goesOn_49 rfl (lv_at hl 3 rfl) ?_
    refine lv_isub hx hb dX5_goesOn_50 ?_
    refine lv_topi (fun y_14 ey_14 => ?_)
    refine lv_icmp_le (tgt := 58) hx hb dX5_goesOn_51 (by decide) (fun c_15 => ?_) (fun c_15 => ?_)
    · have i_15 : y_13.toInt ≤ y_14.toInt := kc_le c_15
      refine lv_iconst (v := 0) hx hb dX5_goesOn_58 (by decide) ?_
      have hP9 := hP
      have hD9 := hD
      have hK9 := hK
      exact W.zret (v := 0) hx hb hr (by decide) (fun t ht hW => ⟨⟨0, (y_12, (upd fq y_2.toNatClampNeg y_6)), rfl, (Or.inr rfl), by rw [ht]; exact hP9, va_K.moved hW.alike hK9, hD9⟩, hS.F ht⟩) hS.2.2 dX5_goesOn_59
    · have i_15 : y_14.toInt < y_13.toInt := kc_nle c_15
      refine lv_iconst (v := 1) hx hb dX5_goesOn_54 (by decide) ?_
      refine lv_goto (tgt := 59) hx hb dX5_goesOn_55 (by decide) ?_
      have hP9 := hP
      have hD9 := hD
      have hK9 := hK
      exact W.zret (v := 1) hx hb hr (by decide) (fun t ht hW => ⟨⟨1, (y_12, (upd fq y_2.toNatClampNeg y_6)), rfl, (Or.inl rfl), by rw [ht]; exact hP9, va_K.moved hW.alike hK9, hD9⟩, hS.F ht⟩) hS.2.2 dX5_goesOn_59

set_option maxHeartbeats 4000000 in
set_option maxRecDepth 100000 in
theorem c_X5_majorities (l : Launch) (dC : Nat → ClassId) (dI : Nat → Nat → Nat) (h0 : Nat) (g_row : Nat) (g_many : Nat) (g_loss : Nat) (g_less : Nat) (g_voteValue : Nat) (g_voteNumber : Nat) (g_allValue : Nat) (g_allNumber : Nat) (g_nodeL : Nat) (g_nodeR : Nat) (g_part : Nat) (g_wasMany : Nat) (g_wasLoss : Nat) (g_wasValue : Nat) (g_wasNumber : Nat) (g_path : Nat) (g_heavyValue : Nat) (g_heavyTimes : Nat) (g_fewest : Nat) (g_which : Nat) (g_met : Nat) (m_n : Int32) (m_slots : Int32) (m_thrown : Int32) (m_allMany : Int32) (m_nodes : Int32) (m_partMany : Int32) (m_pathMany : Int32) (m_heavyMany : Int32) (m_mostMet : Int32) (cyI : ClassId) (f : Nat → Int32) (fw : Nat → Int32) (fq : Nat → Int32) (sz : Nat) (a0 : 0 ≤ m_n.toInt) (a1 : m_n.toInt ≤ 160) : Met l yX5_majorities wsX5_majorities ({ frames := 1, cells := 0, slots := 0, locals := 45 }) (va_Pc [.ref h0] (fun U => U.heap.size = sz ∧ va_P (dC, dI) vwCl [kx_5 h0 g_row m_n m_slots m_thrown g_many g_loss g_less g_voteValue g_voteNumber g_allValue g_allNumber m_allMany g_nodeL g_nodeR m_nodes g_part m_partMany g_wasMany g_wasLoss g_wasValue g_wasNumber g_path m_pathMany g_heavyValue g_heavyTimes m_heavyMany g_fewest g_which g_met m_mostMet, kx_a g_row cyI 160 f, kx_a g_which cyI 160 fw, kx_a g_met cyI 160 fq] U.heap ∧ va_K (dC, dI) vwCl [(cyI, .int)] U ∧ va_D (fun _ => True) [kx_5 h0 g_row m_n m_slots m_thrown g_many g_loss g_less g_voteValue g_voteNumber g_allValue g_allNumber m_allMany g_nodeL g_nodeR m_nodes g_part m_partMany g_wasMany g_wasLoss g_wasValue g_wasNumber g_path m_pathMany g_heavyValue g_heavyTimes m_heavyMany g_fewest g_which g_met m_mostMet, kx_a g_row cyI 160 f, kx_a g_which cyI 160 fw, kx_a g_met cyI 160 fq])) (va_Qi (fun (r : Int32) (u : Int32 × (Nat → Int32) × (Nat → Int32)) => True) (fun (u : Int32 × (Nat → Int32) × (Nat → Int32)) (t : State) => va_P (dC, dI) vwCl [kx_5 h0 g_row m_n m_slots 0 g_many g_loss g_less g_voteValue g_voteNumber g_allValue g_allNumber m_allMany g_nodeL g_nodeR m_nodes g_part m_partMany g_wasMany g_wasLoss g_wasValue g_wasNumber g_path m_pathMany g_heavyValue g_heavyTimes m_heavyMany g_fewest g_which g_met u.1, kx_a g_row cyI 160 f, kx_a g_which cyI 160 u.2.1, kx_a g_met cyI 160 u.2.2] t.heap ∧ va_K (dC, dI) vwCl [(cyI, .int)] t ∧ va_D (va_A [kx_5 h0 g_row m_n m_slots m_thrown g_many g_loss g_less g_voteValue g_voteNumber g_allValue g_allNumber m_allMany g_nodeL g_nodeR m_nodes g_part m_partMany g_wasMany g_wasLoss g_wasValue g_wasNumber g_path m_pathMany g_heavyValue g_heavyTimes m_heavyMany g_fewest g_which g_met m_mostMet, kx_a g_row cyI 160 f, kx_a g_which cyI 160 fw, kx_a g_met cyI 160 fq] sz) [kx_5 h0 g_row m_n m_slots 0 g_many g_loss g_less g_voteValue g_voteNumber g_allValue g_allNumber m_allMany g_nodeL g_nodeR m_nodes g_part m_partMany g_wasMany g_wasLoss g_wasValue g_wasNumber g_path m_pathMany g_heavyValue g_heavyTimes m_heavyMany g_fewest g_which g_met u.1, kx_a g_row cyI 160 f, kx_a g_which cyI 160 u.2.1, kx_a g_met cyI 160 u.2.2]) (va_A [kx_5 h0 g_row m_n m_slots m_thrown g_many g_loss g_less g_voteValue g_voteNumber g_allValue g_allNumber m_allMany g_nodeL g_nodeR m_nodes g_part m_partMany g_wasMany g_wasLoss g_wasValue g_wasNumber g_path m_pathMany g_heavyValue g_heavyTimes m_heavyMany g_fewest g_which g_met m_mostMet, kx_a g_row cyI 160 f, kx_a g_which cyI 160 fw, kx_a g_met cyI 160 fq] sz)) 0 0 (va_A [kx_5 h0 g_row m_n m_slots m_thrown g_many g_loss g_less g_voteValue g_voteNumber g_allValue g_allNumber m_allMany g_nodeL g_nodeR m_nodes g_part m_partMany g_wasMany g_wasLoss g_wasValue g_wasNumber g_path m_pathMany g_heavyValue g_heavyTimes m_heavyMany g_fewest g_which g_met m_mostMet, kx_a g_row cyI 160 f, kx_a g_which cyI 160 fw, kx_a g_met cyI 160 fq] sz) := by
  refine Met.ofW (cc := cX5_majorities) (maxL := 4) (ret := (some .int)) (by decide) rfl ?_
  intro p e s m args below meth c s₁ B hml hv
  obtain ⟨rfl, hsz, hP, hK, hD0⟩ := hv
  have hx := B.exec
  have hb := B.bytes
  have hr := B.returns
  have hts := atoms_spec (ws := wsX5_majorities) B.pre
  have hown : s.vm.findClass RX5 = some m.cls := findClass_of_methodNamed B.named
  have hlocks := B.notSynchronized
  subst hsz
  have hD := hD0.self (sz := s.heap.size)
  generalize hAe : va_A [kx_5 h0 g_row m_n m_slots m_thrown g_many g_loss g_less g_voteValue g_voteNumber g_allValue g_allNumber m_allMany g_nodeL g_nodeR m_nodes g_part m_partMany g_wasMany g_wasLoss g_wasValue g_wasNumber g_path m_pathMany g_heavyValue g_heavyTimes m_heavyMany g_fewest g_which g_met m_mostMet, kx_a g_row cyI 160 f, kx_a g_which cyI 160 fw, kx_a g_met cyI 160 fq] s.heap.size = A at hD ⊢
  have hA : ∀ q : Nat, s.heap.size ≤ q → A q := fun q h => by rw [← hAe]; exact Or.inr h
  have hS : va_S A s.heap s.heap [] := va_S.rf
  have hP : va_P (dC, dI) vwCl [kx_5 h0 g_row m_n m_slots m_thrown g_many g_loss g_less g_voteValue g_voteNumber g_allValue g_allNumber m_allMany g_nodeL g_nodeR m_nodes g_part m_partMany g_wasMany g_wasLoss g_wasValue g_wasNumber g_path m_pathMany g_heavyValue g_heavyTimes m_heavyMany g_fewest g_which g_met m_mostMet, kx_a g_row cyI 160 f, kx_a g_which cyI 160 fw, kx_a g_met cyI 160 fq] s.heap := hP
  have hl := lv_entry ([.ref h0]) (n := 4) (Nat.le_of_ble_eq_true rfl)
  rw [lg_entry_eq]
  generalize (lg_sl ([.ref h0]) ++ List.replicate (4 - (lg_sl ([.ref h0])).length) Slot.unset).toArray = ls at hl ⊢
  have hl : lv_has ls 4 [(0, .ref h0)] := hl
  have hf_77 := hts (.fieldLink RX5 77 "MajorityIndexModel" "thrown" "I") (List.mem_of_getElem? (i := 1) rfl)
  have hi_5 : ∀ w ∈ u_ws RX5 TX5 30, w ∈ wsX5_majorities := fun w h => List.mem_cons_of_mem _ (List.mem_append_right _ h)
  have hf_84 := hts (.fieldLink RX5 84 "MajorityIndexModel" "n" "I") (List.mem_of_getElem? (i := 2) rfl)
  refine lv_aload_n hx hb dX5_majorities_0 rfl (lv_at hl 0 rfl) ?_
  refine lv_iconst (v := 0) hx hb dX5_majorities_1 (by decide) ?_
  refine va_put (D := (dC, dI)) (ci := 5) (v := .int 0) (ty := .int) (C := RX5) (T := TX5) (N := 30) hx hb hts hi_5 tyX5 tyX5_ok nmX5 hown hK hP hD hS 0 rfl rfl 3 (by decide) hf_77 (fun _ h9 => h9) rfl (by decide +kernel) rfl rfl (Nat.le_of_ble_eq_true rfl) dX5_majorities_2 (fun H locs hP hD hS => ?_)
  have hP : va_P (dC, dI) vwCl [kx_5 h0 g_row m_n m_slots 0 g_many g_loss g_less g_voteValue g_voteNumber g_allValue g_allNumber m_allMany g_nodeL g_nodeR m_nodes g_part m_partMany g_wasMany g_wasLoss g_wasValue g_wasNumber g_path m_pathMany g_heavyValue g_heavyTimes m_heavyMany g_fewest g_which g_met m_mostMet, kx_a g_row cyI 160 f, kx_a g_which cyI 160 fw, kx_a g_met cyI 160 fq] H := hP
  have hD : va_D A [kx_5 h0 g_row m_n m_slots 0 g_many g_loss g_less g_voteValue g_voteNumber g_allValue g_allNumber m_allMany g_nodeL g_nodeR m_nodes g_part m_partMany g_wasMany g_wasLoss g_wasValue g_wasNumber g_path m_pathMany g_heavyValue g_heavyTimes m_heavyMany g_fewest g_which g_met m_mostMet, kx_a g_row cyI 160 f, kx_a g_which cyI 160 fw, kx_a g_met cyI 160 fq] := hD
  refine lv_aload_n hx hb dX5_majorities_5 rfl (lv_at hl 0 rfl) ?_
  have hPc := hP.sub (ws' := [kx_5 h0 g_row m_n m_slots 0 g_many g_loss g_less g_voteValue g_voteNumber g_allValue g_allNumber m_allMany g_nodeL g_nodeR m_nodes g_part m_partMany g_wasMany g_wasLoss g_wasValue g_wasNumber g_path m_pathMany g_heavyValue g_heavyTimes m_heavyMany g_fewest g_which g_met m_mostMet, kx_a g_row cyI 160 f, kx_a g_which cyI 160 fw]) [0, 1, 2] rfl
  have hKc := hK
  have hDc := hD.sub (ws' := [kx_5 h0 g_row m_n m_slots 0 g_many g_loss g_less g_voteValue g_voteNumber g_allValue g_allNumber m_allMany g_nodeL g_nodeR m_nodes g_part m_partMany g_wasMany g_wasLoss g_wasValue g_wasNumber g_path m_pathMany g_heavyValue g_heavyTimes m_heavyMany g_fewest g_which g_met m_mostMet, kx_a g_row cyI 160 f, kx_a g_which cyI 160 fw]) [0, 1, 2] (by decide) rfl
  have hFc := va_free (wc := [kx_5 h0 g_row m_n m_slots 0 g_many g_loss g_less g_voteValue g_voteNumber g_allValue g_allNumber m_allMany g_nodeL g_nodeR m_nodes g_part m_partMany g_wasMany g_wasLoss g_wasValue g_wasNumber g_path m_pathMany g_heavyValue g_heavyTimes m_heavyMany g_fewest g_which g_met m_mostMet, kx_a g_row cyI 160 f, kx_a g_which cyI 160 fw]) hD hS hA [0, 1, 2] rfl
  refine va_callv (va_runV (As := []) (rest := []) ⟨hx, hb, hml, hown, hts⟩ (c_X5_laysNumbers l dC dI h0 g_row g_many g_loss g_less g_voteValue g_voteNumber g_allValue g_allNumber g_nodeL g_nodeR g_part g_wasMany g_wasLoss g_wasValue g_wasNumber g_path g_heavyValue g_heavyTimes g_fewest g_which g_met m_n m_slots 0 m_allMany m_nodes m_partMany m_pathMany m_heavyMany m_mostMet cyI f fw H.size a0 a1) (cwV 0 hts gX5_majorities_X5_laysNumbers rfl rfl rfl (by decide +kernel) ⟨Nat.le_of_ble_eq_true rfl, Nat.le_of_ble_eq_true rfl⟩) ⟨fun a U g mk q => by obtain ⟨q0, q1, qP, qK, qD⟩ := q; exact ⟨q0, q1, qP, va_K.moved (u := U) (U := U.calling g mk a) (Vm.Alike.refl U.vm) qK, qD⟩, va_recv hKc hPc (ci := 5) (q0 := 0) rfl rfl, fun U hU hW => ⟨rfl, by rw [hU], by rw [hU]; exact hPc, va_K.moved hW.alike hKc, hDc.weaken (fun _ _ _ _ => trivial)⟩⟩ rfl rfl hl.1 rfl (lv_room (Nat.le_of_ble_eq_true rfl)) dX5_majorities_6 ⟨Nat.le_of_ble_eq_true rfl, Nat.le_of_ble_eq_true rfl⟩) hS (fun q _ h => hFc q h) hFc (fun u t H1 locs ht hvm w_1 hB hz1 hk1 hS => ?_)
  obtain ⟨o_2, rfl⟩ : ∃ z, z = u := ⟨_, rfl⟩
  obtain ⟨hP1, hK1, hD1⟩ := hB
  rw [ht] at hP1
  have hK1 := va_K.moved hvm.symm hK1
  obtain ⟨hP, hD⟩ := va_join (wr := [kx_a g_met cyI 160 fq]) (w1 := [kx_5 h0 g_row m_n m_slots 0 g_many g_loss g_less g_voteValue g_voteNumber g_allValue g_allNumber m_allMany g_nodeL g_nodeR m_nodes g_part m_partMany g_wasMany g_wasLoss g_wasValue g_wasNumber g_path m_pathMany g_heavyValue g_heavyTimes m_heavyMany g_fewest g_which g_met m_mostMet, kx_a g_row cyI 160 f, kx_a g_which cyI 160 o_2]) hP hD [0, 1, 2] [3] rfl rfl (by decide) (by decide) hk1 hFc hP1 hD1
  clear hP1 hD1 hK1 hk1 hz1 hFc hDc hPc hKc
  generalize H1 = H at hP hS ⊢
  have hP : va_P (dC, dI) vwCl [kx_a g_met cyI 160 fq, kx_5 h0 g_row m_n m_slots 0 g_many g_loss g_less g_voteValue g_voteNumber g_allValue g_allNumber m_allMany g_nodeL g_nodeR m_nodes g_part m_partMany g_wasMany g_wasLoss g_wasValue g_wasNumber g_path m_pathMany g_heavyValue g_heavyTimes m_heavyMany g_fewest g_which g_met m_mostMet, kx_a g_row cyI 160 f, kx_a g_which cyI 160 o_2] H := hP
  have hD : va_D A [kx_a g_met cyI 160 fq, kx_5 h0 g_row m_n m_slots 0 g_many g_loss g_less g_voteValue g_voteNumber g_allValue g_allNumber m_allMany g_nodeL g_nodeR m_nodes g_part m_partMany g_wasMany g_wasLoss g_wasValue g_wasNumber g_path m_pathMany g_heavyValue g_heavyTimes m_heavyMany g_fewest g_which g_met m_mostMet, kx_a g_row cyI 160 f, kx_a g_which cyI 160 o_2] := hD
  have w_1 : kindOk o_2 m_n.toInt := w_1
  refine lv_iconst (v := 0) hx hb dX5_majorities_9 (by decide) ?_
  refine lv_istore_n (lv' := [(1, .int 0), (0, .ref h0)]) hx hb dX5_majorities_10 rfl hl (by decide) rfl (fun ls hl => ?_)
  refine lv_iconst (v := 0) hx hb dX5_majorities_11 (by decide) ?_
  refine lv_istore_n (lv' := [(2, .int 0), (1, .int 0), (0, .ref h0)]) hx hb dX5_majorities_12 rfl hl (by decide) rfl (fun ls hl => ?_)
  have LP1 : ∀ (n : Nat) (i : Int32) (sm : Int32) (y_mm : Int32) (y_q : Nat → Int32), (0 ≤ i.toInt) → (m_n.toInt - i.toInt).toNat < n → ∀ (H : Heap) (locs : List Loc), va_P (dC, dI) vwCl [kx_a g_met cyI 160 y_q, kx_5 h0 g_row m_n m_slots 0 g_many g_loss g_less g_voteValue g_voteNumber g_allValue g_allNumber m_allMany g_nodeL g_nodeR m_nodes g_part m_partMany g_wasMany g_wasLoss g_wasValue g_wasNumber g_path m_pathMany g_heavyValue g_heavyTimes m_heavyMany g_fewest g_which g_met y_mm, kx_a g_row cyI 160 f, kx_a g_which cyI 160 o_2] H → va_D A [kx_a g_met cyI 160 y_q, kx_5 h0 g_row m_n m_slots 0 g_many g_loss g_less g_voteValue g_voteNumber g_allValue g_allNumber m_allMany g_nodeL g_nodeR m_nodes g_part m_partMany g_wasMany g_wasLoss g_wasValue g_wasNumber g_path m_pathMany g_heavyValue g_heavyTimes m_heavyMany g_fewest g_which g_met y_mm, kx_a g_row cyI 160 f, kx_a g_which cyI 160 o_2] → va_S A s.heap H locs → ∀ (ls : Array Slot), lv_has ls 4 [(2, .int i), (1, .int sm), (0, .ref h0)] → W p l e (headSpec wsX5_majorities ({ frames := 1, cells := 0, slots := 0, locals := 45 })).room s m ([.ref h0] : List Value).toArray below meth c H locs 0 0 (MQ below (va_Qi (fun (r : Int32) (u : Int32 × (Nat → Int32) × (Nat → Int32)) => True) (fun (u : Int32 × (Nat → Int32) × (Nat → Int32)) (t : State) => va_P (dC, dI) vwCl [kx_5 h0 g_row m_n m_slots 0 g_many g_loss g_less g_voteValue g_voteNumber g_allValue g_allNumber m_allMany g_nodeL g_nodeR m_nodes g_part m_partMany g_wasMany g_wasLoss g_wasValue g_wasNumber g_path m_pathMany g_heavyValue g_heavyTimes m_heavyMany g_fewest g_which g_met u.1, kx_a g_row cyI 160 f, kx_a g_which cyI 160 u.2.1, kx_a g_met cyI 160 u.2.2] t.heap ∧ va_K (dC, dI) vwCl [(cyI, .int)] t ∧ va_D A [kx_5 h0 g_row m_n m_slots 0 g_many g_loss g_less g_voteValue g_voteNumber g_allValue g_allNumber m_allMany g_nodeL g_nodeR m_nodes g_part m_partMany g_wasMany g_wasLoss g_wasValue g_wasNumber g_path m_pathMany g_heavyValue g_heavyTimes m_heavyMany g_fewest g_which g_met u.1, kx_a g_row cyI 160 f, kx_a g_which cyI 160 u.2.1, kx_a g_met cyI 160 u.2.2]) A) ([.ref h0] : List Value).toArray s 0 0 A) (F0 m 13 ls []) := by
    intro n
    induction n with
    | zero => intro i sm y_mm y_q LP1_h0 hn; exact absurd hn (Nat.not_lt_zero _)
    | succ n ih1 =>
      intro i sm y_mm y_q LP1_h0 hn1 H locs hP hD hS ls hl
      refine lv_iload_n hx hb dX5_majorities_13 rfl (lv_at hl 0 rfl) ?_
      refine lv_aload_n hx hb dX5_majorities_14 rfl (lv_at hl 2 rfl) ?_
      refine va_get (D := (dC, dI)) (ci := 5) (v := .int m_n) (C := RX5) (T := TX5) (N := 30) hx hb hts hi_5 hown hK hP 1 rfl rfl 1 (by decide) hf_84 (fun _ h9 => h9) rfl dX5_majorities_15 ?_
      refine lv_icmp_ge (tgt := 61) hx hb dX5_majorities_18 (by decide) (fun c_3 => ?_) (fun c_3 => ?_)
      · have i_3 : m_n.toInt ≤ i.toInt := kc_le c_3
        refine lv_iload_n hx hb dX5_majorities_61 rfl (lv_at hl 1 rfl) ?_
        have hP9 := hP.sub (ws' := [kx_5 h0 g_row m_n m_slots 0 g_many g_loss g_less g_voteValue g_voteNumber g_allValue g_allNumber m_allMany g_nodeL g_nodeR m_nodes g_part m_partMany g_wasMany g_wasLoss g_wasValue g_wasNumber g_path m_pathMany g_heavyValue g_heavyTimes m_heavyMany g_fewest g_which g_met y_mm, kx_a g_row cyI 160 f, kx_a g_which cyI 160 o_2, kx_a g_met cyI 160 y_q]) [1, 2, 3, 0] rfl
        have hD9 := hD.sub (ws' := [kx_5 h0 g_row m_n m_slots 0 g_many g_loss g_less g_voteValue g_voteNumber g_allValue g_allNumber m_allMany g_nodeL g_nodeR m_nodes g_part m_partMany g_wasMany g_wasLoss g_wasValue g_wasNumber g_path m_pathMany g_heavyValue g_heavyTimes m_heavyMany g_fewest g_which g_met y_mm, kx_a g_row cyI 160 f, kx_a g_which cyI 160 o_2, kx_a g_met cyI 160 y_q]) [1, 2, 3, 0] (by decide) rfl
        have hK9 := hK
        exact W.iret (v := sm) hx hb hr (fun t ht hW => ⟨⟨sm, (y_mm, o_2, y_q), rfl, trivial, by rw [ht]; exact hP9, va_K.moved hW.alike hK9, hD9⟩, hS.F ht⟩) hS.2.2 dX5_majorities_62
      · have i_3 : i.toInt < m_n.toInt := kc_nle c_3
        refine lv_aload_n hx hb dX5_majorities_21 rfl (lv_at hl 2 rfl) ?_
        have hPc := hP.sub (ws' := [kx_5 h0 g_row m_n m_slots 0 g_many g_loss g_less g_voteValue g_voteNumber g_allValue g_allNumber m_allMany g_nodeL g_nodeR m_nodes g_part m_partMany g_wasMany g_wasLoss g_wasValue g_wasNumber g_path m_pathMany g_heavyValue g_heavyTimes m_heavyMany g_fewest g_which g_met y_mm, kx_a g_met cyI 160 y_q]) [1, 0] rfl
        have hKc := hK
        have hDc := hD.sub (ws' := [kx_5 h0 g_row m_n m_slots 0 g_many g_loss g_less g_voteValue g_voteNumber g_allValue g_allNumber m_allMany g_nodeL g_nodeR m_nodes g_part m_partMany g_wasMany g_wasLoss g_wasValue g_wasNumber g_path m_pathMany g_heavyValue g_heavyTimes m_heavyMany g_fewest g_which g_met y_mm, kx_a g_met cyI 160 y_q]) [1, 0] (by decide) rfl
        have hFc := va_free (wc := [kx_5 h0 g_row m_n m_slots 0 g_many g_loss g_less g_voteValue g_voteNumber g_allValue g_allNumber m_allMany g_nodeL g_nodeR m_nodes g_part m_partMany g_wasMany g_wasLoss g_wasValue g_wasNumber g_path m_pathMany g_heavyValue g_heavyTimes m_heavyMany g_fewest g_which g_met y_mm, kx_a g_met cyI 160 y_q]) hD hS hA [1, 0] rfl
        refine va_callv (va_runV (As := []) (rest := []) ⟨hx, hb, hml, hown, hts⟩ (c_X5_begins l dC dI h0 g_row g_many g_loss g_less g_voteValue g_voteNumber g_allValue g_allNumber g_nodeL g_nodeR g_part g_wasMany g_wasLoss g_wasValue g_wasNumber g_path g_heavyValue g_heavyTimes g_fewest g_which g_met m_n m_slots 0 m_allMany m_nodes m_partMany m_pathMany m_heavyMany y_mm cyI y_q H.size a0 a1) (cwV 0 hts gX5_majorities_X5_begins rfl rfl rfl (by decide +kernel) ⟨Nat.le_of_ble_eq_true rfl, Nat.le_of_ble_eq_true rfl⟩) ⟨fun a U g mk q => by obtain ⟨q0, q1, qP, qK, qD⟩ := q; exact ⟨q0, q1, qP, va_K.moved (u := U) (U := U.calling g mk a) (Vm.Alike.refl U.vm) qK, qD⟩, va_recv hKc hPc (ci := 5) (q0 := 0) rfl rfl, fun U hU hW => ⟨rfl, by rw [hU], by rw [hU]; exact hPc, va_K.moved hW.alike hKc, hDc.weaken (fun _ _ _ _ => trivial)⟩⟩ rfl rfl hl.1 rfl (lv_room (Nat.le_of_ble_eq_true rfl)) dX5_majorities_22 ⟨Nat.le_of_ble_eq_true rfl, Nat.le_of_ble_eq_true rfl⟩) hS (fun q _ h => hFc q h) hFc (fun u t H1 locs ht hvm w_4 hB hz1 hk1 hS => ?_)
        obtain ⟨o_5, rfl⟩ : ∃ z, z = u := ⟨_, rfl⟩
        obtain ⟨hP1, hK1, hD1⟩ := hB
        rw [ht] at hP1
        have hK1 := va_K.moved hvm.symm hK1
        obtain ⟨hP, hD⟩ := va_join (wr := [kx_a g_row cyI 160 f, kx_a g_which cyI 160 o_2]) (w1 := [kx_5 h0 g_row m_n m_slots 0 g_many g_loss g_less g_voteValue g_voteNumber g_allValue g_allNumber m_allMany g_nodeL g_nodeR m_nodes g_part m_partMany g_wasMany g_wasLoss g_wasValue g_wasNumber g_path m_pathMany g_heavyValue g_heavyTimes m_heavyMany g_fewest g_which g_met 0, kx_a g_met cyI 160 o_5]) hP hD [1, 0] [2, 3] rfl rfl (by decide) (by decide) hk1 hFc hP1 hD1
        clear hP1 hD1 hK1 hk1 hz1 hFc hDc hPc hKc
        generalize H1 = H at hP hS ⊢
        have hP : va_P (dC, dI) vwCl [kx_a g_row cyI 160 f, kx_a g_which cyI 160 o_2, kx_5 h0 g_row m_n m_slots 0 g_many g_loss g_less g_voteValue g_voteNumber g_allValue g_allNumber m_allMany g_nodeL g_nodeR m_nodes g_part m_partMany g_wasMany g_wasLoss g_wasValue g_wasNumber g_path m_pathMany g_heavyValue g_heavyTimes m_heavyMany g_fewest g_which g_met 0, kx_a g_met cyI 160 o_5] H := hP
        have hD : va_D A [kx_a g_row cyI 160 f, kx_a g_which cyI 160 o_2, kx_5 h0 g_row m_n m_slots 0 g_many g_loss g_less g_voteValue g_voteNumber g_allValue g_allNumber m_allMany g_nodeL g_nodeR m_nodes g_part m_partMany g_wasMany g_wasLoss g_wasValue g_wasNumber g_path m_pathMany g_heavyValue g_heavyTimes m_heavyMany g_fewest g_which g_met 0, kx_a g_met cyI 160 o_5] := hD
        have w_4 : True := w_4
        refine lv_iload_n hx hb dX5_majorities_25 rfl (lv_at hl 0 rfl) ?_
        refine lv_iconst (v := 1) hx hb dX5_majorities_26 (by decide) ?_
        refine lv_iadd hx hb dX5_majorities_27 ?_
        refine lv_topi (fun y_6 ey_6 => ?_)
        have i_6 : y_6.toInt = i.toInt + 1 := ki_add ey_6 rfl rfl (om_10 LP1_h0) (om_3 a1 i_3)
        refine lv_istore_n (lv' := [(3, .int y_6), (2, .int i), (1, .int sm), (0, .ref h0)]) hx hb dX5_majorities_28 rfl hl (by decide) rfl (fun ls hl => ?_)
        have LP2 : ∀ (n : Nat) (j : Int32) (sm2 : Int32) (z_mm : Int32) (z_q : Nat → Int32), (1 ≤ j.toInt) → (m_n.toInt + 1 - j.toInt).toNat < n → ∀ (H : Heap) (locs : List Loc), va_P (dC, dI) vwCl [kx_a g_row cyI 160 f, kx_a g_which cyI 160 o_2, kx_5 h0 g_row m_n m_slots 0 g_many g_loss g_less g_voteValue g_voteNumber g_allValue g_allNumber m_allMany g_nodeL g_nodeR m_nodes g_part m_partMany g_wasMany g_wasLoss g_wasValue g_wasNumber g_path m_pathMany g_heavyValue g_heavyTimes m_heavyMany g_fewest g_which g_met z_mm, kx_a g_met cyI 160 z_q] H → va_D A [kx_a g_row cyI 160 f, kx_a g_which cyI 160 o_2, kx_5 h0 g_row m_n m_slots 0 g_many g_loss g_less g_voteValue g_voteNumber g_allValue g_allNumber m_allMany g_nodeL g_nodeR m_nodes g_part m_partMany g_wasMany g_wasLoss g_wasValue g_wasNumber g_path m_pathMany g_heavyValue g_heavyTimes m_heavyMany g_fewest g_which g_met z_mm, kx_a g_met cyI 160 z_q] → va_S A s.heap H locs → ∀ (ls : Array Slot), lv_has ls 4 [(3, .int j), (2, .int i), (1, .int sm2), (0, .ref h0)] → W p l e (headSpec wsX5_majorities ({ frames := 1, cells := 0, slots := 0, locals := 45 })).room s m ([.ref h0] : List Value).toArray below meth c H locs 0 0 (MQ below (va_Qi (fun (r : Int32) (u : Int32 × (Nat → Int32) × (Nat → Int32)) => True) (fun (u : Int32 × (Nat → Int32) × (Nat → Int32)) (t : State) => va_P (dC, dI) vwCl [kx_5 h0 g_row m_n m_slots 0 g_many g_loss g_less g_voteValue g_voteNumber g_allValue g_allNumber m_allMany g_nodeL g_nodeR m_nodes g_part m_partMany g_wasMany g_wasLoss g_wasValue g_wasNumber g_path m_pathMany g_heavyValue g_heavyTimes m_heavyMany g_fewest g_which g_met u.1, kx_a g_row cyI 160 f, kx_a g_which cyI 160 u.2.1, kx_a g_met cyI 160 u.2.2] t.heap ∧ va_K (dC, dI) vwCl [(cyI, .int)] t ∧ va_D A [kx_5 h0 g_row m_n m_slots 0 g_many g_loss g_less g_voteValue g_voteNumber g_allValue g_allNumber m_allMany g_nodeL g_nodeR m_nodes g_part m_partMany g_wasMany g_wasLoss g_wasValue g_wasNumber g_path m_pathMany g_heavyValue g_heavyTimes m_heavyMany g_fewest g_which g_met u.1, kx_a g_row cyI 160 f, kx_a g_which cyI 160 u.2.1, kx_a g_met cyI 160 u.2.2]) A) ([.ref h0] : List Value).toArray s 0 0 A) (F0 m 29 ls []) := by
          intro n
          induction n with
          | zero => intro j sm2 z_mm z_q LP2_h0 hn; exact absurd hn (Nat.not_lt_zero _)
          | succ n ih2 =>
            intro j sm2 z_mm z_q LP2_h0 hn2 H locs hP hD hS ls hl
            refine lv_iload_n hx hb dX5_majorities_29 rfl (lv_at hl 0 rfl) ?_
            refine lv_aload_n hx hb dX5_majorities_30 rfl (lv_at hl 3 rfl) ?_
            refine va_get (D := (dC, dI)) (ci := 5) (v := .int m_n) (C := RX5) (T := TX5) (N := 30) hx hb hts hi_5 hown hK hP 2 rfl rfl 1 (by decide) hf_84 (fun _ h9 => h9) rfl dX5_majorities_31 ?_
            refine lv_icmp_gt (tgt := 55) hx hb dX5_majorities_34 (by decide) (fun c_7 => ?_) (fun c_7 => ?_)
            · have i_7 : m_n.toInt < j.toInt := kc_lt c_7
              obtain ⟨x_8, ex_8⟩ : ∃ y : Int32, y = i + 1 := ⟨_, rfl⟩
              have i_8 : x_8.toInt = i.toInt + 1 := ki_add ex_8 rfl rfl (om_10 LP1_h0) (om_3 a1 i_3)
              refine lv_iinc (v := x_8) (lv' := [(2, .int x_8), (3, .int j), (1, .int sm2), (0, .ref h0)]) hx hb dX5_majorities_55 hl (k := 1) rfl (by rw [ex_8]; rfl) (by decide) rfl (fun ls hl => ?_)
              refine lv_goto (tgt := 13) hx hb dX5_majorities_58 (by decide) ?_
              have hP : va_P (dC, dI) vwCl [kx_a g_met cyI 160 z_q, kx_5 h0 g_row m_n m_slots 0 g_many g_loss g_less g_voteValue g_voteNumber g_allValue g_allNumber m_allMany g_nodeL g_nodeR m_nodes g_part m_partMany g_wasMany g_wasLoss g_wasValue g_wasNumber g_path m_pathMany g_heavyValue g_heavyTimes m_heavyMany g_fewest g_which g_met z_mm, kx_a g_row cyI 160 f, kx_a g_which cyI 160 o_2] _ := hP.sub [3, 2, 0, 1] rfl
              have hD : va_D A [kx_a g_met cyI 160 z_q, kx_5 h0 g_row m_n m_slots 0 g_many g_loss g_less g_voteValue g_voteNumber g_allValue g_allNumber m_allMany g_nodeL g_nodeR m_nodes g_part m_partMany g_wasMany g_wasLoss g_wasValue g_wasNumber g_path m_pathMany g_heavyValue g_heavyTimes m_heavyMany g_fewest g_which g_met z_mm, kx_a g_row cyI 160 f, kx_a g_which cyI 160 o_2] := hD.sub [3, 2, 0, 1] (by decide) rfl
              exact ih1 x_8 sm2 z_mm z_q (om_31 LP1_h0 i_8) (om_mu hn1 (om_5 i_8) (om_6 i_3)) _ _ hP hD hS ls (lv_sub hl [0, 2, 3] rfl)
            · have i_7 : j.toInt ≤ m_n.toInt := kc_nlt c_7
              refine lv_aload_n hx hb dX5_majorities_37 rfl (lv_at hl 3 rfl) ?_
              refine lv_iload_n hx hb dX5_majorities_38 rfl (lv_at hl 0 rfl) ?_
              refine lv_iload_n hx hb dX5_majorities_39 rfl (lv_at hl 1 rfl) ?_
              have hPc := hP.sub (ws' := [kx_5 h0 g_row m_n m_slots 0 g_many g_loss g_less g_voteValue g_voteNumber g_allValue g_allNumber m_allMany g_nodeL g_nodeR m_nodes g_part m_partMany g_wasMany g_wasLoss g_wasValue g_wasNumber g_path m_pathMany g_heavyValue g_heavyTimes m_heavyMany g_fewest g_which g_met z_mm, kx_a g_which cyI 160 o_2, kx_a g_met cyI 160 z_q]) [2, 1, 3] rfl
              have hKc := hK
              have hDc := hD.sub (ws' := [kx_5 h0 g_row m_n m_slots 0 g_many g_loss g_less g_voteValue g_voteNumber g_allValue g_allNumber m_allMany g_nodeL g_nodeR m_nodes g_part m_partMany g_wasMany g_wasLoss g_wasValue g_wasNumber g_path m_pathMany g_heavyValue g_heavyTimes m_heavyMany g_fewest g_which g_met z_mm, kx_a g_which cyI 160 o_2, kx_a g_met cyI 160 z_q]) [2, 1, 3] (by decide) rfl
              have hFc := va_free (wc := [kx_5 h0 g_row m_n m_slots 0 g_many g_loss g_less g_voteValue g_voteNumber g_allValue g_allNumber m_allMany g_nodeL g_nodeR m_nodes g_part m_partMany g_wasMany g_wasLoss g_wasValue g_wasNumber g_path m_pathMany g_heavyValue g_heavyTimes m_heavyMany g_fewest g_which g_met z_mm, kx_a g_which cyI 160 o_2, kx_a g_met cyI 160 z_q]) hD hS hA [2, 1, 3] rfl
              refine va_calli (va_runV (As := [.int j, .int i]) (rest := []) ⟨hx, hb, hml, hown, hts⟩ (c_X5_goesOn l dC dI h0 g_row g_many g_loss g_less g_voteValue g_voteNumber g_allValue g_allNumber g_nodeL g_nodeR g_part g_wasMany g_wasLoss g_wasValue g_wasNumber g_path g_heavyValue g_heavyTimes g_fewest g_which g_met m_n m_slots 0 m_allMany m_nodes m_partMany m_pathMany m_heavyMany z_mm cyI o_2 z_q m_n.toInt j i H.size w_1 LP2_h0 i_7 a1) (cwV 2 hts gX5_majorities_X5_goesOn rfl rfl rfl (by decide +kernel) ⟨Nat.le_of_ble_eq_true rfl, Nat.le_of_ble_eq_true rfl⟩) ⟨fun a U g mk q => by obtain ⟨q0, q1, qP, qK, qD⟩ := q; exact ⟨q0, q1, qP, va_K.moved (u := U) (U := U.calling g mk a) (Vm.Alike.refl U.vm) qK, qD⟩, va_recv hKc hPc (ci := 5) (q0 := 0) rfl rfl, fun U hU hW => ⟨rfl, by rw [hU], by rw [hU]; exact hPc, va_K.moved hW.alike hKc, hDc.weaken (fun _ _ _ _ => trivial)⟩⟩ rfl rfl hl.1 rfl (lv_room (Nat.le_of_ble_eq_true rfl)) dX5_majorities_40 ⟨Nat.le_of_ble_eq_true rfl, Nat.le_of_ble_eq_true rfl⟩) hS (fun q _ h => hFc q h) hFc (fun r_9 u t H1 locs ht hvm w_9 hB hz1 hk1 hS => ?_)
              obtain ⟨o_10, o_11⟩ := u
              dsimp only at w_9 hB
              obtain ⟨hP1, hK1, hD1⟩ := hB
              rw [ht] at hP1
              have hK1 := va_K.moved hvm.symm hK1
              obtain ⟨hP, hD⟩ := va_join (wr := [kx_a g_row cyI 160 f]) (w1 := [kx_5 h0 g_row m_n m_slots 0 g_many g_loss g_less g_voteValue g_voteNumber g_allValue g_allNumber m_allMany g_nodeL g_nodeR m_nodes g_part m_partMany g_wasMany g_wasLoss g_wasValue g_wasNumber g_path m_pathMany g_heavyValue g_heavyTimes m_heavyMany g_fewest g_which g_met o_10, kx_a g_which cyI 160 o_2, kx_a g_met cyI 160 o_11]) hP hD [2, 1, 3] [0] rfl rfl (by decide) (by decide) hk1 hFc hP1 hD1
              clear hP1 hD1 hK1 hk1 hz1 hFc hDc hPc hKc
              generalize H1 = H at hP hS ⊢
              have hP : va_P (dC, dI) vwCl [kx_a g_row cyI 160 f, kx_5 h0 g_row m_n m_slots 0 g_many g_loss g_less g_voteValue g_voteNumber g_allValue g_allNumber m_allMany g_nodeL g_nodeR m_nodes g_part m_partMany g_wasMany g_wasLoss g_wasValue g_wasNumber g_path m_pathMany g_heavyValue g_heavyTimes m_heavyMany g_fewest g_which g_met o_10, kx_a g_which cyI 160 o_2, kx_a g_met cyI 160 o_11] H := hP
              have hD : va_D A [kx_a g_row cyI 160 f, kx_5 h0 g_row m_n m_slots 0 g_many g_loss g_less g_voteValue g_voteNumber g_allValue g_allNumber m_allMany g_nodeL g_nodeR m_nodes g_part m_partMany g_wasMany g_wasLoss g_wasValue g_wasNumber g_path m_pathMany g_heavyValue g_heavyTimes m_heavyMany g_fewest g_which g_met o_10, kx_a g_which cyI 160 o_2, kx_a g_met cyI 160 o_11] := hD
              have w_9 : r_9 = 1 ∨ r_9 = 0 := w_9
              refine lv_if_eq (tgt := 49) hx hb dX5_majorities_43 (by decide) (fun c_12 => ?_) (fun c_12 => ?_)
              · have i_12 : r_9.toInt = 0 := kc_eq c_12
                obtain ⟨x_13, ex_13⟩ : ∃ y : Int32, y = j + 1 := ⟨_, rfl⟩
                have i_13 : x_13.toInt = j.toInt + 1 := ki_add ex_13 rfl rfl (om_33 LP2_h0) (om_159 a1 i_7)
                refine lv_iinc (v := x_13) (lv' := [(3, .int x_13), (2, .int i), (1, .int sm2), (0, .ref h0)]) hx hb dX5_majorities_49 hl (k := 0) rfl (by rw [ex_13]; rfl) (by decide) rfl (fun ls hl => ?_)
                refine lv_goto (tgt := 29) hx hb dX5_majorities_52 (by decide) ?_
                have hP : va_P (dC, dI) vwCl [kx_a g_row cyI 160 f, kx_a g_which cyI 160 o_2, kx_5 h0 g_row m_n m_slots 0 g_many g_loss g_less g_voteValue g_voteNumber g_allValue g_allNumber m_allMany g_nodeL g_nodeR m_nodes g_part m_partMany g_wasMany g_wasLoss g_wasValue g_wasNumber g_path m_pathMany g_heavyValue g_heavyTimes m_heavyMany g_fewest g_which g_met o_10, kx_a g_met cyI 160 o_11] _ := hP.sub [0, 2, 1, 3] rfl
                have hD : va_D A [kx_a g_row cyI 160 f, kx_a g_which cyI 160 o_2, kx_5 h0 g_row m_n m_slots 0 g_many g_loss g_less g_voteValue g_voteNumber g_allValue g_allNumber m_allMany g_nodeL g_nodeR m_nodes g_part m_partMany g_wasMany g_wasLoss g_wasValue g_wasNumber g_path m_pathMany g_heavyValue g_heavyTimes m_heavyMany g_fewest g_which g_met o_10, kx_a g_met cyI 160 o_11] := hD.sub [0, 2, 1, 3] (by decide) rfl
                exact ih2 x_13 sm2 o_10 o_11 (om_34 LP2_h0 i_13) (om_mu hn2 (om_160 i_13) (om_161 i_7)) _ _ hP hD hS ls (lv_sub hl [0, 1, 2, 3] rfl)
              · have i_12 : ¬ r_9.toInt = 0 := kc_ne c_12
                obtain ⟨x_14, ex_14⟩ : ∃ y : Int32, y = sm2 + 1 := ⟨_, rfl⟩
                refine lv_iinc (v := x_14) (lv' := [(1, .int x_14), (3, .int j), (2, .int i), (0, .ref h0)]) hx hb dX5_majorities_46 hl (k := 2) rfl (by rw [ex_14]; rfl) (by decide) rfl (fun ls hl => ?_)
                obtain ⟨x_15, ex_15⟩ : ∃ y : Int32, y = j + 1 := ⟨_, rfl⟩
                have i_15 : x_15.toInt = j.toInt + 1 := ki_add ex_15 rfl rfl (om_33 LP2_h0) (om_159 a1 i_7)
                refine lv_iinc (v := x_15) (lv' := [(3, .int x_15), (1, .int x_14), (2, .int i), (0, .ref h0)]) hx hb dX5_majorities_49 hl (k := 1) rfl (by rw [ex_15]; rfl) (by decide) rfl (fun ls hl => ?_)
                refine lv_goto (tgt := 29) hx hb dX5_majorities_52 (by decide) ?_
                have hP : va_P (dC, dI) vwCl [kx_a g_row cyI 160 f, kx_a g_which cyI 160 o_2, kx_5 h0 g_row m_n m_slots 0 g_many g_loss g_less g_voteValue g_voteNumber g_allValue g_allNumber m_allMany g_nodeL g_nodeR m_nodes g_part m_partMany g_wasMany g_wasLoss g_wasValue g_wasNumber g_path m_pathMany g_heavyValue g_heavyTimes m_heavyMany g_fewest g_which g_met o_10, kx_a g_met cyI 160 o_11] _ := hP.sub [0, 2, 1, 3] rfl
                have hD : va_D A [kx_a g_row cyI 160 f, kx_a g_which cyI 160 o_2, kx_5 h0 g_row m_n m_slots 0 g_many g_loss g_less g_voteValue g_voteNumber g_allValue g_allNumber m_allMany g_nodeL g_nodeR m_nodes g_part m_partMany g_wasMany g_wasLoss g_wasValue g_wasNumber g_path m_pathMany g_heavyValue g_heavyTimes m_heavyMany g_fewest g_which g_met o_10, kx_a g_met cyI 160 o_11] := hD.sub [0, 2, 1, 3] (by decide) rfl
                exact ih2 x_15 x_14 o_10 o_11 (om_34 LP2_h0 i_15) (om_mu hn2 (om_160 i_15) (om_161 i_7)) _ _ hP hD hS ls (lv_sub hl [0, 2, 1, 3] rfl)
        have k_16 : (0 : Int32).toInt = 0 := rfl
        exact LP2 ((m_n.toInt + 1 - y_6.toInt : Int).toNat + 1) y_6 sm 0 o_5 (om_162 LP1_h0 i_6) (Nat.lt_succ_self _) _ _ hP hD hS ls (lv_sub hl [0, 1, 2, 3] rfl)
  have k_17 : (0 : Int32).toInt = 0 := rfl
  have k_18 : (0 : Int32).toInt = 0 := rfl
  exact LP1 ((m_n.toInt - 0 : Int).toNat + 1) 0 0 m_mostMet fq om_32 (Nat.lt_succ_self _) _ _ hP hD hS ls (lv_sub hl [0, 1, 2] rfl)

set_option maxHeartbeats 4000000 in
set_option maxRecDepth 100000 in
theorem c_X5_parted (l : Launch) (dC : Nat → ClassId) (dI : Nat → Nat → Nat) (h0 : Nat) (g_row : Nat) (g_many : Nat) (g_loss : Nat) (g_less : Nat) (g_voteValue : Nat) (g_voteNumber : Nat) (g_allValue : Nat) (g_allNumber : Nat) (g_nodeL : Nat) (g_nodeR : Nat) (g_part : Nat) (g_wasMany : Nat) (g_wasLoss : Nat) (g_wasValue : Nat) (g_wasNumber : Nat) (g_path : Nat) (g_heavyValue : Nat) (g_heavyTimes : Nat) (g_fewest : Nat) (g_which : Nat) (g_met : Nat) (m_n : Int32) (m_slots : Int32) (m_thrown : Int32) (m_allMany : Int32) (m_nodes : Int32) (m_partMany : Int32) (m_pathMany : Int32) (m_heavyMany : Int32) (m_mostMet : Int32) (cyI : ClassId) (f : Nat → Int32) (fw : Nat → Int32) (fq : Nat → Int32) (fz : Nat → Int32) (p0 : Int32) (p1 : Int32) (sz : Nat) (a0 : 0 ≤ m_n.toInt) (a1 : m_n.toInt ≤ 160) : Met l yX5_parted wsX5_parted ({ frames := 1, cells := 0, slots := 0, locals := 45 }) (va_Pc [.ref h0, .int p0, .int p1] (fun U => U.heap.size = sz ∧ va_P (dC, dI) vwCl [kx_5 h0 g_row m_n m_slots m_thrown g_many g_loss g_less g_voteValue g_voteNumber g_allValue g_allNumber m_allMany g_nodeL g_nodeR m_nodes g_part m_partMany g_wasMany g_wasLoss g_wasValue g_wasNumber g_path m_pathMany g_heavyValue g_heavyTimes m_heavyMany g_fewest g_which g_met m_mostMet, kx_a g_row cyI 160 f, kx_a g_which cyI 160 fw, kx_a g_met cyI 160 fq, kx_a g_fewest cyI 161 fz] U.heap ∧ va_K (dC, dI) vwCl [(cyI, .int)] U ∧ va_D (fun _ => True) [kx_5 h0 g_row m_n m_slots m_thrown g_many g_loss g_less g_voteValue g_voteNumber g_allValue g_allNumber m_allMany g_nodeL g_nodeR m_nodes g_part m_partMany g_wasMany g_wasLoss g_wasValue g_wasNumber g_path m_pathMany g_heavyValue g_heavyTimes m_heavyMany g_fewest g_which g_met m_mostMet, kx_a g_row cyI 160 f, kx_a g_which cyI 160 fw, kx_a g_met cyI 160 fq, kx_a g_fewest cyI 161 fz])) (va_Qi (fun (r : Int32) (u : Int32 × (Nat → Int32) × (Nat → Int32) × (Nat → Int32)) => True) (fun (u : Int32 × (Nat → Int32) × (Nat → Int32) × (Nat → Int32)) (t : State) => va_P (dC, dI) vwCl [kx_5 h0 g_row m_n m_slots 0 g_many g_loss g_less g_voteValue g_voteNumber g_allValue g_allNumber m_allMany g_nodeL g_nodeR m_nodes g_part m_partMany g_wasMany g_wasLoss g_wasValue g_wasNumber g_path m_pathMany g_heavyValue g_heavyTimes m_heavyMany g_fewest g_which g_met u.1, kx_a g_row cyI 160 f, kx_a g_which cyI 160 u.2.1, kx_a g_met cyI 160 u.2.2.1, kx_a g_fewest cyI 161 u.2.2.2] t.heap ∧ va_K (dC, dI) vwCl [(cyI, .int)] t ∧ va_D (va_A [kx_5 h0 g_row m_n m_slots m_thrown g_many g_loss g_less g_voteValue g_voteNumber g_allValue g_allNumber m_allMany g_nodeL g_nodeR m_nodes g_part m_partMany g_wasMany g_wasLoss g_wasValue g_wasNumber g_path m_pathMany g_heavyValue g_heavyTimes m_heavyMany g_fewest g_which g_met m_mostMet, kx_a g_row cyI 160 f, kx_a g_which cyI 160 fw, kx_a g_met cyI 160 fq, kx_a g_fewest cyI 161 fz] sz) [kx_5 h0 g_row m_n m_slots 0 g_many g_loss g_less g_voteValue g_voteNumber g_allValue g_allNumber m_allMany g_nodeL g_nodeR m_nodes g_part m_partMany g_wasMany g_wasLoss g_wasValue g_wasNumber g_path m_pathMany g_heavyValue g_heavyTimes m_heavyMany g_fewest g_which g_met u.1, kx_a g_row cyI 160 f, kx_a g_which cyI 160 u.2.1, kx_a g_met cyI 160 u.2.2.1, kx_a g_fewest cyI 161 u.2.2.2]) (va_A [kx_5 h0 g_row m_n m_slots m_thrown g_many g_loss g_less g_voteValue g_voteNumber g_allValue g_allNumber m_allMany g_nodeL g_nodeR m_nodes g_part m_partMany g_wasMany g_wasLoss g_wasValue g_wasNumber g_path m_pathMany g_heavyValue g_heavyTimes m_heavyMany g_fewest g_which g_met m_mostMet, kx_a g_row cyI 160 f, kx_a g_which cyI 160 fw, kx_a g_met cyI 160 fq, kx_a g_fewest cyI 161 fz] sz)) 0 0 (va_A [kx_5 h0 g_row m_n m_slots m_thrown g_many g_loss g_less g_voteValue g_voteNumber g_allValue g_allNumber m_allMany g_nodeL g_nodeR m_nodes g_part m_partMany g_wasMany g_wasLoss g_wasValue g_wasNumber g_path m_pathMany g_heavyValue g_heavyTimes m_heavyMany g_fewest g_which g_met m_mostMet, kx_a g_row cyI 160 f, kx_a g_which cyI 160 fw, kx_a g_met cyI 160 fq, kx_a g_fewest cyI 161 fz] sz) := by
  refine Met.ofW (cc := cX5_parted) (maxL := 5) (ret := (some .int)) (by decide) rfl ?_
  intro p e s m args below meth c s₁ B hml hv
  obtain ⟨rfl, hsz, hP, hK, hD0⟩ := hv
  have hx := B.exec
  have hb := B.bytes
  have hr := B.returns
  have hts := atoms_spec (ws := wsX5_parted) B.pre
  have hown : s.vm.findClass RX5 = some m.cls := findClass_of_methodNamed B.named
  have hlocks := B.notSynchronized
  subst hsz
  have hD := hD0.self (sz := s.heap.size)
  generalize hAe : va_A [kx_5 h0 g_row m_n m_slots m_thrown g_many g_loss g_less g_voteValue g_voteNumber g_allValue g_allNumber m_allMany g_nodeL g_nodeR m_nodes g_part m_partMany g_wasMany g_wasLoss g_wasValue g_wasNumber g_path m_pathMany g_heavyValue g_heavyTimes m_heavyMany g_fewest g_which g_met m_mostMet, kx_a g_row cyI 160 f, kx_a g_which cyI 160 fw, kx_a g_met cyI 160 fq, kx_a g_fewest cyI 161 fz] s.heap.size = A at hD ⊢
  have hA : ∀ q : Nat, s.heap.size ≤ q → A q := fun q h => by rw [← hAe]; exact Or.inr h
  have hS : va_S A s.heap s.heap [] := va_S.rf
  have hP : va_P (dC, dI) vwCl [kx_5 h0 g_row m_n m_slots m_thrown g_many g_loss g_less g_voteValue g_voteNumber g_allValue g_allNumber m_allMany g_nodeL g_nodeR m_nodes g_part m_partMany g_wasMany g_wasLoss g_wasValue g_wasNumber g_path m_pathMany g_heavyValue g_heavyTimes m_heavyMany g_fewest g_which g_met m_mostMet, kx_a g_row cyI 160 f, kx_a g_which cyI 160 fw, kx_a g_met cyI 160 fq, kx_a g_fewest cyI 161 fz] s.heap := hP
  have hl := lv_entry ([.ref h0, .int p0, .int p1]) (n := 5) (Nat.le_of_ble_eq_true rfl)
  rw [lg_entry_eq]
  generalize (lg_sl ([.ref h0, .int p0, .int p1]) ++ List.replicate (5 - (lg_sl ([.ref h0, .int p0, .int p1])).length) Slot.unset).toArray = ls at hl ⊢
  have hl : lv_has ls 5 [(0, .ref h0), (1, .int p0), (2, .int p1)] := hl
  have hf_77 := hts (.fieldLink RX5 77 "MajorityIndexModel" "thrown" "I") (List.mem_of_getElem? (i := 1) rfl)
  have hi_5 : ∀ w ∈ u_ws RX5 TX5 30, w ∈ wsX5_parted := fun w h => List.mem_cons_of_mem _ (List.mem_append_right _ h)
  have hf_68 := hts (.fieldLink RX5 68 "MajorityIndexModel" "fewest" "[I") (List.mem_of_getElem? (i := 2) rfl)
  refine lv_aload_n hx hb dX5_parted_0 rfl (lv_at hl 0 rfl) ?_
  refine lv_iconst (v := 0) hx hb dX5_parted_1 (by decide) ?_
  refine va_put (D := (dC, dI)) (ci := 5) (v := .int 0) (ty := .int) (C := RX5) (T := TX5) (N := 30) hx hb hts hi_5 tyX5 tyX5_ok nmX5 hown hK hP hD hS 0 rfl rfl 3 (by decide) hf_77 (fun _ h9 => h9) rfl (by decide +kernel) rfl rfl (Nat.le_of_ble_eq_true rfl) dX5_parted_2 (fun H locs hP hD hS => ?_)
  have hP : va_P (dC, dI) vwCl [kx_5 h0 g_row m_n m_slots 0 g_many g_loss g_less g_voteValue g_voteNumber g_allValue g_allNumber m_allMany g_nodeL g_nodeR m_nodes g_part m_partMany g_wasMany g_wasLoss g_wasValue g_wasNumber g_path m_pathMany g_heavyValue g_heavyTimes m_heavyMany g_fewest g_which g_met m_mostMet, kx_a g_row cyI 160 f, kx_a g_which cyI 160 fw, kx_a g_met cyI 160 fq, kx_a g_fewest cyI 161 fz] H := hP
  have hD : va_D A [kx_5 h0 g_row m_n m_slots 0 g_many g_loss g_less g_voteValue g_voteNumber g_allValue g_allNumber m_allMany g_nodeL g_nodeR m_nodes g_part m_partMany g_wasMany g_wasLoss g_wasValue g_wasNumber g_path m_pathMany g_heavyValue g_heavyTimes m_heavyMany g_fewest g_which g_met m_mostMet, kx_a g_row cyI 160 f, kx_a g_which cyI 160 fw, kx_a g_met cyI 160 fq, kx_a g_fewest cyI 161 fz] := hD
  refine lv_aload_n hx hb dX5_parted_5 rfl (lv_at hl 0 rfl) ?_
  refine lv_iload_n hx hb dX5_parted_6 rfl (lv_at hl 1 rfl) ?_
  refine lv_iload_n hx hb dX5_parted_7 rfl (lv_at hl 2 rfl) ?_
  have hPc := hP.sub (ws' := [kx_5 h0 g_row m_n m_slots 0 g_many g_loss g_less g_voteValue g_voteNumber g_allValue g_allNumber m_allMany g_nodeL g_nodeR m_nodes g_part m_partMany g_wasMany g_wasLoss g_wasValue g_wasNumber g_path m_pathMany g_heavyValue g_heavyTimes m_heavyMany g_fewest g_which g_met m_mostMet]) [0] rfl
  have hKc := hK.sub (tys' := []) [] rfl
  refine vp_callSi (W.runV (As := [.int p0, .int p1]) (rest := []) ⟨hx, hb, hml, hown, hts⟩ (c_X5_isRange l dC dI h0 g_row g_many g_loss g_less g_voteValue g_voteNumber g_allValue g_allNumber g_nodeL g_nodeR g_part g_wasMany g_wasLoss g_wasValue g_wasNumber g_path g_heavyValue g_heavyTimes g_fewest g_which g_met m_n m_slots 0 m_allMany m_nodes m_partMany m_pathMany m_heavyMany m_mostMet p0 p1) (cwV 2 hts gX5_parted_X5_isRange rfl rfl rfl (by decide +kernel) ⟨Nat.le_of_ble_eq_true rfl, Nat.le_of_ble_eq_true rfl⟩) ⟨fun a U g mk q => by obtain ⟨q0, qP, qK⟩ := q; exact ⟨q0, qP, va_K.moved (u := U) (U := U.calling g mk a) (Vm.Alike.refl U.vm) qK⟩, va_recv hKc hPc (ci := 5) (q0 := 0) rfl rfl, fun U hU hW => ⟨rfl, by rw [hU]; exact hPc, va_K.moved hW.alike hKc⟩⟩ rfl rfl hl.1 rfl (lv_room (Nat.le_of_ble_eq_true rfl)) dX5_parted_8 ⟨Nat.le_of_ble_eq_true rfl, Nat.le_of_ble_eq_true rfl⟩) (fun r_1 w_1 => ?_)
  rcases w_1 with ⟨rfl, w_1⟩ | ⟨rfl, w_1⟩
  · have w_1 : (0 ≤ p0.toInt ∧ p0.toInt < p1.toInt ∧ p1.toInt ≤ m_n.toInt) := w_1
    refine lv_if_ne (tgt := 16) hx hb dX5_parted_11 (by decide) (fun c_2 => ?_) (fun c_2 => ?_)
    · refine lv_aload_n hx hb dX5_parted_16 rfl (lv_at hl 0 rfl) ?_
      have hPc := hP.sub (ws' := [kx_5 h0 g_row m_n m_slots 0 g_many g_loss g_less g_voteValue g_voteNumber g_allValue g_allNumber m_allMany g_nodeL g_nodeR m_nodes g_part m_partMany g_wasMany g_wasLoss g_wasValue g_wasNumber g_path m_pathMany g_heavyValue g_heavyTimes m_heavyMany g_fewest g_which g_met m_mostMet, kx_a g_row cyI 160 f, kx_a g_which cyI 160 fw]) [0, 1, 2] rfl
      have hKc := hK
      have hDc := hD.sub (ws' := [kx_5 h0 g_row m_n m_slots 0 g_many g_loss g_less g_voteValue g_voteNumber g_allValue g_allNumber m_allMany g_nodeL g_nodeR m_nodes g_part m_partMany g_wasMany g_wasLoss g_wasValue g_wasNumber g_path m_pathMany g_heavyValue g_heavyTimes m_heavyMany g_fewest g_which g_met m_mostMet, kx_a g_row cyI 160 f, kx_a g_which cyI 160 fw]) [0, 1, 2] (by decide) rfl
      have hFc := va_free (wc := [kx_5 h0 g_row m_n m_slots 0 g_many g_loss g_less g_voteValue g_voteNumber g_allValue g_allNumber m_allMany g_nodeL g_nodeR m_nodes g_part m_partMany g_wasMany g_wasLoss g_wasValue g_wasNumber g_path m_pathMany g_heavyValue g_heavyTimes m_heavyMany g_fewest g_which g_met m_mostMet, kx_a g_row cyI 160 f, kx_a g_which cyI 160 fw]) hD hS hA [0, 1, 2] rfl
      refine va_callv (va_runV (As := []) (rest := []) ⟨hx, hb, hml, hown, hts⟩ (c_X5_laysNumbers l dC dI h0 g_row g_many g_loss g_less g_voteValue g_voteNumber g_allValue g_allNumber g_nodeL g_nodeR g_part g_wasMany g_wasLoss g_wasValue g_wasNumber g_path g_heavyValue g_heavyTimes g_fewest g_which g_met m_n m_slots 0 m_allMany m_nodes m_partMany m_pathMany m_heavyMany m_mostMet cyI f fw H.size a0 a1) (cwV 0 hts gX5_parted_X5_laysNumbers rfl rfl rfl (by decide +kernel) ⟨Nat.le_of_ble_eq_true rfl, Nat.le_of_ble_eq_true rfl⟩) ⟨fun a U g mk q => by obtain ⟨q0, q1, qP, qK, qD⟩ := q; exact ⟨q0, q1, qP, va_K.moved (u := U) (U := U.calling g mk a) (Vm.Alike.refl U.vm) qK, qD⟩, va_recv hKc hPc (ci := 5) (q0 := 0) rfl rfl, fun U hU hW => ⟨rfl, by rw [hU], by rw [hU]; exact hPc, va_K.moved hW.alike hKc, hDc.weaken (fun _ _ _ _ => trivial)⟩⟩ rfl rfl hl.1 rfl (lv_room (Nat.le_of_ble_eq_true rfl)) dX5_parted_17 ⟨Nat.le_of_ble_eq_true rfl, Nat.le_of_ble_eq_true rfl⟩) hS (fun q _ h => hFc q h) hFc (fun u t H1 locs ht hvm w_3 hB hz1 hk1 hS => ?_)
      obtain ⟨o_4, rfl⟩ : ∃ z, z = u := ⟨_, rfl⟩
      obtain ⟨hP1, hK1, hD1⟩ := hB
      rw [ht] at hP1
      have hK1 := va_K.moved hvm.symm hK1
      obtain ⟨hP, hD⟩ := va_join (wr := [kx_a g_met cyI 160 fq, kx_a g_fewest cyI 161 fz]) (w1 := [kx_5 h0 g_row m_n m_slots 0 g_many g_loss g_less g_voteValue g_voteNumber g_allValue g_allNumber m_allMany g_nodeL g_nodeR m_nodes g_part m_partMany g_wasMany g_wasLoss g_wasValue g_wasNumber g_path m_pathMany g_heavyValue g_heavyTimes m_heavyMany g_fewest g_which g_met m_mostMet, kx_a g_row cyI 160 f, kx_a g_which cyI 160 o_4]) hP hD [0, 1, 2] [3, 4] rfl rfl (by decide) (by decide) hk1 hFc hP1 hD1
      clear hP1 hD1 hK1 hk1 hz1 hFc hDc hPc hKc
      generalize H1 = H at hP hS ⊢
      have hP : va_P (dC, dI) vwCl [kx_a g_met cyI 160 fq, kx_a g_fewest cyI 161 fz, kx_5 h0 g_row m_n m_slots 0 g_many g_loss g_less g_voteValue g_voteNumber g_allValue g_allNumber m_allMany g_nodeL g_nodeR m_nodes g_part m_partMany g_wasMany g_wasLoss g_wasValue g_wasNumber g_path m_pathMany g_heavyValue g_heavyTimes m_heavyMany g_fewest g_which g_met m_mostMet, kx_a g_row cyI 160 f, kx_a g_which cyI 160 o_4] H := hP
      have hD : va_D A [kx_a g_met cyI 160 fq, kx_a g_fewest cyI 161 fz, kx_5 h0 g_row m_n m_slots 0 g_many g_loss g_less g_voteValue g_voteNumber g_allValue g_allNumber m_allMany g_nodeL g_nodeR m_nodes g_part m_partMany g_wasMany g_wasLoss g_wasValue g_wasNumber g_path m_pathMany g_heavyValue g_heavyTimes m_heavyMany g_fewest g_which g_met m_mostMet, kx_a g_row cyI 160 f, kx_a g_which cyI 160 o_4] := hD
      have w_3 : kindOk o_4 m_n.toInt := w_3
      refine lv_aload_n hx hb dX5_parted_20 rfl (lv_at hl 0 rfl) ?_
      refine va_get (D := (dC, dI)) (ci := 5) (v := .ref g_fewest) (C := RX5) (T := TX5) (N := 30) hx hb hts hi_5 hown hK hP 2 rfl rfl 26 (by decide) hf_68 (fun _ h9 => h9) rfl dX5_parted_21 ?_
      refine lv_iload_n hx hb dX5_parted_24 rfl (lv_at hl 2 rfl) ?_
      refine lv_iconst (v := 0) hx hb dX5_parted_25 (by decide) ?_
      refine va_iast hx hb hK hP hD hS 1 0 rfl rfl (ki_in (by omega) (by omega)) dX5_parted_26 (fun H locs hP hD hS => ?_)
      have hP : va_P (dC, dI) vwCl [kx_a g_met cyI 160 fq, kx_a g_fewest cyI 161 (upd fz p1.toNatClampNeg 0), kx_5 h0 g_row m_n m_slots 0 g_many g_loss g_less g_voteValue g_voteNumber g_allValue g_allNumber m_allMany g_nodeL g_nodeR m_nodes g_part m_partMany g_wasMany g_wasLoss g_wasValue g_wasNumber g_path m_pathMany g_heavyValue g_heavyTimes m_heavyMany g_fewest g_which g_met m_mostMet, kx_a g_row cyI 160 f, kx_a g_which cyI 160 o_4] H := hP
      have hD : va_D A [kx_a g_met cyI 160 fq, kx_a g_fewest cyI 161 (upd fz p1.toNatClampNeg 0), kx_5 h0 g_row m_n m_slots 0 g_many g_loss g_less g_voteValue g_voteNumber g_allValue g_allNumber m_allMany g_nodeL g_nodeR m_nodes g_part m_partMany g_wasMany g_wasLoss g_wasValue g_wasNumber g_path m_pathMany g_heavyValue g_heavyTimes m_heavyMany g_fewest g_which g_met m_mostMet, kx_a g_row cyI 160 f, kx_a g_which cyI 160 o_4] := hD
      refine lv_iload_n hx hb dX5_parted_27 rfl (lv_at hl 2 rfl) ?_
      refine lv_iconst (v := 1) hx hb dX5_parted_28 (by decide) ?_
      refine lv_isub hx hb dX5_parted_29 ?_
      refine lv_topi (fun y_5 ey_5 => ?_)
      have i_5 : y_5.toInt = p1.toInt - 1 := ki_sub ey_5 rfl rfl (by omega) (by omega)
      refine lv_istore_n (lv' := [(3, .int y_5), (0, .ref h0), (1, .int p0), (2, .int p1)]) hx hb dX5_parted_30 rfl hl (by decide) rfl (fun ls hl => ?_)
      have LP1 : ∀ (n : Nat) (i : Int32) (y_mm : Int32) (y_q : Nat → Int32) (yz : Nat → Int32), (p0.toInt - 1 ≤ i.toInt) → (i.toInt < p1.toInt) → (i.toInt + 1).toNat < n → ∀ (H : Heap) (locs : List Loc), va_P (dC, dI) vwCl [kx_a g_met cyI 160 y_q, kx_a g_fewest cyI 161 yz, kx_5 h0 g_row m_n m_slots 0 g_many g_loss g_less g_voteValue g_voteNumber g_allValue g_allNumber m_allMany g_nodeL g_nodeR m_nodes g_part m_partMany g_wasMany g_wasLoss g_wasValue g_wasNumber g_path m_pathMany g_heavyValue g_heavyTimes m_heavyMany g_fewest g_which g_met y_mm, kx_a g_row cyI 160 f, kx_a g_which cyI 160 o_4] H → va_D A [kx_a g_met cyI 160 y_q, kx_a g_fewest cyI 161 yz, kx_5 h0 g_row m_n m_slots 0 g_many g_loss g_less g_voteValue g_voteNumber g_allValue g_allNumber m_allMany g_nodeL g_nodeR m_nodes g_part m_partMany g_wasMany g_wasLoss g_wasValue g_wasNumber g_path m_pathMany g_heavyValue g_heavyTimes m_heavyMany g_fewest g_which g_met y_mm, kx_a g_row cyI 160 f, kx_a g_which cyI 160 o_4] → va_S A s.heap H locs → ∀ (ls : Array Slot), lv_has ls 5 [(3, .int i), (0, .ref h0), (1, .int p0), (2, .int p1)] → W p l e (headSpec wsX5_parted ({ frames := 1, cells := 0, slots := 0, locals := 45 })).room s m ([.ref h0, .int p0, .int p1] : List Value).toArray below meth c H locs 0 0 (MQ below (va_Qi (fun (r : Int32) (u : Int32 × (Nat → Int32) × (Nat → Int32) × (Nat → Int32)) => True) (fun (u : Int32 × (Nat → Int32) × (Nat → Int32) × (Nat → Int32)) (t : State) => va_P (dC, dI) vwCl [kx_5 h0 g_row m_n m_slots 0 g_many g_loss g_less g_voteValue g_voteNumber g_allValue g_allNumber m_allMany g_nodeL g_nodeR m_nodes g_part m_partMany g_wasMany g_wasLoss g_wasValue g_wasNumber g_path m_pathMany g_heavyValue g_heavyTimes m_heavyMany g_fewest g_which g_met u.1, kx_a g_row cyI 160 f, kx_a g_which cyI 160 u.2.1, kx_a g_met cyI 160 u.2.2.1, kx_a g_fewest cyI 161 u.2.2.2] t.heap ∧ va_K (dC, dI) vwCl [(cyI, .int)] t ∧ va_D A [kx_5 h0 g_row m_n m_slots 0 g_many g_loss g_less g_voteValue g_voteNumber g_allValue g_allNumber m_allMany g_nodeL g_nodeR m_nodes g_part m_partMany g_wasMany g_wasLoss g_wasValue g_wasNumber g_path m_pathMany g_heavyValue g_heavyTimes m_heavyMany g_fewest g_which g_met u.1, kx_a g_row cyI 160 f, kx_a g_which cyI 160 u.2.1, kx_a g_met cyI 160 u.2.2.1, kx_a g_fewest cyI 161 u.2.2.2]) A) ([.ref h0, .int p0, .int p1] : List Value).toArray s 0 0 A) (F0 m 31 ls []) := by
        intro n
        induction n with
        | zero => intro i y_mm y_q yz LP1_h0 LP1_h1 hn; exact absurd hn (Nat.not_lt_zero _)
        | succ n ih1 =>
          intro i y_mm y_q yz LP1_h0 LP1_h1 hn1 H locs hP hD hS ls hl
          refine lv_iload_n hx hb dX5_parted_31 rfl (lv_at hl 0 rfl) ?_
          refine lv_iload_n hx hb dX5_parted_32 rfl (lv_at hl 2 rfl) ?_
          refine lv_icmp_lt (tgt := 115) hx hb dX5_parted_33 (by decide) (fun c_6 => ?_) (fun c_6 => ?_)
          · have i_6 : i.toInt < p0.toInt := kc_lt c_6
            refine lv_aload_n hx hb dX5_parted_115 rfl (lv_at hl 1 rfl) ?_
            refine va_get (D := (dC, dI)) (ci := 5) (v := .ref g_fewest) (C := RX5) (T := TX5) (N := 30) hx hb hts hi_5 hown hK hP 2 rfl rfl 26 (by decide) hf_68 (fun _ h9 => h9) rfl dX5_parted_116 ?_
            refine lv_iload_n hx hb dX5_parted_119 rfl (lv_at hl 2 rfl) ?_
            refine va_iald hx hb hK hP 1 0 rfl rfl (ki_in (by omega) (by omega)) dX5_parted_120 ?_
            refine lv_topi (fun y_7 ey_7 => ?_)
            have j_7 : y_7.toInt = (yz p0.toNatClampNeg).toInt := congrArg Int32.toInt ey_7
            have hP9 := hP.sub (ws' := [kx_5 h0 g_row m_n m_slots 0 g_many g_loss g_less g_voteValue g_voteNumber g_allValue g_allNumber m_allMany g_nodeL g_nodeR m_nodes g_part m_partMany g_wasMany g_wasLoss g_wasValue g_wasNumber g_path m_pathMany g_heavyValue g_heavyTimes m_heavyMany g_fewest g_which g_met y_mm, kx_a g_row cyI 160 f, kx_a g_which cyI 160 o_4, kx_a g_met cyI 160 y_q, kx_a g_fewest cyI 161 yz]) [2, 3, 4, 0, 1] rfl
            have hD9 := hD.sub (ws' := [kx_5 h0 g_row m_n m_slots 0 g_many g_loss g_less g_voteValue g_voteNumber g_allValue g_allNumber m_allMany g_nodeL g_nodeR m_nodes g_part m_partMany g_wasMany g_wasLoss g_wasValue g_wasNumber g_path m_pathMany g_heavyValue g_heavyTimes m_heavyMany g_fewest g_which g_met y_mm, kx_a g_row cyI 160 f, kx_a g_which cyI 160 o_4, kx_a g_met cyI 160 y_q, kx_a g_fewest cyI 161 yz]) [2, 3, 4, 0, 1] (by decide) rfl
            have hK9 := hK
            exact W.iret (v := y_7) hx hb hr (fun t ht hW => ⟨⟨y_7, (y_mm, o_4, y_q, yz), rfl, trivial, by rw [ht]; exact hP9, va_K.moved hW.alike hK9, hD9⟩, hS.F ht⟩) hS.2.2 dX5_parted_121
          · have i_6 : p0.toInt ≤ i.toInt := kc_nlt c_6
            refine lv_aload_n hx hb dX5_parted_36 rfl (lv_at hl 1 rfl) ?_
            refine va_get (D := (dC, dI)) (ci := 5) (v := .ref g_fewest) (C := RX5) (T := TX5) (N := 30) hx hb hts hi_5 hown hK hP 2 rfl rfl 26 (by decide) hf_68 (fun _ h9 => h9) rfl dX5_parted_37 ?_
            refine lv_iload_n hx hb dX5_parted_40 rfl (lv_at hl 0 rfl) ?_
            refine lv_sipush (v := 161) hx hb dX5_parted_41 (by decide) ?_
            refine va_iast hx hb hK hP hD hS 1 0 rfl rfl (ki_in (by omega) (by omega)) dX5_parted_44 (fun H locs hP hD hS => ?_)
            have hP : va_P (dC, dI) vwCl [kx_a g_met cyI 160 y_q, kx_a g_fewest cyI 161 (upd yz i.toNatClampNeg 161), kx_5 h0 g_row m_n m_slots 0 g_many g_loss g_less g_voteValue g_voteNumber g_allValue g_allNumber m_allMany g_nodeL g_nodeR m_nodes g_part m_partMany g_wasMany g_wasLoss g_wasValue g_wasNumber g_path m_pathMany g_heavyValue g_heavyTimes m_heavyMany g_fewest g_which g_met y_mm, kx_a g_row cyI 160 f, kx_a g_which cyI 160 o_4] H := hP
            have hD : va_D A [kx_a g_met cyI 160 y_q, kx_a g_fewest cyI 161 (upd yz i.toNatClampNeg 161), kx_5 h0 g_row m_n m_slots 0 g_many g_loss g_less g_voteValue g_voteNumber g_allValue g_allNumber m_allMany g_nodeL g_nodeR m_nodes g_part m_partMany g_wasMany g_wasLoss g_wasValue g_wasNumber g_path m_pathMany g_heavyValue g_heavyTimes m_heavyMany g_fewest g_which g_met y_mm, kx_a g_row cyI 160 f, kx_a g_which cyI 160 o_4] := hD
            refine lv_aload_n hx hb dX5_parted_45 rfl (lv_at hl 1 rfl) ?_
            have hPc := hP.sub (ws' := [kx_5 h0 g_row m_n m_slots 0 g_many g_loss g_less g_voteValue g_voteNumber g_allValue g_allNumber m_allMany g_nodeL g_nodeR m_nodes g_part m_partMany g_wasMany g_wasLoss g_wasValue g_wasNumber g_path m_pathMany g_heavyValue g_heavyTimes m_heavyMany g_fewest g_which g_met y_mm, kx_a g_met cyI 160 y_q]) [2, 0] rfl
            have hKc := hK
            have hDc := hD.sub (ws' := [kx_5 h0 g_row m_n m_slots 0 g_many g_loss g_less g_voteValue g_voteNumber g_allValue g_allNumber m_allMany g_nodeL g_nodeR m_nodes g_part m_partMany g_wasMany g_wasLoss g_wasValue g_wasNumber g_path m_pathMany g_heavyValue g_heavyTimes m_heavyMany g_fewest g_which g_met y_mm, kx_a g_met cyI 160 y_q]) [2, 0] (by decide) rfl
            have hFc := va_free (wc := [kx_5 h0 g_row m_n m_slots 0 g_many g_loss g_less g_voteValue g_voteNumber g_allValue g_allNumber m_allMany g_nodeL g_nodeR m_nodes g_part m_partMany g_wasMany g_wasLoss g_wasValue g_wasNumber g_path m_pathMany g_heavyValue g_heavyTimes m_heavyMany g_fewest g_which g_met y_mm, kx_a g_met cyI 160 y_q]) hD hS hA [2, 0] rfl
            refine va_callv (va_runV (As := []) (rest := []) ⟨hx, hb, hml, hown, hts⟩ (c_X5_begins l dC dI h0 g_row g_many g_loss g_less g_voteValue g_voteNumber g_allValue g_allNumber g_nodeL g_nodeR g_part g_wasMany g_wasLoss g_wasValue g_wasNumber g_path g_heavyValue g_heavyTimes g_fewest g_which g_met m_n m_slots 0 m_allMany m_nodes m_partMany m_pathMany m_heavyMany y_mm cyI y_q H.size a0 a1) (cwV 0 hts gX5_parted_X5_begins rfl rfl rfl (by decide +kernel) ⟨Nat.le_of_ble_eq_true rfl, Nat.le_of_ble_eq_true rfl⟩) ⟨fun a U g mk q => by obtain ⟨q0, q1, qP, qK, qD⟩ := q; exact ⟨q0, q1, qP, va_K.moved (u := U) (U := U.calling g mk a) (Vm.Alike.refl U.vm) qK, qD⟩, va_recv hKc hPc (ci := 5) (q0 := 0) rfl rfl, fun U hU hW => ⟨rfl, by rw [hU], by rw [hU]; exact hPc, va_K.moved hW.alike hKc, hDc.weaken (fun _ _ _ _ => trivial)⟩⟩ rfl rfl hl.1 rfl (lv_room (Nat.le_of_ble_eq_true rfl)) dX5_parted_46 ⟨Nat.le_of_ble_eq_true rfl, Nat.le_of_ble_eq_true rfl⟩) hS (fun q _ h => hFc q h) hFc (fun u t H1 locs ht hvm w_8 hB hz1 hk1 hS => ?_)
            obtain ⟨o_9, rfl⟩ : ∃ z, z = u := ⟨_, rfl⟩
            obtain ⟨hP1, hK1, hD1⟩ := hB
            rw [ht] at hP1
            have hK1 := va_K.moved hvm.symm hK1
            obtain ⟨hP, hD⟩ := va_join (wr := [kx_a g_fewest cyI 161 (upd yz i.toNatClampNeg 161), kx_a g_row cyI 160 f, kx_a g_which cyI 160 o_4]) (w1 := [kx_5 h0 g_row m_n m_slots 0 g_many g_loss g_less g_voteValue g_voteNumber g_allValue g_allNumber m_allMany g_nodeL g_nodeR m_nodes g_part m_partMany g_wasMany g_wasLoss g_wasValue g_wasNumber g_path m_pathMany g_heavyValue g_heavyTimes m_heavyMany g_fewest g_which g_met 0, kx_a g_met cyI 160 o_9]) hP hD [2, 0] [1, 3, 4] rfl rfl (by decide) (by decide) hk1 hFc hP1 hD1
            clear hP1 hD1 hK1 hk1 hz1 hFc hDc hPc hKc
            generalize H1 = H at hP hS ⊢
            have hP : va_P (dC, dI) vwCl [kx_a g_fewest cyI 161 (upd yz i.toNatClampNeg 161), kx_a g_row cyI 160 f, kx_a g_which cyI 160 o_4, kx_5 h0 g_row m_n m_slots 0 g_many g_loss g_less g_voteValue g_voteNumber g_allValue g_allNumber m_allMany g_nodeL g_nodeR m_nodes g_part m_partMany g_wasMany g_wasLoss g_wasValue g_wasNumber g_path m_pathMany g_heavyValue g_heavyTimes m_heavyMany g_fewest g_which g_met 0, kx_a g_met cyI 160 o_9] H := hP
            have hD : va_D A [kx_a g_fewest cyI 161 (upd yz i.toNatClampNeg 161), kx_a g_row cyI 160 f, kx_a g_which cyI 160 o_4, kx_5 h0 g_row m_n m_slots 0 g_many g_loss g_less g_voteValue g_voteNumber g_allValue g_allNumber m_allMany g_nodeL g_nodeR m_nodes g_part m_partMany g_wasMany g_wasLoss g_wasValue g_wasNumber g_path m_pathMany g_heavyValue g_heavyTimes m_heavyMany g_fewest g_which g_met 0, kx_a g_met cyI 160 o_9] := hD
            have w_8 : True := w_8
            refine lv_iload_n hx hb dX5_parted_49 rfl (lv_at hl 0 rfl) ?_
            refine lv_iconst (v := 1) hx hb dX5_parted_50 (by decide) ?_
            refine lv_iadd hx hb dX5_parted_51 ?_
            refine lv_topi (fun y_10 ey_10 => ?_)
            have i_10 : y_10.toInt = i.toInt + 1 := ki_add ey_10 rfl rfl (by omega) (by omega)
            refine lv_istore (lv' := [(4, .int y_10), (3, .int i), (0, .ref h0), (1, .int p0), (2, .int p1)]) hx hb dX5_parted_52 hl (by decide) rfl (fun ls hl => ?_)
            have LP2 : ∀ (n : Nat) (j : Int32) (z_mm : Int32) (z_q : Nat → Int32) (zz : Nat → Int32), (1 ≤ j.toInt) → (p1.toInt + 1 - j.toInt).toNat < n → ∀ (H : Heap) (locs : List Loc), va_P (dC, dI) vwCl [kx_a g_fewest cyI 161 zz, kx_a g_row cyI 160 f, kx_a g_which cyI 160 o_4, kx_5 h0 g_row m_n m_slots 0 g_many g_loss g_less g_voteValue g_voteNumber g_allValue g_allNumber m_allMany g_nodeL g_nodeR m_nodes g_part m_partMany g_wasMany g_wasLoss g_wasValue g_wasNumber g_path m_pathMany g_heavyValue g_heavyTimes m_heavyMany g_fewest g_which g_met z_mm, kx_a g_met cyI 160 z_q] H → va_D A [kx_a g_fewest cyI 161 zz, kx_a g_row cyI 160 f, kx_a g_which cyI 160 o_4, kx_5 h0 g_row m_n m_slots 0 g_many g_loss g_less g_voteValue g_voteNumber g_allValue g_allNumber m_allMany g_nodeL g_nodeR m_nodes g_part m_partMany g_wasMany g_wasLoss g_wasValue g_wasNumber g_path m_pathMany g_heavyValue g_heavyTimes m_heavyMany g_fewest g_which g_met z_mm, kx_a g_met cyI 160 z_q] → va_S A s.heap H locs → ∀ (ls : Array Slot), lv_has ls 5 [(4, .int j), (3, .int i), (0, .ref h0), (1, .int p0), (2, .int p1)] → W p l e (headSpec wsX5_parted ({ frames := 1, cells := 0, slots := 0, locals := 45 })).room s m ([.ref h0, .int p0, .int p1] : List Value).toArray below meth c H locs 0 0 (MQ below (va_Qi (fun (r : Int32) (u : Int32 × (Nat → Int32) × (Nat → Int32) × (Nat → Int32)) => True) (fun (u : Int32 × (Nat → Int32) × (Nat → Int32) × (Nat → Int32)) (t : State) => va_P (dC, dI) vwCl [kx_5 h0 g_row m_n m_slots 0 g_many g_loss g_less g_voteValue g_voteNumber g_allValue g_allNumber m_allMany g_nodeL g_nodeR m_nodes g_part m_partMany g_wasMany g_wasLoss g_wasValue g_wasNumber g_path m_pathMany g_heavyValue g_heavyTimes m_heavyMany g_fewest g_which g_met u.1, kx_a g_row cyI 160 f, kx_a g_which cyI 160 u.2.1, kx_a g_met cyI 160 u.2.2.1, kx_a g_fewest cyI 161 u.2.2.2] t.heap ∧ va_K (dC, dI) vwCl [(cyI, .int)] t ∧ va_D A [kx_5 h0 g_row m_n m_slots 0 g_many g_loss g_less g_voteValue g_voteNumber g_allValue g_allNumber m_allMany g_nodeL g_nodeR m_nodes g_part m_partMany g_wasMany g_wasLoss g_wasValue g_wasNumber g_path m_pathMany g_heavyValue g_heavyTimes m_heavyMany g_fewest g_which g_met u.1, kx_a g_row cyI 160 f, kx_a g_which cyI 160 u.2.1, kx_a g_met cyI 160 u.2.2.1, kx_a g_fewest cyI 161 u.2.2.2]) A) ([.ref h0, .int p0, .int p1] : List Value).toArray s 0 0 A) (F0 m 54 ls []) := by
              intro n
              induction n with
              | zero => intro j z_mm z_q zz LP2_h0 hn; exact absurd hn (Nat.not_lt_zero _)
              | succ n ih2 =>
                intro j z_mm z_q zz LP2_h0 hn2 H locs hP hD hS ls hl
                refine lv_iload hx hb dX5_parted_54 (lv_at hl 0 rfl) ?_
                refine lv_iload_n hx hb dX5_parted_56 rfl (lv_at hl 4 rfl) ?_
                refine lv_icmp_gt (tgt := 109) hx hb dX5_parted_57 (by decide) (fun c_11 => ?_) (fun c_11 => ?_)
                · have i_11 : p1.toInt < j.toInt := kc_lt c_11
                  obtain ⟨x_12, ex_12⟩ : ∃ y : Int32, y = i + (-1) := ⟨_, rfl⟩
                  have i_12 : x_12.toInt = i.toInt + (-1) := ki_add ex_12 rfl rfl (by omega) (by omega)
                  refine lv_iinc (v := x_12) (lv' := [(3, .int x_12), (4, .int j), (0, .ref h0), (1, .int p0), (2, .int p1)]) hx hb dX5_parted_109 hl (k := 1) rfl (by rw [ex_12]; rfl) (by decide) rfl (fun ls hl => ?_)
                  refine lv_goto (tgt := 31) hx hb dX5_parted_112 (by decide) ?_
                  have hP : va_P (dC, dI) vwCl [kx_a g_met cyI 160 z_q, kx_a g_fewest cyI 161 zz, kx_5 h0 g_row m_n m_slots 0 g_many g_loss g_less g_voteValue g_voteNumber g_allValue g_allNumber m_allMany g_nodeL g_nodeR m_nodes g_part m_partMany g_wasMany g_wasLoss g_wasValue g_wasNumber g_path m_pathMany g_heavyValue g_heavyTimes m_heavyMany g_fewest g_which g_met z_mm, kx_a g_row cyI 160 f, kx_a g_which cyI 160 o_4] _ := hP.sub [4, 0, 3, 1, 2] rfl
                  have hD : va_D A [kx_a g_met cyI 160 z_q, kx_a g_fewest cyI 161 zz, kx_5 h0 g_row m_n m_slots 0 g_many g_loss g_less g_voteValue g_voteNumber g_allValue g_allNumber m_allMany g_nodeL g_nodeR m_nodes g_part m_partMany g_wasMany g_wasLoss g_wasValue g_wasNumber g_path m_pathMany g_heavyValue g_heavyTimes m_heavyMany g_fewest g_which g_met z_mm, kx_a g_row cyI 160 f, kx_a g_which cyI 160 o_4] := hD.sub [4, 0, 3, 1, 2] (by decide) rfl
                  exact ih1 x_12 z_mm z_q zz (om_180 i_6 i_12) (om_95 LP1_h1 i_12) (by omega) _ _ hP hD hS ls (lv_sub hl [0, 2, 3, 4] rfl)
                · have i_11 : j.toInt ≤ p1.toInt := kc_nlt c_11
                  refine lv_aload_n hx hb dX5_parted_60 rfl (lv_at hl 2 rfl) ?_
                  refine lv_iload hx hb dX5_parted_61 (lv_at hl 0 rfl) ?_
                  refine lv_iload_n hx hb dX5_parted_63 rfl (lv_at hl 1 rfl) ?_
                  have hPc := hP.sub (ws' := [kx_5 h0 g_row m_n m_slots 0 g_many g_loss g_less g_voteValue g_voteNumber g_allValue g_allNumber m_allMany g_nodeL g_nodeR m_nodes g_part m_partMany g_wasMany g_wasLoss g_wasValue g_wasNumber g_path m_pathMany g_heavyValue g_heavyTimes m_heavyMany g_fewest g_which g_met z_mm, kx_a g_which cyI 160 o_4, kx_a g_met cyI 160 z_q]) [3, 2, 4] rfl
                  have hKc := hK
                  have hDc := hD.sub (ws' := [kx_5 h0 g_row m_n m_slots 0 g_many g_loss g_less g_voteValue g_voteNumber g_allValue g_allNumber m_allMany g_nodeL g_nodeR m_nodes g_part m_partMany g_wasMany g_wasLoss g_wasValue g_wasNumber g_path m_pathMany g_heavyValue g_heavyTimes m_heavyMany g_fewest g_which g_met z_mm, kx_a g_which cyI 160 o_4, kx_a g_met cyI 160 z_q]) [3, 2, 4] (by decide) rfl
                  have hFc := va_free (wc := [kx_5 h0 g_row m_n m_slots 0 g_many g_loss g_less g_voteValue g_voteNumber g_allValue g_allNumber m_allMany g_nodeL g_nodeR m_nodes g_part m_partMany g_wasMany g_wasLoss g_wasValue g_wasNumber g_path m_pathMany g_heavyValue g_heavyTimes m_heavyMany g_fewest g_which g_met z_mm, kx_a g_which cyI 160 o_4, kx_a g_met cyI 160 z_q]) hD hS hA [3, 2, 4] rfl
                  refine va_calli (va_runV (As := [.int j, .int i]) (rest := []) ⟨hx, hb, hml, hown, hts⟩ (c_X5_goesOn l dC dI h0 g_row g_many g_loss g_less g_voteValue g_voteNumber g_allValue g_allNumber g_nodeL g_nodeR g_part g_wasMany g_wasLoss g_wasValue g_wasNumber g_path g_heavyValue g_heavyTimes g_fewest g_which g_met m_n m_slots 0 m_allMany m_nodes m_partMany m_pathMany m_heavyMany z_mm cyI o_4 z_q m_n.toInt j i H.size w_3 LP2_h0 (by omega) a1) (cwV 2 hts gX5_parted_X5_goesOn rfl rfl rfl (by decide +kernel) ⟨Nat.le_of_ble_eq_true rfl, Nat.le_of_ble_eq_true rfl⟩) ⟨fun a U g mk q => by obtain ⟨q0, q1, qP, qK, qD⟩ := q; exact ⟨q0, q1, qP, va_K.moved (u := U) (U := U.calling g mk a) (Vm.Alike.refl U.vm) qK, qD⟩, va_recv hKc hPc (ci := 5) (q0 := 0) rfl rfl, fun U hU hW => ⟨rfl, by rw [hU], by rw [hU]; exact hPc, va_K.moved hW.alike hKc, hDc.weaken (fun _ _ _ _ => trivial)⟩⟩ rfl rfl hl.1 rfl (lv_room (Nat.le_of_ble_eq_true rfl)) dX5_parted_64 ⟨Nat.le_of_ble_eq_true rfl, Nat.le_of_ble_eq_true rfl⟩) hS (fun q _ h => hFc q h) hFc (fun r_13 u t H1 locs ht hvm w_13 hB hz1 hk1 hS => ?_)
                  obtain ⟨o_14, o_15⟩ := u
                  dsimp only at w_13 hB
                  obtain ⟨hP1, hK1, hD1⟩ := hB
                  rw [ht] at hP1
                  have hK1 := va_K.moved hvm.symm hK1
                  obtain ⟨hP, hD⟩ := va_join (wr := [kx_a g_fewest cyI 161 zz, kx_a g_row cyI 160 f]) (w1 := [kx_5 h0 g_row m_n m_slots 0 g_many g_loss g_less g_voteValue g_voteNumber g_allValue g_allNumber m_allMany g_nodeL g_nodeR m_nodes g_part m_partMany g_wasMany g_wasLoss g_wasValue g_wasNumber g_path m_pathMany g_heavyValue g_heavyTimes m_heavyMany g_fewest g_which g_met o_14, kx_a g_which cyI 160 o_4, kx_a g_met cyI 160 o_15]) hP hD [3, 2, 4] [0, 1] rfl rfl (by decide) (by decide) hk1 hFc hP1 hD1
                  clear hP1 hD1 hK1 hk1 hz1 hFc hDc hPc hKc
                  generalize H1 = H at hP hS ⊢
                  have hP : va_P (dC, dI) vwCl [kx_a g_fewest cyI 161 zz, kx_a g_row cyI 160 f, kx_5 h0 g_row m_n m_slots 0 g_many g_loss g_less g_voteValue g_voteNumber g_allValue g_allNumber m_allMany g_nodeL g_nodeR m_nodes g_part m_partMany g_wasMany g_wasLoss g_wasValue g_wasNumber g_path m_pathMany g_heavyValue g_heavyTimes m_heavyMany g_fewest g_which g_met o_14, kx_a g_which cyI 160 o_4, kx_a g_met cyI 160 o_15] H := hP
                  have hD : va_D A [kx_a g_fewest cyI 161 zz, kx_a g_row cyI 160 f, kx_5 h0 g_row m_n m_slots 0 g_many g_loss g_less g_voteValue g_voteNumber g_allValue g_allNumber m_allMany g_nodeL g_nodeR m_nodes g_part m_partMany g_wasMany g_wasLoss g_wasValue g_wasNumber g_path m_pathMany g_heavyValue g_heavyTimes m_heavyMany g_fewest g_which g_met o_14, kx_a g_which cyI 160 o_4, kx_a g_met cyI 160 o_15] := hD
                  have w_13 : r_13 = 1 ∨ r_13 = 0 := w_13
                  refine lv_if_eq (tgt := 103) hx hb dX5_parted_67 (by decide) (fun c_16 => ?_) (fun c_16 => ?_)
                  · have i_16 : r_13.toInt = 0 := kc_eq c_16
                    obtain ⟨x_17, ex_17⟩ : ∃ y : Int32, y = j + 1 := ⟨_, rfl⟩
                    have i_17 : x_17.toInt = j.toInt + 1 := ki_add ex_17 rfl rfl (om_33 LP2_h0) (by omega)
                    refine lv_iinc (v := x_17) (lv' := [(4, .int x_17), (3, .int i), (0, .ref h0), (1, .int p0), (2, .int p1)]) hx hb dX5_parted_103 hl (k := 0) rfl (by rw [ex_17]; rfl) (by decide) rfl (fun ls hl => ?_)
                    refine lv_goto (tgt := 54) hx hb dX5_parted_106 (by decide) ?_
                    have hP : va_P (dC, dI) vwCl [kx_a g_fewest cyI 161 zz, kx_a g_row cyI 160 f, kx_a g_which cyI 160 o_4, kx_5 h0 g_row m_n m_slots 0 g_many g_loss g_less g_voteValue g_voteNumber g_allValue g_allNumber m_allMany g_nodeL g_nodeR m_nodes g_part m_partMany g_wasMany g_wasLoss g_wasValue g_wasNumber g_path m_pathMany g_heavyValue g_heavyTimes m_heavyMany g_fewest g_which g_met o_14, kx_a g_met cyI 160 o_15] _ := hP.sub [0, 1, 3, 2, 4] rfl
                    have hD : va_D A [kx_a g_fewest cyI 161 zz, kx_a g_row cyI 160 f, kx_a g_which cyI 160 o_4, kx_5 h0 g_row m_n m_slots 0 g_many g_loss g_less g_voteValue g_voteNumber g_allValue g_allNumber m_allMany g_nodeL g_nodeR m_nodes g_part m_partMany g_wasMany g_wasLoss g_wasValue g_wasNumber g_path m_pathMany g_heavyValue g_heavyTimes m_heavyMany g_fewest g_which g_met o_14, kx_a g_met cyI 160 o_15] := hD.sub [0, 1, 3, 2, 4] (by decide) rfl
                    exact ih2 x_17 o_14 o_15 zz (om_34 LP2_h0 i_17) (om_mu hn2 (om_160 i_17) (om_161 i_11)) _ _ hP hD hS ls (lv_sub hl [0, 1, 2, 3, 4] rfl)
                  · have i_16 : ¬ r_13.toInt = 0 := kc_ne c_16
                    refine lv_aload_n hx hb dX5_parted_70 rfl (lv_at hl 2 rfl) ?_
                    refine va_get (D := (dC, dI)) (ci := 5) (v := .ref g_fewest) (C := RX5) (T := TX5) (N := 30) hx hb hts hi_5 hown hK hP 2 rfl rfl 26 (by decide) hf_68 (fun _ h9 => h9) rfl dX5_parted_71 ?_
                    refine lv_iload hx hb dX5_parted_74 (lv_at hl 0 rfl) ?_
                    refine va_iald hx hb hK hP 0 0 rfl rfl (ki_in (om_44 LP2_h0) (by omega)) dX5_parted_76 ?_
                    refine lv_topi (fun y_18 ey_18 => ?_)
                    have j_18 : y_18.toInt = (zz j.toNatClampNeg).toInt := congrArg Int32.toInt ey_18
                    refine lv_iconst (v := 1) hx hb dX5_parted_77 (by decide) ?_
                    refine lv_iadd hx hb dX5_parted_78 ?_
                    refine lv_topi (fun y_19 ey_19 => ?_)
                    refine lv_aload_n hx hb dX5_parted_79 rfl (lv_at hl 2 rfl) ?_
                    refine va_get (D := (dC, dI)) (ci := 5) (v := .ref g_fewest) (C := RX5) (T := TX5) (N := 30) hx hb hts hi_5 hown hK hP 2 rfl rfl 26 (by decide) hf_68 (fun _ h9 => h9) rfl dX5_parted_80 ?_
                    refine lv_iload_n hx hb dX5_parted_83 rfl (lv_at hl 1 rfl) ?_
                    refine va_iald hx hb hK hP 0 0 rfl rfl (ki_in (by omega) (by omega)) dX5_parted_84 ?_
                    refine lv_topi (fun y_20 ey_20 => ?_)
                    have j_20 : y_20.toInt = (zz i.toNatClampNeg).toInt := congrArg Int32.toInt ey_20
                    refine lv_icmp_ge (tgt := 103) hx hb dX5_parted_85 (by decide) (fun c_21 => ?_) (fun c_21 => ?_)
                    · have i_21 : y_20.toInt ≤ y_19.toInt := kc_le c_21
                      obtain ⟨x_22, ex_22⟩ : ∃ y : Int32, y = j + 1 := ⟨_, rfl⟩
                      have i_22 : x_22.toInt = j.toInt + 1 := ki_add ex_22 rfl rfl (om_33 LP2_h0) (by omega)
                      refine lv_iinc (v := x_22) (lv' := [(4, .int x_22), (3, .int i), (0, .ref h0), (1, .int p0), (2, .int p1)]) hx hb dX5_parted_103 hl (k := 0) rfl (by rw [ex_22]; rfl) (by decide) rfl (fun ls hl => ?_)
                      refine lv_goto (tgt := 54) hx hb dX5_parted_106 (by decide) ?_
                      have hP : va_P (dC, dI) vwCl [kx_a g_fewest cyI 161 zz, kx_a g_row cyI 160 f, kx_a g_which cyI 160 o_4, kx_5 h0 g_row m_n m_slots 0 g_many g_loss g_less g_voteValue g_voteNumber g_allValue g_allNumber m_allMany g_nodeL g_nodeR m_nodes g_part m_partMany g_wasMany g_wasLoss g_wasValue g_wasNumber g_path m_pathMany g_heavyValue g_heavyTimes m_heavyMany g_fewest g_which g_met o_14, kx_a g_met cyI 160 o_15] _ := hP.sub [0, 1, 3, 2, 4] rfl
                      have hD : va_D A [kx_a g_fewest cyI 161 zz, kx_a g_row cyI 160 f, kx_a g_which cyI 160 o_4, kx_5 h0 g_row m_n m_slots 0 g_many g_loss g_less g_voteValue g_voteNumber g_allValue g_allNumber m_allMany g_nodeL g_nodeR m_nodes g_part m_partMany g_wasMany g_wasLoss g_wasValue g_wasNumber g_path m_pathMany g_heavyValue g_heavyTimes m_heavyMany g_fewest g_which g_met o_14, kx_a g_met cyI 160 o_15] := hD.sub [0, 1, 3, 2, 4] (by decide) rfl
                      exact ih2 x_22 o_14 o_15 zz (om_34 LP2_h0 i_22) (om_mu hn2 (om_160 i_22) (om_161 i_11)) _ _ hP hD hS ls (lv_sub hl [0, 1, 2, 3, 4] rfl)
                    · have i_21 : y_19.toInt < y_20.toInt := kc_nle c_21
                      refine lv_aload_n hx hb dX5_parted_88 rfl (lv_at hl 2 rfl) ?_
                      refine va_get (D := (dC, dI)) (ci := 5) (v := .ref g_fewest) (C := RX5) (T := TX5) (N := 30) hx hb hts hi_5 hown hK hP 2 rfl rfl 26 (by decide) hf_68 (fun _ h9 => h9) rfl dX5_parted_89 ?_
                      refine lv_iload_n hx hb dX5_parted_92 rfl (lv_at hl 1 rfl) ?_
                      refine lv_aload_n hx hb dX5_parted_93 rfl (lv_at hl 2 rfl) ?_
                      refine va_get (D := (dC, dI)) (ci := 5) (v := .ref g_fewest) (C := RX5) (T := TX5) (N := 30) hx hb hts hi_5 hown hK hP 2 rfl rfl 26 (by decide) hf_68 (fun _ h9 => h9) rfl dX5_parted_94 ?_
                      refine lv_iload hx hb dX5_parted_97 (lv_at hl 0 rfl) ?_
                      refine va_iald hx hb hK hP 0 0 rfl rfl (ki_in (om_44 LP2_h0) (by omega)) dX5_parted_99 ?_
                      refine lv_topi (fun y_23 ey_23 => ?_)
                      have j_23 : y_23.toInt = (zz j.toNatClampNeg).toInt := congrArg Int32.toInt ey_23
                      refine lv_iconst (v := 1) hx hb dX5_parted_100 (by decide) ?_
                      refine lv_iadd hx hb dX5_parted_101 ?_
                      refine lv_topi (fun y_24 ey_24 => ?_)
                      refine va_iast hx hb hK hP hD hS 0 0 rfl rfl (ki_in (by omega) (by omega)) dX5_parted_102 (fun H locs hP hD hS => ?_)
                      have hP : va_P (dC, dI) vwCl [kx_a g_fewest cyI 161 (upd zz i.toNatClampNeg y_24), kx_a g_row cyI 160 f, kx_5 h0 g_row m_n m_slots 0 g_many g_loss g_less g_voteValue g_voteNumber g_allValue g_allNumber m_allMany g_nodeL g_nodeR m_nodes g_part m_partMany g_wasMany g_wasLoss g_wasValue g_wasNumber g_path m_pathMany g_heavyValue g_heavyTimes m_heavyMany g_fewest g_which g_met o_14, kx_a g_which cyI 160 o_4, kx_a g_met cyI 160 o_15] H := hP
                      have hD : va_D A [kx_a g_fewest cyI 161 (upd zz i.toNatClampNeg y_24), kx_a g_row cyI 160 f, kx_5 h0 g_row m_n m_slots 0 g_many g_loss g_less g_voteValue g_voteNumber g_allValue g_allNumber m_allMany g_nodeL g_nodeR m_nodes g_part m_partMany g_wasMany g_wasLoss g_wasValue g_wasNumber g_path m_pathMany g_heavyValue g_heavyTimes m_heavyMany g_fewest g_which g_met o_14, kx_a g_which cyI 160 o_4, kx_a g_met cyI 160 o_15] := hD
                      obtain ⟨x_25, ex_25⟩ : ∃ y : Int32, y = j + 1 := ⟨_, rfl⟩
                      have i_25 : x_25.toInt = j.toInt + 1 := ki_add ex_25 rfl rfl (om_33 LP2_h0) (by omega)
                      refine lv_iinc (v := x_25) (lv' := [(4, .int x_25), (3, .int i), (0, .ref h0), (1, .int p0), (2, .int p1)]) hx hb dX5_parted_103 hl (k := 0) rfl (by rw [ex_25]; rfl) (by decide) rfl (fun ls hl => ?_)
                      refine lv_goto (tgt := 54) hx hb dX5_parted_106 (by decide) ?_
                      have hP : va_P (dC, dI) vwCl [kx_a g_fewest cyI 161 (upd zz i.toNatClampNeg y_24), kx_a g_row cyI 160 f, kx_a g_which cyI 160 o_4, kx_5 h0 g_row m_n m_slots 0 g_many g_loss g_less g_voteValue g_voteNumber g_allValue g_allNumber m_allMany g_nodeL g_nodeR m_nodes g_part m_partMany g_wasMany g_wasLoss g_wasValue g_wasNumber g_path m_pathMany g_heavyValue g_heavyTimes m_heavyMany g_fewest g_which g_met o_14, kx_a g_met cyI 160 o_15] _ := hP.sub [0, 1, 3, 2, 4] rfl
                      have hD : va_D A [kx_a g_fewest cyI 161 (upd zz i.toNatClampNeg y_24), kx_a g_row cyI 160 f, kx_a g_which cyI 160 o_4, kx_5 h0 g_row m_n m_slots 0 g_many g_loss g_less g_voteValue g_voteNumber g_allValue g_allNumber m_allMany g_nodeL g_nodeR m_nodes g_part m_partMany g_wasMany g_wasLoss g_wasValue g_wasNumber g_path m_pathMany g_heavyValue g_heavyTimes m_heavyMany g_fewest g_which g_met o_14, kx_a g_met cyI 160 o_15] := hD.sub [0, 1, 3, 2, 4] (by decide) rfl
                      exact ih2 x_25 o_14 o_15 (upd zz i.toNatClampNeg y_24) (om_34 LP2_h0 i_25) (om_mu hn2 (om_160 i_25) (om_161 i_11)) _ _ hP hD hS ls (lv_sub hl [0, 1, 2, 3, 4] rfl)
            have k_26 : (0 : Int32).toInt = 0 := rfl
            exact LP2 ((p1.toInt + 1 - y_10.toInt : Int).toNat + 1) y_10 0 o_9 (upd yz i.toNatClampNeg 161) (by omega) (Nat.lt_succ_self _) _ _ hP hD hS ls (lv_sub hl [0, 1, 2, 3, 4] rfl)
      exact LP1 ((y_5.toInt + 1 : Int).toNat + 1) y_5 m_mostMet fq (upd fz p1.toNatClampNeg 0) (by omega) (om_100 i_5) (Nat.lt_succ_self _) _ _ hP hD hS ls (lv_sub hl [0, 1, 2, 3] rfl)
    · exact absurd c_2 (by decide)
  · have w_1 : (p0.toInt < 0 ∨ p1.toInt ≤ p0.toInt ∨ m_n.toInt < p1.toInt) := w_1
    refine lv_if_ne (tgt := 16) hx hb dX5_parted_11 (by decide) (fun c_27 => ?_) (fun c_27 => ?_)
    · exact absurd c_27 (by decide)
    · refine lv_iconst (v := (-1)) hx hb dX5_parted_14 (by decide) ?_
      have hP9 := hP
      have hD9 := hD
      have hK9 := hK
      exact W.iret (v := (-1)) hx hb hr (fun t ht hW => ⟨⟨(-1), (m_mostMet, fw, fq, fz), rfl, trivial, by rw [ht]; exact hP9, va_K.moved hW.alike hK9, hD9⟩, hS.F ht⟩) hS.2.2 dX5_parted_15


