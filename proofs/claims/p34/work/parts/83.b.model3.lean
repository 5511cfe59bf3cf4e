set_option maxHeartbeats 4000000 in
set_option maxRecDepth 100000 in
theorem c_X5_laysNumbers (l : Launch) (dC : Nat → ClassId) (dI : Nat → Nat → Nat) (h0 : Nat) (g_row : Nat) (g_many : Nat) (g_loss : Nat) (g_less : Nat) (g_voteValue : Nat) (g_voteNumber : Nat) (g_allValue : Nat) (g_allNumber : Nat) (g_nodeL : Nat) (g_nodeR : Nat) (g_part : Nat) (g_wasMany : Nat) (g_wasLoss : Nat) (g_wasValue : Nat) (g_wasNumber : Nat) (g_path : Nat) (g_heavyValue : Nat) (g_heavyTimes : Nat) (g_fewest : Nat) (g_which : Nat) (g_met : Nat) (m_n : Int32) (m_slots : Int32) (m_thrown : Int32) (m_allMany : Int32) (m_nodes : Int32) (m_partMany : Int32) (m_pathMany : Int32) (m_heavyMany : Int32) (m_mostMet : Int32) (cyI : ClassId) (f : Nat → Int32) (fw : Nat → Int32) (sz : Nat) (a0 : 0 ≤ m_n.toInt) (a1 : m_n.toInt ≤ 160) : kx_MQ l (dC, dI) yX5_laysNumbers wsX5_laysNumbers ({ frames := 0, cells := 0, slots := 0, locals := 0 }) [.ref h0] [kx_5 h0 g_row m_n m_slots m_thrown g_many g_loss g_less g_voteValue g_voteNumber g_allValue g_allNumber m_allMany g_nodeL g_nodeR m_nodes g_part m_partMany g_wasMany g_wasLoss g_wasValue g_wasNumber g_path m_pathMany g_heavyValue g_heavyTimes m_heavyMany g_fewest g_which g_met m_mostMet, kx_a g_row cyI 160 f, kx_a g_which cyI 160 fw] [(cyI, .int)] sz (fun A => va_Qv (fun u : (Nat → Int32) => kindOk u m_n.toInt) (fun (u : (Nat → Int32)) (t : State) => va_P (dC, dI) vwCl [kx_5 h0 g_row m_n m_slots m_thrown g_many g_loss g_less g_voteValue g_voteNumber g_allValue g_allNumber m_allMany g_nodeL g_nodeR m_nodes g_part m_partMany g_wasMany g_wasLoss g_wasValue g_wasNumber g_path m_pathMany g_heavyValue g_heavyTimes m_heavyMany g_fewest g_which g_met m_mostMet, kx_a g_row cyI 160 f, kx_a g_which cyI 160 u] t.heap ∧ va_K (dC, dI) vwCl [(cyI, .int)] t ∧ va_D A [kx_5 h0 g_row m_n m_slots m_thrown g_many g_loss g_less g_voteValue g_voteNumber g_allValue g_allNumber m_allMany g_nodeL g_nodeR m_nodes g_part m_partMany g_wasMany g_wasLoss g_wasValue g_wasNumber g_path m_pathMany g_heavyValue g_heavyTimes m_heavyMany g_fewest g_which g_met m_mostMet, kx_a g_row cyI 160 f, kx_a g_which cyI 160 u]) A) := by
  refine kx_stQ (ws := wsX5_laysNumbers) (cc := cX5_laysNumbers) (maxL := 5) (ret := none) (by decide) rfl (Nat.le_of_ble_eq_true rfl) ?_
  intro p e s m below meth c A ls hx hb hr hlocks hts hown hml hA hS hP hK hD hl
  have hown : s.vm.findClass RX5 = some m.cls := hown
  have hl : lv_has ls 5 [(0, .ref h0)] := hl
  have hf_84 := hts (.fieldLink RX5 84 "MajorityIndexModel" "n" "I") (List.mem_of_getElem? (i := 1) rfl)
  have hi_5 : ∀ w ∈ u_ws RX5 TX5 30, w ∈ wsX5_laysNumbers := fun w h => List.mem_cons_of_mem _ (List.mem_append_right _ h)
  have hf_71 := hts (.fieldLink RX5 71 "MajorityIndexModel" "which" "[I") (List.mem_of_getElem? (i := 3) rfl)
  have hf_7 := hts (.fieldLink RX5 7 "MajorityIndexModel" "row" "[I") (List.mem_of_getElem? (i := 2) rfl)
  refine lv_iconst (v := 0) hx hb dX5_laysNumbers_0 (by decide) ?_
  refine lv_istore_n (lv' := [(1, .int 0), (0, .ref h0)]) hx hb dX5_laysNumbers_1 rfl hl (by decide) rfl (fun ls hl => ?_)
  refine lv_iconst (v := 0) hx hb dX5_laysNumbers_2 (by decide) ?_
  refine lv_istore_n (lv' := [(2, .int 0), (1, .int 0), (0, .ref h0)]) hx hb dX5_laysNumbers_3 rfl hl (by decide) rfl (fun ls hl => ?_)
  have LP1 : ∀ (n : Nat) (i : Int32) (nx : Int32) (gw : Nat → Int32), (0 ≤ i.toInt) → (0 ≤ nx.toInt) → (nx.toInt ≤ i.toInt) → (kindOk gw i.toInt) → (m_n.toInt - i.toInt).toNat < n → ∀ (H : Heap) (locs : List Loc), va_P (dC, dI) vwCl [kx_5 h0 g_row m_n m_slots m_thrown g_many g_loss g_less g_voteValue g_voteNumber g_allValue g_allNumber m_allMany g_nodeL g_nodeR m_nodes g_part m_partMany g_wasMany g_wasLoss g_wasValue g_wasNumber g_path m_pathMany g_heavyValue g_heavyTimes m_heavyMany g_fewest g_which g_met m_mostMet, kx_a g_row cyI 160 f, kx_a g_which cyI 160 gw] H → va_D A [kx_5 h0 g_row m_n m_slots m_thrown g_many g_loss g_less g_voteValue g_voteNumber g_allValue g_allNumber m_allMany g_nodeL g_nodeR m_nodes g_part m_partMany g_wasMany g_wasLoss g_wasValue g_wasNumber g_path m_pathMany g_heavyValue g_heavyTimes m_heavyMany g_fewest g_which g_met m_mostMet, kx_a g_row cyI 160 f, kx_a g_which cyI 160 gw] → va_S A s.heap H locs → ∀ (ls : Array Slot), lv_has ls 5 [(2, .int i), (1, .int nx), (0, .ref h0)] → W p l e (headSpec wsX5_laysNumbers ({ frames := 0, cells := 0, slots := 0, locals := 0 })).room s m ([.ref h0] : List Value).toArray below meth c H locs 0 0 (MQ below (va_Qv (fun u : (Nat → Int32) => kindOk u m_n.toInt) (fun (u : (Nat → Int32)) (t : State) => va_P (dC, dI) vwCl [kx_5 h0 g_row m_n m_slots m_thrown g_many g_loss g_less g_voteValue g_voteNumber g_allValue g_allNumber m_allMany g_nodeL g_nodeR m_nodes g_part m_partMany g_wasMany g_wasLoss g_wasValue g_wasNumber g_path m_pathMany g_heavyValue g_heavyTimes m_heavyMany g_fewest g_which g_met m_mostMet, kx_a g_row cyI 160 f, kx_a g_which cyI 160 u] t.heap ∧ va_K (dC, dI) vwCl [(cyI, .int)] t ∧ va_D A [kx_5 h0 g_row m_n m_slots m_thrown g_many g_loss g_less g_voteValue g_voteNumber g_allValue g_allNumber m_allMany g_nodeL g_nodeR m_nodes g_part m_partMany g_wasMany g_wasLoss g_wasValue g_wasNumber g_path m_pathMany g_heavyValue g_heavyTimes m_heavyMany g_fewest g_which g_met m_mostMet, kx_a g_row cyI 160 f, kx_a g_which cyI 160 u]) A) ([.ref h0] : List Value).toArray s 0 0 A) (F0 m 4 ls []) := by
    intro n
    induction n with
    | zero => intro i nx gw LP1_h0 LP1_h1 LP1_h2 LP1_h3 hn; exact absurd hn (Nat.not_lt_zero _)
    | succ n ih1 =>
      intro i nx gw LP1_h0 LP1_h1 LP1_h2 LP1_h3 hn1 H locs hP hD hS ls hl
      refine lv_iload_n hx hb dX5_laysNumbers_4 rfl (lv_at hl 0 rfl) ?_
      refine lv_aload_n hx hb dX5_laysNumbers_5 rfl (lv_at hl 2 rfl) ?_
      refine va_get (D := (dC, dI)) (ci := 5) (v := .int m_n) (C := RX5) (T := TX5) (N := 30) hx hb hts hi_5 hown hK hP 0 rfl rfl 1 (by decide) hf_84 (fun _ h9 => h9) rfl dX5_laysNumbers_6 ?_
      refine lv_icmp_ge (tgt := 85) hx hb dX5_laysNumbers_9 (by decide) (fun c_1 => ?_) (fun c_1 => ?_)
      · have i_1 : m_n.toInt ≤ i.toInt := kc_le c_1
        have hP9 := hP
        have hD9 := hD
        have hK9 := hK
        exact W.vret hx hb hr (hlocks := hlocks) (fun t ht hW => ⟨⟨(gw), rfl, (fun k hk => LP1_h3 k (by (try dsimp only); omega)), by rw [ht]; exact hP9, va_K.moved hW.alike hK9, hD9⟩, hS.F ht⟩) hS.2.2 dX5_laysNumbers_85
      · have i_1 : i.toInt < m_n.toInt := kc_nle c_1
        refine lv_iconst (v := (-1)) hx hb dX5_laysNumbers_12 (by decide) ?_
        refine lv_istore_n (lv' := [(3, .int (-1)), (2, .int i), (1, .int nx), (0, .ref h0)]) hx hb dX5_laysNumbers_13 rfl hl (by decide) rfl (fun ls hl => ?_)
        refine lv_iconst (v := 0) hx hb dX5_laysNumbers_14 (by decide) ?_
        refine lv_istore (lv' := [(4, .int 0), (3, .int (-1)), (2, .int i), (1, .int nx), (0, .ref h0)]) hx hb dX5_laysNumbers_15 hl (by decide) rfl (fun ls hl => ?_)
        have LP2 : ∀ (n : Nat) (j : Int32) (lk : Int32), (0 ≤ j.toInt) → (lk.toInt = -1 ∨ (0 ≤ lk.toInt ∧ lk.toInt ≤ i.toInt)) → (i.toInt - j.toInt).toNat < n → ∀ (H : Heap) (locs : List Loc), va_P (dC, dI) vwCl [kx_5 h0 g_row m_n m_slots m_thrown g_many g_loss g_less g_voteValue g_voteNumber g_allValue g_allNumber m_allMany g_nodeL g_nodeR m_nodes g_part m_partMany g_wasMany g_wasLoss g_wasValue g_wasNumber g_path m_pathMany g_heavyValue g_heavyTimes m_heavyMany g_fewest g_which g_met m_mostMet, kx_a g_row cyI 160 f, kx_a g_which cyI 160 gw] H → va_D A [kx_5 h0 g_row m_n m_slots m_thrown g_many g_loss g_less g_voteValue g_voteNumber g_allValue g_allNumber m_allMany g_nodeL g_nodeR m_nodes g_part m_partMany g_wasMany g_wasLoss g_wasValue g_wasNumber g_path m_pathMany g_heavyValue g_heavyTimes m_heavyMany g_fewest g_which g_met m_mostMet, kx_a g_row cyI 160 f, kx_a g_which cyI 160 gw] → va_S A s.heap H locs → ∀ (ls : Array Slot), lv_has ls 5 [(4, .int j), (3, .int lk), (2, .int i), (1, .int nx), (0, .ref h0)] → W p l e (headSpec wsX5_laysNumbers ({ frames := 0, cells := 0, slots := 0, locals := 0 })).room s m ([.ref h0] : List Value).toArray below meth c H locs 0 0 (MQ below (va_Qv (fun u : (Nat → Int32) => kindOk u m_n.toInt) (fun (u : (Nat → Int32)) (t : State) => va_P (dC, dI) vwCl [kx_5 h0 g_row m_n m_slots m_thrown g_many g_loss g_less g_voteValue g_voteNumber g_allValue g_allNumber m_allMany g_nodeL g_nodeR m_nodes g_part m_partMany g_wasMany g_wasLoss g_wasValue g_wasNumber g_path m_pathMany g_heavyValue g_heavyTimes m_heavyMany g_fewest g_which g_met m_mostMet, kx_a g_row cyI 160 f, kx_a g_which cyI 160 u] t.heap ∧ va_K (dC, dI) vwCl [(cyI, .int)] t ∧ va_D A [kx_5 h0 g_row m_n m_slots m_thrown g_many g_loss g_less g_voteValue g_voteNumber g_allValue g_allNumber m_allMany g_nodeL g_nodeR m_nodes g_part m_partMany g_wasMany g_wasLoss g_wasValue g_wasNumber g_path m_pathMany g_heavyValue g_heavyTimes m_heavyMany g_fewest g_which g_met m_mostMet, kx_a g_row cyI 160 f, kx_a g_which cyI 160 u]) A) ([.ref h0] : List Value).toArray s 0 0 A) (F0 m 17 ls []) := by
          intro n
          induction n with
          | zero => intro j lk LP2_h0 LP2_h1 hn; exact absurd hn (Nat.not_lt_zero _)
          | succ n ih2 =>
            intro j lk LP2_h0 LP2_h1 hn2 H locs hP hD hS ls hl
            refine lv_iload hx hb dX5_laysNumbers_17 (lv_at hl 0 rfl) ?_
            refine lv_iload_n hx hb dX5_laysNumbers_19 rfl (lv_at hl 2 rfl) ?_
            refine lv_icmp_ge (tgt := 57) hx hb dX5_laysNumbers_20 (by decide) (fun c_2 => ?_) (fun c_2 => ?_)
            · have i_2 : i.toInt ≤ j.toInt := kc_le c_2
              refine lv_aload_n hx hb dX5_laysNumbers_57 rfl (lv_at hl 4 rfl) ?_
              refine va_get (D := (dC, dI)) (ci := 5) (v := .ref g_which) (C := RX5) (T := TX5) (N := 30) hx hb hts hi_5 hown hK hP 0 rfl rfl 27 (by decide) hf_71 (fun _ h9 => h9) rfl dX5_laysNumbers_58 ?_
              refine lv_iload_n hx hb dX5_laysNumbers_61 rfl (lv_at hl 2 rfl) ?_
              refine lv_iload_n hx hb dX5_laysNumbers_62 rfl (lv_at hl 1 rfl) ?_
              refine lv_if_ge (tgt := 70) hx hb dX5_laysNumbers_63 (by decide) (fun c_3 => ?_) (fun c_3 => ?_)
              · have i_3 : 0 ≤ lk.toInt := kc_le c_3
                refine lv_iload_n hx hb dX5_laysNumbers_70 rfl (lv_at hl 1 rfl) ?_
                refine va_iast hx hb hK hP hD hS 2 0 rfl rfl (ki_in (om_10 LP1_h0) (om_1 a1 i_1)) dX5_laysNumbers_71 (fun H locs hP hD hS => ?_)
                obtain ⟨hP, hD⟩ := kx_re (w2 := [kx_5 h0 g_row m_n m_slots m_thrown g_many g_loss g_less g_voteValue g_voteNumber g_allValue g_allNumber m_allMany g_nodeL g_nodeR m_nodes g_part m_partMany g_wasMany g_wasLoss g_wasValue g_wasNumber g_path m_pathMany g_heavyValue g_heavyTimes m_heavyMany g_fewest g_which g_met m_mostMet, kx_a g_row cyI 160 f, kx_a g_which cyI 160 (upd gw i.toNatClampNeg lk)]) hP hD rfl
                refine lv_iload_n hx hb dX5_laysNumbers_72 rfl (lv_at hl 1 rfl) ?_
                refine lv_if_ge (tgt := 79) hx hb dX5_laysNumbers_73 (by decide) (fun c_4 => ?_) (fun c_4 => ?_)
                · have i_4 : 0 ≤ lk.toInt := kc_le c_4
                  obtain ⟨x_5, ex_5⟩ : ∃ y : Int32, y = i + 1 := ⟨_, rfl⟩
                  have i_5 : x_5.toInt = i.toInt + 1 := ki_add ex_5 rfl rfl (om_13 LP1_h0) (om_3 a1 i_1)
                  refine lv_iinc (v := x_5) (lv' := [(2, .int x_5), (4, .int j), (3, .int lk), (1, .int nx), (0, .ref h0)]) hx hb dX5_laysNumbers_79 hl (k := 2) rfl (by rw [ex_5]; rfl) (by decide) rfl (fun ls hl => ?_)
                  refine lv_goto (tgt := 4) hx hb dX5_laysNumbers_82 (by decide) ?_
                  have n_i := ki_nat i rfl (by omega)
                  exact ih1 x_5 nx (upd gw i.toNatClampNeg lk) (om_34 LP1_h0 i_5) (om_10 LP1_h1) (om_4 LP1_h2 i_5) (kindOk_upd LP1_h3 (by omega) (by omega) (by omega) (by omega)) (om_mu hn1 (om_5 i_5) (om_6 i_1)) _ _ hP hD hS ls (lv_sub hl [0, 3, 4] rfl)
                · have i_4 : lk.toInt < 0 := kc_nle c_4
                  exfalso; omega
              · have i_3 : lk.toInt < 0 := kc_nle c_3
                refine lv_iload_n hx hb dX5_laysNumbers_66 rfl (lv_at hl 3 rfl) ?_
                refine lv_goto (tgt := 71) hx hb dX5_laysNumbers_67 (by decide) ?_
                refine va_iast hx hb hK hP hD hS 2 0 rfl rfl (ki_in (om_10 LP1_h0) (om_1 a1 i_1)) dX5_laysNumbers_71 (fun H locs hP hD hS => ?_)
                obtain ⟨hP, hD⟩ := kx_re (w2 := [kx_5 h0 g_row m_n m_slots m_thrown g_many g_loss g_less g_voteValue g_voteNumber g_allValue g_allNumber m_allMany g_nodeL g_nodeR m_nodes g_part m_partMany g_wasMany g_wasLoss g_wasValue g_wasNumber g_path m_pathMany g_heavyValue g_heavyTimes m_heavyMany g_fewest g_which g_met m_mostMet, kx_a g_row cyI 160 f, kx_a g_which cyI 160 (upd gw i.toNatClampNeg nx)]) hP hD rfl
                refine lv_iload_n hx hb dX5_laysNumbers_72 rfl (lv_at hl 1 rfl) ?_
                refine lv_if_ge (tgt := 79) hx hb dX5_laysNumbers_73 (by decide) (fun c_6 => ?_) (fun c_6 => ?_)
                · have i_6 : 0 ≤ lk.toInt := kc_le c_6
                  exfalso; omega
                · have i_6 : lk.toInt < 0 := kc_nle c_6
                  obtain ⟨x_7, ex_7⟩ : ∃ y : Int32, y = nx + 1 := ⟨_, rfl⟩
                  have i_7 : x_7.toInt = nx.toInt + 1 := ki_add ex_7 rfl rfl (om_13 LP1_h1) (om_259 a1 LP1_h2 i_1)
                  refine lv_iinc (v := x_7) (lv' := [(1, .int x_7), (4, .int j), (3, .int lk), (2, .int i), (0, .ref h0)]) hx hb dX5_laysNumbers_76 hl (k := 3) rfl (by rw [ex_7]; rfl) (by decide) rfl (fun ls hl => ?_)
                  obtain ⟨x_8, ex_8⟩ : ∃ y : Int32, y = i + 1 := ⟨_, rfl⟩
                  have i_8 : x_8.toInt = i.toInt + 1 := ki_add ex_8 rfl rfl (om_13 LP1_h0) (om_3 a1 i_1)
                  refine lv_iinc (v := x_8) (lv' := [(2, .int x_8), (1, .int x_7), (4, .int j), (3, .int lk), (0, .ref h0)]) hx hb dX5_laysNumbers_79 hl (k := 3) rfl (by rw [ex_8]; rfl) (by decide) rfl (fun ls hl => ?_)
                  refine lv_goto (tgt := 4) hx hb dX5_laysNumbers_82 (by decide) ?_
                  have n_i := ki_nat i rfl (by omega)
                  exact ih1 x_8 x_7 (upd gw i.toNatClampNeg nx) (om_34 LP1_h0 i_8) (om_34 LP1_h1 i_7) (om_56 LP1_h2 i_7 i_8) (kindOk_upd LP1_h3 (by omega) (by omega) (by omega) (by omega)) (om_mu hn1 (om_5 i_8) (om_6 i_1)) _ _ hP hD hS ls (lv_sub hl [0, 1, 4] rfl)
            · have i_2 : j.toInt < i.toInt := kc_nle c_2
              refine lv_iload_n hx hb dX5_laysNumbers_23 rfl (lv_at hl 1 rfl) ?_
              refine lv_if_ge (tgt := 57) hx hb dX5_laysNumbers_24 (by decide) (fun c_9 => ?_) (fun c_9 => ?_)
              · have i_9 : 0 ≤ lk.toInt := kc_le c_9
                refine lv_aload_n hx hb dX5_laysNumbers_57 rfl (lv_at hl 4 rfl) ?_
                refine va_get (D := (dC, dI)) (ci := 5) (v := .ref g_which) (C := RX5) (T := TX5) (N := 30) hx hb hts hi_5 hown hK hP 0 rfl rfl 27 (by decide) hf_71 (fun _ h9 => h9) rfl dX5_laysNumbers_58 ?_
                refine lv_iload_n hx hb dX5_laysNumbers_61 rfl (lv_at hl 2 rfl) ?_
                refine lv_iload_n hx hb dX5_laysNumbers_62 rfl (lv_at hl 1 rfl) ?_
                refine lv_if_ge (tgt := 70) hx hb dX5_laysNumbers_63 (by decide) (fun c_10 => ?_) (fun c_10 => ?_)
                · have i_10 : 0 ≤ lk.toInt := kc_le c_10
                  refine lv_iload_n hx hb dX5_laysNumbers_70 rfl (lv_at hl 1 rfl) ?_
                  refine va_iast hx hb hK hP hD hS 2 0 rfl rfl (ki_in (om_10 LP1_h0) (om_1 a1 i_1)) dX5_laysNumbers_71 (fun H locs hP hD hS => ?_)
                  obtain ⟨hP, hD⟩ := kx_re (w2 := [kx_5 h0 g_row m_n m_slots m_thrown g_many g_loss g_less g_voteValue g_voteNumber g_allValue g_allNumber m_allMany g_nodeL g_nodeR m_nodes g_part m_partMany g_wasMany g_wasLoss g_wasValue g_wasNumber g_path m_pathMany g_heavyValue g_heavyTimes m_heavyMany g_fewest g_which g_met m_mostMet, kx_a g_row cyI 160 f, kx_a g_which cyI 160 (upd gw i.toNatClampNeg lk)]) hP hD rfl
                  refine lv_iload_n hx hb dX5_laysNumbers_72 rfl (lv_at hl 1 rfl) ?_
                  refine lv_if_ge (tgt := 79) hx hb dX5_laysNumbers_73 (by decide) (fun c_11 => ?_) (fun c_11 => ?_)
                  · have i_11 : 0 ≤ lk.toInt := kc_le c_11
                    obtain ⟨x_12, ex_12⟩ : ∃ y : Int32, y = i + 1 := ⟨_, rfl⟩
                    have i_12 : x_12.toInt = i.toInt + 1 := ki_add ex_12 rfl rfl (om_13 LP1_h0) (om_3 a1 i_1)
                    refine lv_iinc (v := x_12) (lv' := [(2, .int x_12), (4, .int j), (3, .int lk), (1, .int nx), (0, .ref h0)]) hx hb dX5_laysNumbers_79 hl (k := 2) rfl (by rw [ex_12]; rfl) (by decide) rfl (fun ls hl => ?_)
                    refine lv_goto (tgt := 4) hx hb dX5_laysNumbers_82 (by decide) ?_
                    have n_i := ki_nat i rfl (by omega)
                    exact ih1 x_12 nx (upd gw i.toNatClampNeg lk) (om_34 LP1_h0 i_12) (om_10 LP1_h1) (om_4 LP1_h2 i_12) (kindOk_upd LP1_h3 (by omega) (by omega) (by omega) (by omega)) (om_mu hn1 (om_5 i_12) (om_6 i_1)) _ _ hP hD hS ls (lv_sub hl [0, 3, 4] rfl)
                  · have i_11 : lk.toInt < 0 := kc_nle c_11
                    exfalso; omega
                · have i_10 : lk.toInt < 0 := kc_nle c_10
                  exfalso; omega
              · have i_9 : lk.toInt < 0 := kc_nle c_9
                refine lv_aload_n hx hb dX5_laysNumbers_27 rfl (lv_at hl 4 rfl) ?_
                refine va_get (D := (dC, dI)) (ci := 5) (v := .ref g_row) (C := RX5) (T := TX5) (N := 30) hx hb hts hi_5 hown hK hP 0 rfl rfl 0 (by decide) hf_7 (fun _ h9 => h9) rfl dX5_laysNumbers_28 ?_
                refine lv_iload hx hb dX5_laysNumbers_31 (lv_at hl 0 rfl) ?_
                refine va_iald hx hb hK hP 1 0 rfl rfl (ki_in (om_10 LP2_h0) (om_260 a1 i_1 i_2)) dX5_laysNumbers_33 ?_
                refine lv_topi (fun y_13 ey_13 => ?_)
                have j_13 : y_13.toInt = (f j.toNatClampNeg).toInt := congrArg Int32.toInt ey_13
                refine lv_aload_n hx hb dX5_laysNumbers_34 rfl (lv_at hl 4 rfl) ?_
                refine va_get (D := (dC, dI)) (ci := 5) (v := .ref g_row) (C := RX5) (T := TX5) (N := 30) hx hb hts hi_5 hown hK hP 0 rfl rfl 0 (by decide) hf_7 (fun _ h9 => h9) rfl dX5_laysNumbers_35 ?_
                refine lv_iload_n hx hb dX5_laysNumbers_38 rfl (lv_at hl 2 rfl) ?_
                refine va_iald hx hb hK hP 1 0 rfl rfl (ki_in (om_10 LP1_h0) (om_1 a1 i_1)) dX5_laysNumbers_39 ?_
                refine lv_topi (fun y_14 ey_14 => ?_)
                have j_14 : y_14.toInt = (f i.toNatClampNeg).toInt := congrArg Int32.toInt ey_14
                refine lv_icmp_ne (tgt := 51) hx hb dX5_laysNumbers_40 (by decide) (fun c_15 => ?_) (fun c_15 => ?_)
                · have i_15 : ¬ y_13.toInt = y_14.toInt := kc_ne c_15
                  obtain ⟨x_16, ex_16⟩ : ∃ y : Int32, y = j + 1 := ⟨_, rfl⟩
                  have i_16 : x_16.toInt = j.toInt + 1 := ki_add ex_16 rfl rfl (om_13 LP2_h0) (om_261 a1 i_1 i_2)
                  refine lv_iinc (v := x_16) (lv' := [(4, .int x_16), (3, .int lk), (2, .int i), (1, .int nx), (0, .ref h0)]) hx hb dX5_laysNumbers_51 hl (k := 0) rfl (by rw [ex_16]; rfl) (by decide) rfl (fun ls hl => ?_)
                  refine lv_goto (tgt := 17) hx hb dX5_laysNumbers_54 (by decide) ?_
                  exact ih2 x_16 lk (om_34 LP2_h0 i_16) (by omega) (om_mu hn2 (om_5 i_16) (om_6 i_2)) _ _ hP hD hS ls (lv_sub hl [0, 1, 2, 3, 4] rfl)
                · have i_15 : y_13.toInt = y_14.toInt := kc_eq c_15
                  refine lv_aload_n hx hb dX5_laysNumbers_43 rfl (lv_at hl 4 rfl) ?_
                  refine va_get (D := (dC, dI)) (ci := 5) (v := .ref g_which) (C := RX5) (T := TX5) (N := 30) hx hb hts hi_5 hown hK hP 0 rfl rfl 27 (by decide) hf_71 (fun _ h9 => h9) rfl dX5_laysNumbers_44 ?_
                  refine lv_iload hx hb dX5_laysNumbers_47 (lv_at hl 0 rfl) ?_
                  refine va_iald hx hb hK hP 2 0 rfl rfl (ki_in (om_10 LP2_h0) (om_260 a1 i_1 i_2)) dX5_laysNumbers_49 ?_
                  refine lv_topi (fun y_17 ey_17 => ?_)
                  have j_17 : y_17.toInt = (gw j.toNatClampNeg).toInt := congrArg Int32.toInt ey_17
                  have n_18 : (j.toNatClampNeg : Int) = j.toInt := ki_nat _ rfl (om_10 LP2_h0)
                  have i_19 := LP1_h3 j.toNatClampNeg (by omega)
                  refine lv_istore_n (lv' := [(3, .int y_17), (4, .int j), (2, .int i), (1, .int nx), (0, .ref h0)]) hx hb dX5_laysNumbers_50 rfl hl (by decide) rfl (fun ls hl => ?_)
                  obtain ⟨x_20, ex_20⟩ : ∃ y : Int32, y = j + 1 := ⟨_, rfl⟩
                  have i_20 : x_20.toInt = j.toInt + 1 := ki_add ex_20 rfl rfl (om_13 LP2_h0) (om_261 a1 i_1 i_2)
                  refine lv_iinc (v := x_20) (lv' := [(4, .int x_20), (3, .int y_17), (2, .int i), (1, .int nx), (0, .ref h0)]) hx hb dX5_laysNumbers_51 hl (k := 1) rfl (by rw [ex_20]; rfl) (by decide) rfl (fun ls hl => ?_)
                  refine lv_goto (tgt := 17) hx hb dX5_laysNumbers_54 (by decide) ?_
                  exact ih2 x_20 y_17 (om_34 LP2_h0 i_20) (by omega) (om_mu hn2 (om_5 i_20) (om_6 i_2)) _ _ hP hD hS ls (lv_sub hl [0, 1, 2, 3, 4] rfl)
        have k_21 : (0 : Int32).toInt = 0 := rfl
        have k_22 : ((-1) : Int32).toInt = -1 := rfl
        exact LP2 ((i.toInt - 0 : Int).toNat + 1) 0 (-1) om_35 (by omega) (Nat.lt_succ_self _) _ _ hP hD hS ls (lv_sub hl [0, 1, 2, 3, 4] rfl)
  have k_23 : (0 : Int32).toInt = 0 := rfl
  have k_24 : (0 : Int32).toInt = 0 := rfl
  exact LP1 ((m_n.toInt - 0 : Int).toNat + 1) 0 0 fw om_35 om_35 om_35 (kindOk_0 _ (by omega)) (Nat.lt_succ_self _) _ _ hP hD hS ls (lv_sub hl [0, 1, 2] rfl)

set_option maxHeartbeats 4000000 in
set_option maxRecDepth 100000 in
theorem c_X5_begins (l : Launch) (dC : Nat → ClassId) (dI : Nat → Nat → Nat) (h0 : Nat) (g_row : Nat) (g_many : Nat) (g_loss : Nat) (g_less : Nat) (g_voteValue : Nat) (g_voteNumber : Nat) (g_allValue : Nat) (g_allNumber : Nat) (g_nodeL : Nat) (g_nodeR : Nat) (g_part : Nat) (g_wasMany : Nat) (g_wasLoss : Nat) (g_wasValue : Nat) (g_wasNumber : Nat) (g_path : Nat) (g_heavyValue : Nat) (g_heavyTimes : Nat) (g_fewest : Nat) (g_which : Nat) (g_met : Nat) (m_n : Int32) (m_slots : Int32) (m_thrown : Int32) (m_allMany : Int32) (m_nodes : Int32) (m_partMany : Int32) (m_pathMany : Int32) (m_heavyMany : Int32) (m_mostMet : Int32) (cyI : ClassId) (fq : Nat → Int32) (sz : Nat) (a0 : 0 ≤ m_n.toInt) (a1 : m_n.toInt ≤ 160) : kx_MQ l (dC, dI) yX5_begins wsX5_begins ({ frames := 0, cells := 0, slots := 0, locals := 0 }) [.ref h0] [kx_5 h0 g_row m_n m_slots m_thrown g_many g_loss g_less g_voteValue g_voteNumber g_allValue g_allNumber m_allMany g_nodeL g_nodeR m_nodes g_part m_partMany g_wasMany g_wasLoss g_wasValue g_wasNumber g_path m_pathMany g_heavyValue g_heavyTimes m_heavyMany g_fewest g_which g_met m_mostMet, kx_a g_met cyI 160 fq] [(cyI, .int)] sz (fun A => va_Qv (fun u : (Nat → Int32) => True) (fun (u : (Nat → Int32)) (t : State) => va_P (dC, dI) vwCl [kx_5 h0 g_row m_n m_slots m_thrown g_many g_loss g_less g_voteValue g_voteNumber g_allValue g_allNumber m_allMany g_nodeL g_nodeR m_nodes g_part m_partMany g_wasMany g_wasLoss g_wasValue g_wasNumber g_path m_pathMany g_heavyValue g_heavyTimes m_heavyMany g_fewest g_which g_met 0, kx_a g_met cyI 160 u] t.heap ∧ va_K (dC, dI) vwCl [(cyI, .int)] t ∧ va_D A [kx_5 h0 g_row m_n m_slots m_thrown g_many g_loss g_less g_voteValue g_voteNumber g_allValue g_allNumber m_allMany g_nodeL g_nodeR m_nodes g_part m_partMany g_wasMany g_wasLoss g_wasValue g_wasNumber g_path m_pathMany g_heavyValue g_heavyTimes m_heavyMany g_fewest g_which g_met 0, kx_a g_met cyI 160 u]) A) := by
  refine kx_stQ (ws := wsX5_begins) (cc := cX5_begins) (maxL := 2) (ret := none) (by decide) rfl (Nat.le_of_ble_eq_true rfl) ?_
  intro p e s m below meth c A ls hx hb hr hlocks hts hown hml hA hS hP hK hD hl
  have hown : s.vm.findClass RX5 = some m.cls := hown
  have hl : lv_has ls 2 [(0, .ref h0)] := hl
  have hf_84 := hts (.fieldLink RX5 84 "MajorityIndexModel" "n" "I") (List.mem_of_getElem? (i := 1) rfl)
  have hi_5 : ∀ w ∈ u_ws RX5 TX5 30, w ∈ wsX5_begins := fun w h => List.mem_cons_of_mem _ (List.mem_append_right _ h)
  have hf_210 := hts (.fieldLink RX5 210 "MajorityIndexModel" "mostMet" "I") (List.mem_of_getElem? (i := 3) rfl)
  have hf_74 := hts (.fieldLink RX5 74 "MajorityIndexModel" "met" "[I") (List.mem_of_getElem? (i := 2) rfl)
  refine lv_iconst (v := 0) hx hb dX5_begins_0 (by decide) ?_
  refine lv_istore_n (lv' := [(1, .int 0), (0, .ref h0)]) hx hb dX5_begins_1 rfl hl (by decide) rfl (fun ls hl => ?_)
  have LP1 : ∀ (n : Nat) (i : Int32) (gq : Nat → Int32), (0 ≤ i.toInt) → (m_n.toInt - i.toInt).toNat < n → ∀ (H : Heap) (locs : List Loc), va_P (dC, dI) vwCl [kx_5 h0 g_row m_n m_slots m_thrown g_many g_loss g_less g_voteValue g_voteNumber g_allValue g_allNumber m_allMany g_nodeL g_nodeR m_nodes g_part m_partMany g_wasMany g_wasLoss g_wasValue g_wasNumber g_path m_pathMany g_heavyValue g_heavyTimes m_heavyMany g_fewest g_which g_met m_mostMet, kx_a g_met cyI 160 gq] H → va_D A [kx_5 h0 g_row m_n m_slots m_thrown g_many g_loss g_less g_voteValue g_voteNumber g_allValue g_allNumber m_allMany g_nodeL g_nodeR m_nodes g_part m_partMany g_wasMany g_wasLoss g_wasValue g_wasNumber g_path m_pathMany g_heavyValue g_heavyTimes m_heavyMany g_fewest g_which g_met m_mostMet, kx_a g_met cyI 160 gq] → va_S A s.heap H locs → ∀ (ls : Array Slot), lv_has ls 2 [(1, .int i), (0, .ref h0)] → W p l e (headSpec wsX5_begins ({ frames := 0, cells := 0, slots := 0, locals := 0 })).room s m ([.ref h0] : List Value).toArray below meth c H locs 0 0 (MQ below (va_Qv (fun u : (Nat → Int32) => True) (fun (u : (Nat → Int32)) (t : State) => va_P (dC, dI) vwCl [kx_5 h0 g_row m_n m_slots m_thrown g_many g_loss g_less g_voteValue g_voteNumber g_allValue g_allNumber m_allMany g_nodeL g_nodeR m_nodes g_part m_partMany g_wasMany g_wasLoss g_wasValue g_wasNumber g_path m_pathMany g_heavyValue g_heavyTimes m_heavyMany g_fewest g_which g_met 0, kx_a g_met cyI 160 u] t.heap ∧ va_K (dC, dI) vwCl [(cyI, .int)] t ∧ va_D A [kx_5 h0 g_row m_n m_slots m_thrown g_many g_loss g_less g_voteValue g_voteNumber g_allValue g_allNumber m_allMany g_nodeL g_nodeR m_nodes g_part m_partMany g_wasMany g_wasLoss g_wasValue g_wasNumber g_path m_pathMany g_heavyValue g_heavyTimes m_heavyMany g_fewest g_which g_met 0, kx_a g_met cyI 160 u]) A) ([.ref h0] : List Value).toArray s 0 0 A) (F0 m 2 ls []) := by
    intro n
    induction n with
    | zero => intro i gq LP1_h0 hn; exact absurd hn (Nat.not_lt_zero _)
    | succ n ih1 =>
      intro i gq LP1_h0 hn1 H locs hP hD hS ls hl
      refine lv_iload_n hx hb dX5_begins_2 rfl (lv_at hl 0 rfl) ?_
      refine lv_aload_n hx hb dX5_begins_3 rfl (lv_at hl 1 rfl) ?_
      refine va_get (D := (dC, dI)) (ci := 5) (v := .int m_n) (C := RX5) (T := TX5) (N := 30) hx hb hts hi_5 hown hK hP 0 rfl rfl 1 (by decide) hf_84 (fun _ h9 => h9) rfl dX5_begins_4 ?_
      refine lv_icmp_ge (tgt := 23) hx hb dX5_begins_7 (by decide) (fun c_1 => ?_) (fun c_1 => ?_)
      · have i_1 : m_n.toInt ≤ i.toInt := kc_le c_1
        refine lv_aload_n hx hb dX5_begins_23 rfl (lv_at hl 1 rfl) ?_
        refine lv_iconst (v := 0) hx hb dX5_begins_24 (by decide) ?_
        refine va_put (D := (dC, dI)) (ci := 5) (v := .int 0) (ty := .int) (C := RX5) (T := TX5) (N := 30) hx hb hts hi_5 tyX5 tyX5_ok nmX5 hown hK hP hD hS 0 rfl rfl 29 (by decide) hf_210 (fun _ h9 => h9) rfl (by decide +kernel) rfl rfl (Nat.le_of_ble_eq_true rfl) dX5_begins_25 (fun H locs hP hD hS => ?_)
        obtain ⟨hP, hD⟩ := kx_re (w2 := [kx_5 h0 g_row m_n m_slots m_thrown g_many g_loss g_less g_voteValue g_voteNumber g_allValue g_allNumber m_allMany g_nodeL g_nodeR m_nodes g_part m_partMany g_wasMany g_wasLoss g_wasValue g_wasNumber g_path m_pathMany g_heavyValue g_heavyTimes m_heavyMany g_fewest g_which g_met 0, kx_a g_met cyI 160 gq]) hP hD rfl
        have hP9 := hP
        have hD9 := hD
        have hK9 := hK
        exact W.vret hx hb hr (hlocks := hlocks) (fun t ht hW => ⟨⟨(gq), rfl, trivial, by rw [ht]; exact hP9, va_K.moved hW.alike hK9, hD9⟩, hS.F ht⟩) hS.2.2 dX5_begins_28
      · have i_1 : i.toInt < m_n.toInt := kc_nle c_1
        refine lv_aload_n hx hb dX5_begins_10 rfl (lv_at hl 1 rfl) ?_
        refine va_get (D := (dC, dI)) (ci := 5) (v := .ref g_met) (C := RX5) (T := TX5) (N := 30) hx hb hts hi_5 hown hK hP 0 rfl rfl 28 (by decide) hf_74 (fun _ h9 => h9) rfl dX5_begins_11 ?_
        refine lv_iload_n hx hb dX5_begins_14 rfl (lv_at hl 0 rfl) ?_
        refine lv_iconst (v := 0) hx hb dX5_begins_15 (by decide) ?_
        refine va_iast hx hb hK hP hD hS 1 0 rfl rfl (ki_in (om_10 LP1_h0) (om_1 a1 i_1)) dX5_begins_16 (fun H locs hP hD hS => ?_)
        obtain ⟨hP, hD⟩ := kx_re (w2 := [kx_5 h0 g_row m_n m_slots m_thrown g_many g_loss g_less g_voteValue g_voteNumber g_allValue g_allNumber m_allMany g_nodeL g_nodeR m_nodes g_part m_partMany g_wasMany g_wasLoss g_wasValue g_wasNumber g_path m_pathMany g_heavyValue g_heavyTimes m_heavyMany g_fewest g_which g_met m_mostMet, kx_a g_met cyI 160 (upd gq i.toNatClampNeg 0)]) hP hD rfl
        obtain ⟨x_2, ex_2⟩ : ∃ y : Int32, y = i + 1 := ⟨_, rfl⟩
        have i_2 : x_2.toInt = i.toInt + 1 := ki_add ex_2 rfl rfl (om_13 LP1_h0) (om_3 a1 i_1)
        refine lv_iinc (v := x_2) (lv' := [(1, .int x_2), (0, .ref h0)]) hx hb dX5_begins_17 hl (k := 0) rfl (by rw [ex_2]; rfl) (by decide) rfl (fun ls hl => ?_)
        refine lv_goto (tgt := 2) hx hb dX5_begins_20 (by decide) ?_
        exact ih1 x_2 (upd gq i.toNatClampNeg 0) (om_34 LP1_h0 i_2) (om_mu hn1 (om_5 i_2) (om_6 i_1)) _ _ hP hD hS ls (lv_sub hl [0, 1] rfl)
  have k_3 : (0 : Int32).toInt = 0 := rfl
  exact LP1 ((m_n.toInt - 0 : Int).toNat + 1) 0 fq om_35 (Nat.lt_succ_self _) _ _ hP hD hS ls (lv_sub hl [0, 1] rfl)

set_option maxHeartbeats 4000000 in
set_option maxRecDepth 100000 in
theorem c_X5_goesOn (l : Launch) (dC : Nat → ClassId) (dI : Nat → Nat → Nat) (h0 : Nat) (g_row : Nat) (g_many : Nat) (g_loss : Nat) (g_less : Nat) (g_voteValue : Nat) (g_voteNumber : Nat) (g_allValue : Nat) (g_allNumber : Nat) (g_nodeL : Nat) (g_nodeR : Nat) (g_part : Nat) (g_wasMany : Nat) (g_wasLoss : Nat) (g_wasValue : Nat) (g_wasNumber : Nat) (g_path : Nat) (g_heavyValue : Nat) (g_heavyTimes : Nat) (g_fewest : Nat) (g_which : Nat) (g_met : Nat) (m_n : Int32) (m_slots : Int32) (m_thrown : Int32) (m_allMany : Int32) (m_nodes : Int32) (m_partMany : Int32) (m_pathMany : Int32) (m_heavyMany : Int32) (m_mostMet : Int32) (cyI : ClassId) (fw : Nat → Int32) (fq : Nat → Int32) (nn : Int) (p0 : Int32) (p1 : Int32) (sz : Nat) (k0 : kindOk fw nn) (b0 : 1 ≤ p0.toInt) (b1 : p0.toInt ≤ nn) (b2 : nn ≤ 160) : kx_MQ l (dC, dI) yX5_goesOn wsX5_goesOn ({ frames := 0, cells := 0, slots := 0, locals := 0 }) [.ref h0, .int p0, .int p1] [kx_5 h0 g_row m_n m_slots m_thrown g_many g_loss g_less g_voteValue g_voteNumber g_allValue g_allNumber m_allMany g_nodeL g_nodeR m_nodes g_part m_partMany g_wasMany g_wasLoss g_wasValue g_wasNumber g_path m_pathMany g_heavyValue g_heavyTimes m_heavyMany g_fewest g_which g_met m_mostMet, kx_a g_which cyI 160 fw, kx_a g_met cyI 160 fq] [(cyI, .int)] sz (fun A => va_Qi (fun (r : Int32) (u : Int32 × (Nat → Int32)) => r = 1 ∨ r = 0) (fun (u : Int32 × (Nat → Int32)) (t : State) => va_P (dC, dI) vwCl [kx_5 h0 g_row m_n m_slots m_thrown g_many g_loss g_less g_voteValue g_voteNumber g_allValue g_allNumber m_allMany g_nodeL g_nodeR m_nodes g_part m_partMany g_wasMany g_wasLoss g_wasValue g_wasNumber g_path m_pathMany g_heavyValue g_heavyTimes m_heavyMany g_fewest g_which g_met u.1, kx_a g_which cyI 160 fw, kx_a g_met cyI 160 u.2] t.heap ∧ va_K (dC, dI) vwCl [(cyI, .int)] t ∧ va_D A [kx_5 h0 g_row m_n m_slots m_thrown g_many g_loss g_less g_voteValue g_voteNumber g_allValue g_allNumber m_allMany g_nodeL g_nodeR m_nodes g_part m_partMany g_wasMany g_wasLoss g_wasValue g_wasNumber g_path m_pathMany g_heavyValue g_heavyTimes m_heavyMany g_fewest g_which g_met u.1, kx_a g_which cyI 160 fw, kx_a g_met cyI 160 u.2]) A) := by
  refine kx_stQ (ws := wsX5_goesOn) (cc := cX5_goesOn) (maxL := 4) (ret := (some .boolean)) (by decide) rfl (Nat.le_of_ble_eq_true rfl) ?_
  intro p e s m below meth c A ls hx hb hr hlocks hts hown hml hA hS hP hK hD hl
  have hown : s.vm.findClass RX5 = some m.cls := hown
  have hl : lv_has ls 4 [(0, .ref h0), (1, .int p0), (2, .int p1)] := hl
  have hf_71 := hts (.fieldLink RX5 71 "MajorityIndexModel" "which" "[I") (List.mem_of_getElem? (i := 1) rfl)
  have hi_5 : ∀ w ∈ u_ws RX5 TX5 30, w ∈ wsX5_goesOn := fun w h => List.mem_cons_of_mem _ (List.mem_append_right _ h)
  have hf_74 := hts (.fieldLink RX5 74 "MajorityIndexModel" "met" "[I") (List.mem_of_getElem? (i := 2) rfl)
  have hf_210 := hts (.fieldLink RX5 210 "MajorityIndexModel" "mostMet" "I") (List.mem_of_getElem? (i := 3) rfl)
  refine lv_aload_n hx hb dX5_goesOn_0 rfl (lv_at hl 0 rfl) ?_
  refine va_get (D := (dC, dI)) (ci := 5) (v := .ref g_which) (C := RX5) (T := TX5) (N := 30) hx hb hts hi_5 hown hK hP 0 rfl rfl 27 (by decide) hf_71 (fun _ h9 => h9) rfl dX5_goesOn_1 ?_
  refine lv_iload_n hx hb dX5_goesOn_4 rfl (lv_at hl 1 rfl) ?_
  refine lv_iconst (v := 1) hx hb dX5_goesOn_5 (by decide) ?_
  refine lv_isub hx hb dX5_goesOn_6 ?_
  refine lv_topi (fun y_1 ey_1 => ?_)
  have i_1 : y_1.toInt = p0.toInt - 1 := ki_sub ey_1 rfl rfl (om_182 b0) (by omega)
  refine va_iald hx hb hK hP 1 0 rfl rfl (ki_in (om_237 b0 i_1) (by omega)) dX5_goesOn_7 ?_
  refine lv_topi (fun y_2 ey_2 => ?_)
  have j_2 : y_2.toInt = (fw y_1.toNatClampNeg).toInt := congrArg Int32.toInt ey_2
  have n_3 : (y_1.toNatClampNeg : Int) = y_1.toInt := ki_nat _ rfl (om_237 b0 i_1)
  have i_4 := k0 y_1.toNatClampNeg (by omega)
  refine lv_istore_n (lv' := [(3, .int y_2), (0, .ref h0), (1, .int p0), (2, .int p1)]) hx hb dX5_goesOn_8 rfl hl (by decide) rfl (fun ls hl => ?_)
  refine lv_aload_n hx hb dX5_goesOn_9 rfl (lv_at hl 1 rfl) ?_
  refine va_get (D := (dC, dI)) (ci := 5) (v := .ref g_met) (C := RX5) (T := TX5) (N := 30) hx hb hts hi_5 hown hK hP 0 rfl rfl 28 (by decide) hf_74 (fun _ h9 => h9) rfl dX5_goesOn_10 ?_
  refine lv_iload_n hx hb dX5_goesOn_13 rfl (lv_at hl 0 rfl) ?_
  refine lv_dup2_11 hx hb dX5_goesOn_14 rfl rfl ?_
  refine va_iald hx hb hK hP 2 0 rfl rfl (ki_in (om_144 j_2 i_4.1) (by omega)) dX5_goesOn_15 ?_
  refine lv_topi (fun y_5 ey_5 => ?_)
  have j_5 : y_5.toInt = (fq y_2.toNatClampNeg).toInt := congrArg Int32.toInt ey_5
  refine lv_iconst (v := 1) hx hb dX5_goesOn_16 (by decide) ?_
  refine lv_iadd hx hb dX5_goesOn_17 ?_
  refine lv_topi (fun y_6 ey_6 => ?_)
  refine va_iast hx hb hK hP hD hS 2 0 rfl rfl (ki_in (om_144 j_2 i_4.1) (by omega)) dX5_goesOn_18 (fun H locs hP hD hS => ?_)
  obtain ⟨hP, hD⟩ := kx_re (w2 := [kx_5 h0 g_row m_n m_slots m_thrown g_many g_loss g_less g_voteValue g_voteNumber g_allValue g_allNumber m_allMany g_nodeL g_nodeR m_nodes g_part m_partMany g_wasMany g_wasLoss g_wasValue g_wasNumber g_path m_pathMany g_heavyValue g_heavyTimes m_heavyMany g_fewest g_which g_met m_mostMet, kx_a g_which cyI 160 fw, kx_a g_met cyI 160 (upd fq y_2.toNatClampNeg y_6)]) hP hD rfl
  refine lv_aload_n hx hb dX5_goesOn_19 rfl (lv_at hl 1 rfl) ?_
  refine va_get (D := (dC, dI)) (ci := 5) (v := .ref g_met) (C := RX5) (T := TX5) (N := 30) hx hb hts hi_5 hown hK hP 0 rfl rfl 28 (by decide) hf_74 (fun _ h9 => h9) rfl dX5_goesOn_20 ?_
  refine lv_iload_n hx hb dX5_goesOn_23 rfl (lv_at hl 0 rfl) ?_
  refine va_iald hx hb hK hP 2 0 rfl rfl (ki_in (om_144 j_2 i_4.1) (by omega)) dX5_goesOn_24 ?_
  refine lv_topi (fun y_7 ey_7 => ?_)
  have j_7 : y_7.toInt = ((upd fq y_2.toNatClampNeg y_6) y_2.toNatClampNeg).toInt := congrArg Int32.toInt ey_7
  refine lv_aload_n hx hb dX5_goesOn_25 rfl (lv_at hl 1 rfl) ?_
  refine va_get (D := (dC, dI)) (ci := 5) (v := .int m_mostMet) (C := RX5) (T := TX5) (N := 30) hx hb hts hi_5 hown hK hP 0 rfl rfl 29 (by decide) hf_210 (fun _ h9 => h9) rfl dX5_goesOn_26 ?_
  refine lv_icmp_le (tgt := 42) hx hb dX5_goesOn_29 (by decide) (fun c_8 => ?_) (fun c_8 => ?_)
  · have i_8 : y_7.toInt ≤ m_mostMet.toInt := kc_le c_8
    refine lv_iconst (v := 2) hx hb dX5_goesOn_42 (by decide) ?_
    refine lv_aload_n hx hb dX5_goesOn_43 rfl (lv_at hl 1 rfl) ?_
    refine va_get (D := (dC, dI)) (ci := 5) (v := .int m_mostMet) (C := RX5) (T := TX5) (N := 30) hx hb hts hi_5 hown hK hP 0 rfl rfl 29 (by decide) hf_210 (fun _ h9 => h9) rfl dX5_goesOn_44 ?_
    refine lv_imul hx hb dX5_goesOn_47 ?_
    refine lv_topi (fun y_9 ey_9 => ?_)
    refine lv_iload_n hx hb dX5_goesOn_48 rfl (lv_at hl 2 rfl) ?_
    refine lv_iload_n hx hb dX5_goesOn_49 rfl (lv_at hl 3 rfl) ?_
    refine lv_isub hx hb dX5_goesOn_50 ?_
    refine lv_topi (fun y_10 ey_10 => ?_)
    refine lv_icmp_le (tgt := 58) hx hb dX5_goesOn_51 (by decide) (fun c_11 => ?_) (fun c_11 => ?_)
    · have i_11 : y_9.toInt ≤ y_10.toInt := kc_le c_11
      refine lv_iconst (v := 0) hx hb dX5_goesOn_58 (by decide) ?_
      have hP9 := hP
      have hD9 := hD
      have hK9 := hK
      exact W.zret (v := 0) hx hb hr (by decide) (hlocks := hlocks) (fun t ht hW => ⟨⟨0, (m_mostMet, (upd fq y_2.toNatClampNeg y_6)), rfl, (Or.inr rfl), by rw [ht]; exact hP9, va_K.moved hW.alike hK9, hD9⟩, hS.F ht⟩) hS.2.2 dX5_goesOn_59
    · have i_11 : y_10.toInt < y_9.toInt := kc_nle c_11
      refine lv_iconst (v := 1) hx hb dX5_goesOn_54 (by decide) ?_
      refine lv_goto (tgt := 59) hx hb dX5_goesOn_55 (by decide) ?_
      have hP9 := hP
      have hD9 := hD
      have hK9 := hK
      exact W.zret (v := 1) hx hb hr (by decide) (hlocks := hlocks) (fun t ht hW => ⟨⟨1, (m_mostMet, (upd fq y_2.toNatClampNeg y_6)), rfl, (Or.inl rfl), by rw [ht]; exact hP9, va_K.moved hW.alike hK9, hD9⟩, hS.F ht⟩) hS.2.2 dX5_goesOn_59
  · have i_8 : m_mostMet.toInt < y_7.toInt := kc_nle c_8
    refine lv_aload_n hx hb dX5_goesOn_32 rfl (lv_at hl 1 rfl) ?_
    refine lv_aload_n hx hb dX5_goesOn_33 rfl (lv_at hl 1 rfl) ?_
    refine va_get (D := (dC, dI)) (ci := 5) (v := .ref g_met) (C := RX5) (T := TX5) (N := 30) hx hb hts hi_5 hown hK hP 0 rfl rfl 28 (by decide) hf_74 (fun _ h9 => h9) rfl dX5_goesOn_34 ?_
    refine lv_iload_n hx hb dX5_goesOn_37 rfl (lv_at hl 0 rfl) ?_
    refine va_iald hx hb hK hP 2 0 rfl rfl (ki_in (om_144 j_2 i_4.1) (by omega)) dX5_goesOn_38 ?_
    refine lv_topi (fun y_12 ey_12 => ?_)
    have j_12 : y_12.toInt = ((upd fq y_2.toNatClampNeg y_6) y_2.toNatClampNeg).toInt := congrArg Int32.toInt ey_12
    refine va_put (D := (dC, dI)) (ci := 5) (v := .int y_12) (ty := .int) (C := RX5) (T := TX5) (N := 30) hx hb hts hi_5 tyX5 tyX5_ok nmX5 hown hK hP hD hS 0 rfl rfl 29 (by decide) hf_210 (fun _ h9 => h9) rfl (by decide +kernel) rfl rfl (Nat.le_of_ble_eq_true rfl) dX5_goesOn_39 (fun H locs hP hD hS => ?_)
    obtain ⟨hP, hD⟩ := kx_re (w2 := [kx_5 h0 g_row m_n m_slots m_thrown g_many g_loss g_less g_voteValue g_voteNumber g_allValue g_allNumber m_allMany g_nodeL g_nodeR m_nodes g_part m_partMany g_wasMany g_wasLoss g_wasValue g_wasNumber g_path m_pathMany g_heavyValue g_heavyTimes m_heavyMany g_fewest g_which g_met y_12, kx_a g_which cyI 160 fw, kx_a g_met cyI 160 (upd fq y_2.toNatClampNeg y_6)]) hP hD rfl
    refine lv_iconst (v := 2) hx hb dX5_goesOn_42 (by decide) ?_
    refine lv_aload_n hx hb dX5_goesOn_43 rfl (lv_at hl 1 rfl) ?_
    refine va_get (D := (dC, dI)) (ci := 5) (v := .int y_12) (C := RX5) (T := TX5) (N := 30) hx hb hts hi_5 hown hK hP 0 rfl rfl 29 (by decide) hf_210 (fun _ h9 => h9) rfl dX5_goesOn_44 ?_
    refine lv_imul hx hb dX5_goesOn_47 ?_
    refine lv_topi (fun y_13 ey_13 => ?_)
    refine lv_iload_n hx hb dX5_goesOn_48 rfl (lv_at hl 2 rfl) ?_
    refine lv_iload_n hx hb dX5_goesOn_49 rfl (lv_at hl 3 rfl) ?_
    refine lv_isub hx hb dX5_goesOn_50 ?_
    refine lv_topi (fun y_14 ey_14 => ?_)
    refine lv_icmp_le (tgt := 58) hx hb dX5_goesOn_51 (by decide) (fun c_15 => ?_) (fun c_15 => ?_)
    · have i_15 : y_13.toInt ≤ y_14.toInt := kc_le c_15
      refine lv_iconst (v := 0) hx hb dX5_goesOn_58 (by decide) ?_
      have hP9 := hP
      have hD9 := hD
      have hK9 := hK
      exact W.zret (v := 0) hx hb hr (by decide) (hlocks := hlocks) (fun t ht hW => ⟨⟨0, (y_12, (upd fq y_2.toNatClampNeg y_6)), rfl, (Or.inr rfl), by rw [ht]; exact hP9, va_K.moved hW.alike hK9, hD9⟩, hS.F ht⟩) hS.2.2 dX5_goesOn_59
    · have i_15 : y_14.toInt < y_13.toInt := kc_nle c_15
      refine lv_iconst (v := 1) hx hb dX5_goesOn_54 (by decide) ?_
      refine lv_goto (tgt := 59) hx hb dX5_goesOn_55 (by decide) ?_
      have hP9 := hP
      have hD9 := hD
      have hK9 := hK
      exact W.zret (v := 1) hx hb hr (by decide) (hlocks := hlocks) (fun t ht hW => ⟨⟨1, (y_12, (upd fq y_2.toNatClampNeg y_6)), rfl, (Or.inl rfl), by rw [ht]; exact hP9, va_K.moved hW.alike hK9, hD9⟩, hS.F ht⟩) hS.2.2 dX5_goesOn_59

set_option maxHeartbeats 4000000 in
set_option maxRecDepth 100000 in
theorem c_X5_majorities (l : Launch) (dC : Nat → ClassId) (dI : Nat → Nat → Nat) (h0 : Nat) (g_row : Nat) (g_many : Nat) (g_loss : Nat) (g_less : Nat) (g_voteValue : Nat) (g_voteNumber : Nat) (g_allValue : Nat) (g_allNumber : Nat) (g_nodeL : Nat) (g_nodeR : Nat) (g_part : Nat) (g_wasMany : Nat) (g_wasLoss : Nat) (g_wasValue : Nat) (g_wasNumber : Nat) (g_path : Nat) (g_heavyValue : Nat) (g_heavyTimes : Nat) (g_fewest : Nat) (g_which : Nat) (g_met : Nat) (m_n : Int32) (m_slots : Int32) (m_thrown : Int32) (m_allMany : Int32) (m_nodes : Int32) (m_partMany : Int32) (m_pathMany : Int32) (m_heavyMany : Int32) (m_mostMet : Int32) (cyI : ClassId) (f : Nat → Int32) (fw : Nat → Int32) (fq : Nat → Int32) (sz : Nat) (a0 : 0 ≤ m_n.toInt) (a1 : m_n.toInt ≤ 160) : kx_MQ l (dC, dI) yX5_majorities wsX5_majorities ({ frames := 1, cells := 0, slots := 0, locals := 45 }) [.ref h0] [kx_5 h0 g_row m_n m_slots m_thrown g_many g_loss g_less g_voteValue g_voteNumber g_allValue g_allNumber m_allMany g_nodeL g_nodeR m_nodes g_part m_partMany g_wasMany g_wasLoss g_wasValue g_wasNumber g_path m_pathMany g_heavyValue g_heavyTimes m_heavyMany g_fewest g_which g_met m_mostMet, kx_a g_row cyI 160 f, kx_a g_which cyI 160 fw, kx_a g_met cyI 160 fq] [(cyI, .int)] sz (fun A => va_Qi (fun (r : Int32) (u : Int32 × (Nat → Int32) × (Nat → Int32)) => True) (fun (u : Int32 × (Nat → Int32) × (Nat → Int32)) (t : State) => va_P (dC, dI) vwCl [kx_5 h0 g_row m_n m_slots 0 g_many g_loss g_less g_voteValue g_voteNumber g_allValue g_allNumber m_allMany g_nodeL g_nodeR m_nodes g_part m_partMany g_wasMany g_wasLoss g_wasValue g_wasNumber g_path m_pathMany g_heavyValue g_heavyTimes m_heavyMany g_fewest g_which g_met u.1, kx_a g_row cyI 160 f, kx_a g_which cyI 160 u.2.1, kx_a g_met cyI 160 u.2.2] t.heap ∧ va_K (dC, dI) vwCl [(cyI, .int)] t ∧ va_D A [kx_5 h0 g_row m_n m_slots 0 g_many g_loss g_less g_voteValue g_voteNumber g_allValue g_allNumber m_allMany g_nodeL g_nodeR m_nodes g_part m_partMany g_wasMany g_wasLoss g_wasValue g_wasNumber g_path m_pathMany g_heavyValue g_heavyTimes m_heavyMany g_fewest g_which g_met u.1, kx_a g_row cyI 160 f, kx_a g_which cyI 160 u.2.1, kx_a g_met cyI 160 u.2.2]) A) := by
  refine kx_stQ (ws := wsX5_majorities) (cc := cX5_majorities) (maxL := 4) (ret := (some .int)) (by decide) rfl (Nat.le_of_ble_eq_true rfl) ?_
  intro p e s m below meth c A ls hx hb hr hlocks hts hown hml hA hS hP hK hD hl
  have hown : s.vm.findClass RX5 = some m.cls := hown
  have hl : lv_has ls 4 [(0, .ref h0)] := hl
  have hf_77 := hts (.fieldLink RX5 77 "MajorityIndexModel" "thrown" "I") (List.mem_of_getElem? (i := 1) rfl)
  have hi_5 : ∀ w ∈ u_ws RX5 TX5 30, w ∈ wsX5_majorities := fun w h => List.mem_cons_of_mem _ (List.mem_append_right _ h)
  have hf_84 := hts (.fieldLink RX5 84 "MajorityIndexModel" "n" "I") (List.mem_of_getElem? (i := 2) rfl)
  refine lv_aload_n hx hb dX5_majorities_0 rfl (lv_at hl 0 rfl) ?_
  refine lv_iconst (v := 0) hx hb dX5_majorities_1 (by decide) ?_
  refine va_put (D := (dC, dI)) (ci := 5) (v := .int 0) (ty := .int) (C := RX5) (T := TX5) (N := 30) hx hb hts hi_5 tyX5 tyX5_ok nmX5 hown hK hP hD hS 0 rfl rfl 3 (by decide) hf_77 (fun _ h9 => h9) rfl (by decide +kernel) rfl rfl (Nat.le_of_ble_eq_true rfl) dX5_majorities_2 (fun H locs hP hD hS => ?_)
  obtain ⟨hP, hD⟩ := kx_re (w2 := [kx_5 h0 g_row m_n m_slots 0 g_many g_loss g_less g_voteValue g_voteNumber g_allValue g_allNumber m_allMany g_nodeL g_nodeR m_nodes g_part m_partMany g_wasMany g_wasLoss g_wasValue g_wasNumber g_path m_pathMany g_heavyValue g_heavyTimes m_heavyMany g_fewest g_which g_met m_mostMet, kx_a g_row cyI 160 f, kx_a g_which cyI 160 fw, kx_a g_met cyI 160 fq]) hP hD rfl
  refine lv_aload_n hx hb dX5_majorities_5 rfl (lv_at hl 0 rfl) ?_
  obtain ⟨hPc, hDc, hFc, hCc⟩ := kx_preM (wc := [kx_5 h0 g_row m_n m_slots 0 g_many g_loss g_less g_voteValue g_voteNumber g_allValue g_allNumber m_allMany g_nodeL g_nodeR m_nodes g_part m_partMany g_wasMany g_wasLoss g_wasValue g_wasNumber g_path m_pathMany g_heavyValue g_heavyTimes m_heavyMany g_fewest g_which g_met m_mostMet, kx_a g_row cyI 160 f, kx_a g_which cyI 160 fw]) hP hD hS hA [true, true, true, false] rfl
  have hKc := hK
  refine va_callv (va_runV (As := []) (rest := []) ⟨hx, hb, hml, hown, hts⟩ (kx_un (c_X5_laysNumbers l dC dI h0 g_row g_many g_loss g_less g_voteValue g_voteNumber g_allValue g_allNumber g_nodeL g_nodeR g_part g_wasMany g_wasLoss g_wasValue g_wasNumber g_path g_heavyValue g_heavyTimes g_fewest g_which g_met m_n m_slots 0 m_allMany m_nodes m_partMany m_pathMany m_heavyMany m_mostMet cyI f fw H.size a0 a1)) (cwV 0 hts gX5_majorities_X5_laysNumbers rfl rfl rfl (by decide +kernel) ⟨Nat.le_of_ble_eq_true rfl, Nat.le_of_ble_eq_true rfl⟩) ⟨fun a U g mk q => by obtain ⟨q0, q1, qP, qK, qD⟩ := q; exact ⟨q0, q1, qP, va_K.moved (u := U) (U := U.calling g mk a) (Vm.Alike.refl U.vm) qK, qD⟩, kx_rc5 hKc hPc (q0 := 0) rfl, fun U hU hW => ⟨rfl, by rw [hU], by rw [hU]; exact hPc, va_K.moved hW.alike hKc, hDc.weaken (fun _ _ _ _ => trivial)⟩⟩ rfl rfl hl.1 rfl (lv_room (Nat.le_of_ble_eq_true rfl)) dX5_majorities_6 ⟨Nat.le_of_ble_eq_true rfl, Nat.le_of_ble_eq_true rfl⟩) hS (fun q _ h => hFc q h) hFc (fun u t H1 locs ht hvm w_1 hB hz1 hk1 hS => ?_)
  obtain ⟨o_2, rfl⟩ : ∃ z, z = u := ⟨_, rfl⟩
  obtain ⟨hP1, hK1, hD1⟩ := hB
  rw [ht] at hP1
  have hK1 := va_K.moved hvm.symm hK1
  obtain ⟨hP, hD⟩ := kx_joinM (w2 := [kx_5 h0 g_row m_n m_slots 0 g_many g_loss g_less g_voteValue g_voteNumber g_allValue g_allNumber m_allMany g_nodeL g_nodeR m_nodes g_part m_partMany g_wasMany g_wasLoss g_wasValue g_wasNumber g_path m_pathMany g_heavyValue g_heavyTimes m_heavyMany g_fewest g_which g_met m_mostMet, kx_a g_row cyI 160 f, kx_a g_which cyI 160 o_2, kx_a g_met cyI 160 fq]) hP hD hP1 hD1 hk1 hFc [true, true, true, false] hCc rfl
  clear hP1 hD1 hK1 hk1 hz1 hFc hDc hPc hKc hCc
  generalize H1 = H at hP hS ⊢
  have w_1 : kindOk o_2 m_n.toInt := w_1
  refine lv_iconst (v := 0) hx hb dX5_majorities_9 (by decide) ?_
  refine lv_istore_n (lv' := [(1, .int 0), (0, .ref h0)]) hx hb dX5_majorities_10 rfl hl (by decide) rfl (fun ls hl => ?_)
  refine lv_iconst (v := 0) hx hb dX5_majorities_11 (by decide) ?_
  refine lv_istore_n (lv' := [(2, .int 0), (1, .int 0), (0, .ref h0)]) hx hb dX5_majorities_12 rfl hl (by decide) rfl (fun ls hl => ?_)
  have LP1 : ∀ (n : Nat) (i : Int32) (sm : Int32) (y_mm : Int32) (y_q : Nat → Int32), (0 ≤ i.toInt) → (m_n.toInt - i.toInt).toNat < n → ∀ (H : Heap) (locs : List Loc), va_P (dC, dI) vwCl [kx_5 h0 g_row m_n m_slots 0 g_many g_loss g_less g_voteValue g_voteNumber g_allValue g_allNumber m_allMany g_nodeL g_nodeR m_nodes g_part m_partMany g_wasMany g_wasLoss g_wasValue g_wasNumber g_path m_pathMany g_heavyValue g_heavyTimes m_heavyMany g_fewest g_which g_met y_mm, kx_a g_row cyI 160 f, kx_a g_which cyI 160 o_2, kx_a g_met cyI 160 y_q] H → va_D A [kx_5 h0 g_row m_n m_slots 0 g_many g_loss g_less g_voteValue g_voteNumber g_allValue g_allNumber m_allMany g_nodeL g_nodeR m_nodes g_part m_partMany g_wasMany g_wasLoss g_wasValue g_wasNumber g_path m_pathMany g_heavyValue g_heavyTimes m_heavyMany g_fewest g_which g_met y_mm, kx_a g_row cyI 160 f, kx_a g_which cyI 160 o_2, kx_a g_met cyI 160 y_q] → va_S A s.heap H locs → ∀ (ls : Array Slot), lv_has ls 4 [(2, .int i), (1, .int sm), (0, .ref h0)] → W p l e (headSpec wsX5_majorities ({ frames := 1, cells := 0, slots := 0, locals := 45 })).room s m ([.ref h0] : List Value).toArray below meth c H locs 0 0 (MQ below (va_Qi (fun (r : Int32) (u : Int32 × (Nat → Int32) × (Nat → Int32)) => True) (fun (u : Int32 × (Nat → Int32) × (Nat → Int32)) (t : State) => va_P (dC, dI) vwCl [kx_5 h0 g_row m_n m_slots 0 g_many g_loss g_less g_voteValue g_voteNumber g_allValue g_allNumber m_allMany g_nodeL g_nodeR m_nodes g_part m_partMany g_wasMany g_wasLoss g_wasValue g_wasNumber g_path m_pathMany g_heavyValue g_heavyTimes m_heavyMany g_fewest g_which g_met u.1, kx_a g_row cyI 160 f, kx_a g_which cyI 160 u.2.1, kx_a g_met cyI 160 u.2.2] t.heap ∧ va_K (dC, dI) vwCl [(cyI, .int)] t ∧ va_D A [kx_5 h0 g_row m_n m_slots 0 g_many g_loss g_less g_voteValue g_voteNumber g_allValue g_allNumber m_allMany g_nodeL g_nodeR m_nodes g_part m_partMany g_wasMany g_wasLoss g_wasValue g_wasNumber g_path m_pathMany g_heavyValue g_heavyTimes m_heavyMany g_fewest g_which g_met u.1, kx_a g_row cyI 160 f, kx_a g_which cyI 160 u.2.1, kx_a g_met cyI 160 u.2.2]) A) ([.ref h0] : List Value).toArray s 0 0 A) (F0 m 13 ls []) := by
    intro n
    induction n with
    | zero => intro i sm y_mm y_q LP1_h0 hn; exact absurd hn (Nat.not_lt_zero _)
    | succ n ih1 =>
      intro i sm y_mm y_q LP1_h0 hn1 H locs hP hD hS ls hl
      refine lv_iload_n hx hb dX5_majorities_13 rfl (lv_at hl 0 rfl) ?_
      refine lv_aload_n hx hb dX5_majorities_14 rfl (lv_at hl 2 rfl) ?_
      refine va_get (D := (dC, dI)) (ci := 5) (v := .int m_n) (C := RX5) (T := TX5) (N := 30) hx hb hts hi_5 hown hK hP 0 rfl rfl 1 (by decide) hf_84 (fun _ h9 => h9) rfl dX5_majorities_15 ?_
      refine lv_icmp_ge (tgt := 61) hx hb dX5_majorities_18 (by decide) (fun c_3 => ?_) (fun c_3 => ?_)
      · have i_3 : m_n.toInt ≤ i.toInt := kc_le c_3
        refine lv_iload_n hx hb dX5_majorities_61 rfl (lv_at hl 1 rfl) ?_
        have hP9 := hP
        have hD9 := hD
        have hK9 := hK
        exact W.iret (v := sm) hx hb hr (hlocks := hlocks) (fun t ht hW => ⟨⟨sm, (y_mm, o_2, y_q), rfl, trivial, by rw [ht]; exact hP9, va_K.moved hW.alike hK9, hD9⟩, hS.F ht⟩) hS.2.2 dX5_majorities_62
      · have i_3 : i.toInt < m_n.toInt := kc_nle c_3
        refine lv_aload_n hx hb dX5_majorities_21 rfl (lv_at hl 2 rfl) ?_
        obtain ⟨hPc, hDc, hFc, hCc⟩ := kx_preM (wc := [kx_5 h0 g_row m_n m_slots 0 g_many g_loss g_less g_voteValue g_voteNumber g_allValue g_allNumber m_allMany g_nodeL g_nodeR m_nodes g_part m_partMany g_wasMany g_wasLoss g_wasValue g_wasNumber g_path m_pathMany g_heavyValue g_heavyTimes m_heavyMany g_fewest g_which g_met y_mm, kx_a g_met cyI 160 y_q]) hP hD hS hA [true, false, false, true] rfl
        have hKc := hK
        refine va_callv (va_runV (As := []) (rest := []) ⟨hx, hb, hml, hown, hts⟩ (kx_un (c_X5_begins l dC dI h0 g_row g_many g_loss g_less g_voteValue g_voteNumber g_allValue g_allNumber g_nodeL g_nodeR g_part g_wasMany g_wasLoss g_wasValue g_wasNumber g_path g_heavyValue g_heavyTimes g_fewest g_which g_met m_n m_slots 0 m_allMany m_nodes m_partMany m_pathMany m_heavyMany y_mm cyI y_q H.size a0 a1)) (cwV 0 hts gX5_majorities_X5_begins rfl rfl rfl (by decide +kernel) ⟨Nat.le_of_ble_eq_true rfl, Nat.le_of_ble_eq_true rfl⟩) ⟨fun a U g mk q => by obtain ⟨q0, q1, qP, qK, qD⟩ := q; exact ⟨q0, q1, qP, va_K.moved (u := U) (U := U.calling g mk a) (Vm.Alike.refl U.vm) qK, qD⟩, kx_rc5 hKc hPc (q0 := 0) rfl, fun U hU hW => ⟨rfl, by rw [hU], by rw [hU]; exact hPc, va_K.moved hW.alike hKc, hDc.weaken (fun _ _ _ _ => trivial)⟩⟩ rfl rfl hl.1 rfl (lv_room (Nat.le_of_ble_eq_true rfl)) dX5_majorities_22 ⟨Nat.le_of_ble_eq_true rfl, Nat.le_of_ble_eq_true rfl⟩) hS (fun q _ h => hFc q h) hFc (fun u t H1 locs ht hvm w_4 hB hz1 hk1 hS => ?_)
        obtain ⟨o_5, rfl⟩ : ∃ z, z = u := ⟨_, rfl⟩
        obtain ⟨hP1, hK1, hD1⟩ := hB
        rw [ht] at hP1
        have hK1 := va_K.moved hvm.symm hK1
        obtain ⟨hP, hD⟩ := kx_joinM (w2 := [kx_5 h0 g_row m_n m_slots 0 g_many g_loss g_less g_voteValue g_voteNumber g_allValue g_allNumber m_allMany g_nodeL g_nodeR m_nodes g_part m_partMany g_wasMany g_wasLoss g_wasValue g_wasNumber g_path m_pathMany g_heavyValue g_heavyTimes m_heavyMany g_fewest g_which g_met 0, kx_a g_row cyI 160 f, kx_a g_which cyI 160 o_2, kx_a g_met cyI 160 o_5]) hP hD hP1 hD1 hk1 hFc [true, false, false, true] hCc rfl
        clear hP1 hD1 hK1 hk1 hz1 hFc hDc hPc hKc hCc
        generalize H1 = H at hP hS ⊢
        have w_4 : True := w_4
        refine lv_iload_n hx hb dX5_majorities_25 rfl (lv_at hl 0 rfl) ?_
        refine lv_iconst (v := 1) hx hb dX5_majorities_26 (by decide) ?_
        refine lv_iadd hx hb dX5_majorities_27 ?_
        refine lv_topi (fun y_6 ey_6 => ?_)
        have i_6 : y_6.toInt = i.toInt + 1 := ki_add ey_6 rfl rfl (om_13 LP1_h0) (om_3 a1 i_3)
        refine lv_istore_n (lv' := [(3, .int y_6), (2, .int i), (1, .int sm), (0, .ref h0)]) hx hb dX5_majorities_28 rfl hl (by decide) rfl (fun ls hl => ?_)
        have LP2 : ∀ (n : Nat) (j : Int32) (sm2 : Int32) (z_mm : Int32) (z_q : Nat → Int32), (1 ≤ j.toInt) → (m_n.toInt + 1 - j.toInt).toNat < n → ∀ (H : Heap) (locs : List Loc), va_P (dC, dI) vwCl [kx_5 h0 g_row m_n m_slots 0 g_many g_loss g_less g_voteValue g_voteNumber g_allValue g_allNumber m_allMany g_nodeL g_nodeR m_nodes g_part m_partMany g_wasMany g_wasLoss g_wasValue g_wasNumber g_path m_pathMany g_heavyValue g_heavyTimes m_heavyMany g_fewest g_which g_met z_mm, kx_a g_row cyI 160 f, kx_a g_which cyI 160 o_2, kx_a g_met cyI 160 z_q] H → va_D A [kx_5 h0 g_row m_n m_slots 0 g_many g_loss g_less g_voteValue g_voteNumber g_allValue g_allNumber m_allMany g_nodeL g_nodeR m_nodes g_part m_partMany g_wasMany g_wasLoss g_wasValue g_wasNumber g_path m_pathMany g_heavyValue g_heavyTimes m_heavyMany g_fewest g_which g_met z_mm, kx_a g_row cyI 160 f, kx_a g_which cyI 160 o_2, kx_a g_met cyI 160 z_q] → va_S A s.heap H locs → ∀ (ls : Array Slot), lv_has ls 4 [(3, .int j), (2, .int i), (1, .int sm2), (0, .ref h0)] → W p l e (headSpec wsX5_majorities ({ frames := 1, cells := 0, slots := 0, locals := 45 })).room s m ([.ref h0] : List Value).toArray below meth c H locs 0 0 (MQ below (va_Qi (fun (r : Int32) (u : Int32 × (Nat → Int32) × (Nat → Int32)) => True) (fun (u : Int32 × (Nat → Int32) × (Nat → Int32)) (t : State) => va_P (dC, dI) vwCl [kx_5 h0 g_row m_n m_slots 0 g_many g_loss g_less g_voteValue g_voteNumber g_allValue g_allNumber m_allMany g_nodeL g_nodeR m_nodes g_part m_partMany g_wasMany g_wasLoss g_wasValue g_wasNumber g_path m_pathMany g_heavyValue g_heavyTimes m_heavyMany g_fewest g_which g_met u.1, kx_a g_row cyI 160 f, kx_a g_which cyI 160 u.2.1, kx_a g_met cyI 160 u.2.2] t.heap ∧ va_K (dC, dI) vwCl [(cyI, .int)] t ∧ va_D A [kx_5 h0 g_row m_n m_slots 0 g_many g_loss g_less g_voteValue g_voteNumber g_allValue g_allNumber m_allMany g_nodeL g_nodeR m_nodes g_part m_partMany g_wasMany g_wasLoss g_wasValue g_wasNumber g_path m_pathMany g_heavyValue g_heavyTimes m_heavyMany g_fewest g_which g_met u.1, kx_a g_row cyI 160 f, kx_a g_which cyI 160 u.2.1, kx_a g_met cyI 160 u.2.2]) A) ([.ref h0] : List Value).toArray s 0 0 A) (F0 m 29 ls []) := by
          intro n
          induction n with
          | zero => intro j sm2 z_mm z_q LP2_h0 hn; exact absurd hn (Nat.not_lt_zero _)
          | succ n ih2 =>
            intro j sm2 z_mm z_q LP2_h0 hn2 H locs hP hD hS ls hl
            refine lv_iload_n hx hb dX5_majorities_29 rfl (lv_at hl 0 rfl) ?_
            refine lv_aload_n hx hb dX5_majorities_30 rfl (lv_at hl 3 rfl) ?_
            refine va_get (D := (dC, dI)) (ci := 5) (v := .int m_n) (C := RX5) (T := TX5) (N := 30) hx hb hts hi_5 hown hK hP 0 rfl rfl 1 (by decide) hf_84 (fun _ h9 => h9) rfl dX5_majorities_31 ?_
            refine lv_icmp_gt (tgt := 55) hx hb dX5_majorities_34 (by decide) (fun c_7 => ?_) (fun c_7 => ?_)
            · have i_7 : m_n.toInt < j.toInt := kc_lt c_7
              obtain ⟨x_8, ex_8⟩ : ∃ y : Int32, y = i + 1 := ⟨_, rfl⟩
              have i_8 : x_8.toInt = i.toInt + 1 := ki_add ex_8 rfl rfl (om_13 LP1_h0) (om_3 a1 i_3)
              refine lv_iinc (v := x_8) (lv' := [(2, .int x_8), (3, .int j), (1, .int sm2), (0, .ref h0)]) hx hb dX5_majorities_55 hl (k := 1) rfl (by rw [ex_8]; rfl) (by decide) rfl (fun ls hl => ?_)
              refine lv_goto (tgt := 13) hx hb dX5_majorities_58 (by decide) ?_
              exact ih1 x_8 sm2 z_mm z_q (om_34 LP1_h0 i_8) (om_mu hn1 (om_5 i_8) (om_6 i_3)) _ _ hP hD hS ls (lv_sub hl [0, 2, 3] rfl)
            · have i_7 : j.toInt ≤ m_n.toInt := kc_nlt c_7
              refine lv_aload_n hx hb dX5_majorities_37 rfl (lv_at hl 3 rfl) ?_
              refine lv_iload_n hx hb dX5_majorities_38 rfl (lv_at hl 0 rfl) ?_
              refine lv_iload_n hx hb dX5_majorities_39 rfl (lv_at hl 1 rfl) ?_
              obtain ⟨hPc, hDc, hFc, hCc⟩ := kx_preM (wc := [kx_5 h0 g_row m_n m_slots 0 g_many g_loss g_less g_voteValue g_voteNumber g_allValue g_allNumber m_allMany g_nodeL g_nodeR m_nodes g_part m_partMany g_wasMany g_wasLoss g_wasValue g_wasNumber g_path m_pathMany g_heavyValue g_heavyTimes m_heavyMany g_fewest g_which g_met z_mm, kx_a g_which cyI 160 o_2, kx_a g_met cyI 160 z_q]) hP hD hS hA [true, false, true, true] rfl
              have hKc := hK
              refine va_calli (va_runV (As := [.int j, .int i]) (rest := []) ⟨hx, hb, hml, hown, hts⟩ (kx_un (c_X5_goesOn l dC dI h0 g_row g_many g_loss g_less g_voteValue g_voteNumber g_allValue g_allNumber g_nodeL g_nodeR g_part g_wasMany g_wasLoss g_wasValue g_wasNumber g_path g_heavyValue g_heavyTimes g_fewest g_which g_met m_n m_slots 0 m_allMany m_nodes m_partMany m_pathMany m_heavyMany z_mm cyI o_2 z_q m_n.toInt j i H.size w_1 LP2_h0 i_7 a1)) (cwV 2 hts gX5_majorities_X5_goesOn rfl rfl rfl (by decide +kernel) ⟨Nat.le_of_ble_eq_true rfl, Nat.le_of_ble_eq_true rfl⟩) ⟨fun a U g mk q => by obtain ⟨q0, q1, qP, qK, qD⟩ := q; exact ⟨q0, q1, qP, va_K.moved (u := U) (U := U.calling g mk a) (Vm.Alike.refl U.vm) qK, qD⟩, kx_rc5 hKc hPc (q0 := 0) rfl, fun U hU hW => ⟨rfl, by rw [hU], by rw [hU]; exact hPc, va_K.moved hW.alike hKc, hDc.weaken (fun _ _ _ _ => trivial)⟩⟩ rfl rfl hl.1 rfl (lv_room (Nat.le_of_ble_eq_true rfl)) dX5_majorities_40 ⟨Nat.le_of_ble_eq_true rfl, Nat.le_of_ble_eq_true rfl⟩) hS (fun q _ h => hFc q h) hFc (fun r_9 u t H1 locs ht hvm w_9 hB hz1 hk1 hS => ?_)
              obtain ⟨o_10, o_11⟩ := u
              dsimp only at w_9 hB
              obtain ⟨hP1, hK1, hD1⟩ := hB
              rw [ht] at hP1
              have hK1 := va_K.moved hvm.symm hK1
              obtain ⟨hP, hD⟩ := kx_joinM (w2 := [kx_5 h0 g_row m_n m_slots 0 g_many g_loss g_less g_voteValue g_voteNumber g_allValue g_allNumber m_allMany g_nodeL g_nodeR m_nodes g_part m_partMany g_wasMany g_wasLoss g_wasValue g_wasNumber g_path m_pathMany g_heavyValue g_heavyTimes m_heavyMany g_fewest g_which g_met o_10, kx_a g_row cyI 160 f, kx_a g_which cyI 160 o_2, kx_a g_met cyI 160 o_11]) hP hD hP1 hD1 hk1 hFc [true, false, true, true] hCc rfl
              clear hP1 hD1 hK1 hk1 hz1 hFc hDc hPc hKc hCc
              generalize H1 = H at hP hS ⊢
              have w_9 : r_9 = 1 ∨ r_9 = 0 := w_9
              refine lv_if_eq (tgt := 49) hx hb dX5_majorities_43 (by decide) (fun c_12 => ?_) (fun c_12 => ?_)
              · have i_12 : r_9.toInt = 0 := kc_eq c_12
                obtain ⟨x_13, ex_13⟩ : ∃ y : Int32, y = j + 1 := ⟨_, rfl⟩
                have i_13 : x_13.toInt = j.toInt + 1 := ki_add ex_13 rfl rfl (om_40 LP2_h0) (om_238 a1 i_7)
                refine lv_iinc (v := x_13) (lv' := [(3, .int x_13), (2, .int i), (1, .int sm2), (0, .ref h0)]) hx hb dX5_majorities_49 hl (k := 0) rfl (by rw [ex_13]; rfl) (by decide) rfl (fun ls hl => ?_)
                refine lv_goto (tgt := 29) hx hb dX5_majorities_52 (by decide) ?_
                exact ih2 x_13 sm2 o_10 o_11 (om_41 LP2_h0 i_13) (om_mu hn2 (om_239 i_13) (om_240 i_7)) _ _ hP hD hS ls (lv_sub hl [0, 1, 2, 3] rfl)
              · have i_12 : ¬ r_9.toInt = 0 := kc_ne c_12
                obtain ⟨x_14, ex_14⟩ : ∃ y : Int32, y = sm2 + 1 := ⟨_, rfl⟩
                refine lv_iinc (v := x_14) (lv' := [(1, .int x_14), (3, .int j), (2, .int i), (0, .ref h0)]) hx hb dX5_majorities_46 hl (k := 2) rfl (by rw [ex_14]; rfl) (by decide) rfl (fun ls hl => ?_)
                obtain ⟨x_15, ex_15⟩ : ∃ y : Int32, y = j + 1 := ⟨_, rfl⟩
                have i_15 : x_15.toInt = j.toInt + 1 := ki_add ex_15 rfl rfl (om_40 LP2_h0) (om_238 a1 i_7)
                refine lv_iinc (v := x_15) (lv' := [(3, .int x_15), (1, .int x_14), (2, .int i), (0, .ref h0)]) hx hb dX5_majorities_49 hl (k := 1) rfl (by rw [ex_15]; rfl) (by decide) rfl (fun ls hl => ?_)
                refine lv_goto (tgt := 29) hx hb dX5_majorities_52 (by decide) ?_
                exact ih2 x_15 x_14 o_10 o_11 (om_41 LP2_h0 i_15) (om_mu hn2 (om_239 i_15) (om_240 i_7)) _ _ hP hD hS ls (lv_sub hl [0, 2, 1, 3] rfl)
        have k_16 : (0 : Int32).toInt = 0 := rfl
        exact LP2 ((m_n.toInt + 1 - y_6.toInt : Int).toNat + 1) y_6 sm 0 o_5 (om_241 LP1_h0 i_6) (Nat.lt_succ_self _) _ _ hP hD hS ls (lv_sub hl [0, 1, 2, 3] rfl)
  have k_17 : (0 : Int32).toInt = 0 := rfl
  have k_18 : (0 : Int32).toInt = 0 := rfl
  exact LP1 ((m_n.toInt - 0 : Int).toNat + 1) 0 0 m_mostMet fq om_35 (Nat.lt_succ_self _) _ _ hP hD hS ls (lv_sub hl [0, 1, 2] rfl)

set_option maxHeartbeats 4000000 in
set_option maxRecDepth 100000 in
theorem c_X5_parted (l : Launch) (dC : Nat → ClassId) (dI : Nat → Nat → Nat) (h0 : Nat) (g_row : Nat) (g_many : Nat) (g_loss : Nat) (g_less : Nat) (g_voteValue : Nat) (g_voteNumber : Nat) (g_allValue : Nat) (g_allNumber : Nat) (g_nodeL : Nat) (g_nodeR : Nat) (g_part : Nat) (g_wasMany : Nat) (g_wasLoss : Nat) (g_wasValue : Nat) (g_wasNumber : Nat) (g_path : Nat) (g_heavyValue : Nat) (g_heavyTimes : Nat) (g_fewest : Nat) (g_which : Nat) (g_met : Nat) (m_n : Int32) (m_slots : Int32) (m_thrown : Int32) (m_allMany : Int32) (m_nodes : Int32) (m_partMany : Int32) (m_pathMany : Int32) (m_heavyMany : Int32) (m_mostMet : Int32) (cyI : ClassId) (f : Nat → Int32) (fw : Nat → Int32) (fq : Nat → Int32) (fz : Nat → Int32) (p0 : Int32) (p1 : Int32) (sz : Nat) (a0 : 0 ≤ m_n.toInt) (a1 : m_n.toInt ≤ 160) : kx_MQ l (dC, dI) yX5_parted wsX5_parted ({ frames := 1, cells := 0, slots := 0, locals := 45 }) [.ref h0, .int p0, .int p1] [kx_5 h0 g_row m_n m_slots m_thrown g_many g_loss g_less g_voteValue g_voteNumber g_allValue g_allNumber m_allMany g_nodeL g_nodeR m_nodes g_part m_partMany g_wasMany g_wasLoss g_wasValue g_wasNumber g_path m_pathMany g_heavyValue g_heavyTimes m_heavyMany g_fewest g_which g_met m_mostMet, kx_a g_row cyI 160 f, kx_a g_which cyI 160 fw, kx_a g_met cyI 160 fq, kx_a g_fewest cyI 161 fz] [(cyI, .int)] sz (fun A => va_Qi (fun (r : Int32) (u : Int32 × (Nat → Int32) × (Nat → Int32) × (Nat → Int32)) => True) (fun (u : Int32 × (Nat → Int32) × (Nat → Int32) × (Nat → Int32)) (t : State) => va_P (dC, dI) vwCl [kx_5 h0 g_row m_n m_slots 0 g_many g_loss g_less g_voteValue g_voteNumber g_allValue g_allNumber m_allMany g_nodeL g_nodeR m_nodes g_part m_partMany g_wasMany g_wasLoss g_wasValue g_wasNumber g_path m_pathMany g_heavyValue g_heavyTimes m_heavyMany g_fewest g_which g_met u.1, kx_a g_row cyI 160 f, kx_a g_which cyI 160 u.2.1, kx_a g_met cyI 160 u.2.2.1, kx_a g_fewest cyI 161 u.2.2.2] t.heap ∧ va_K (dC, dI) vwCl [(cyI, .int)] t ∧ va_D A [kx_5 h0 g_row m_n m_slots 0 g_many g_loss g_less g_voteValue g_voteNumber g_allValue g_allNumber m_allMany g_nodeL g_nodeR m_nodes g_part m_partMany g_wasMany g_wasLoss g_wasValue g_wasNumber g_path m_pathMany g_heavyValue g_heavyTimes m_heavyMany g_fewest g_which g_met u.1, kx_a g_row cyI 160 f, kx_a g_which cyI 160 u.2.1, kx_a g_met cyI 160 u.2.2.1, kx_a g_fewest cyI 161 u.2.2.2]) A) := by
  refine kx_stQ (ws := wsX5_parted) (cc := cX5_parted) (maxL := 5) (ret := (some .int)) (by decide) rfl (Nat.le_of_ble_eq_true rfl) ?_
  intro p e s m below meth c A ls hx hb hr hlocks hts hown hml hA hS hP hK hD hl
  have hown : s.vm.findClass RX5 = some m.cls := hown
  have hl : lv_has ls 5 [(0, .ref h0), (1, .int p0), (2, .int p1)] := hl
  have hf_77 := hts (.fieldLink RX5 77 "MajorityIndexModel" "thrown" "I") (List.mem_of_getElem? (i := 1) rfl)
  have hi_5 : ∀ w ∈ u_ws RX5 TX5 30, w ∈ wsX5_parted := fun w h => List.mem_cons_of_mem _ (List.mem_append_right _ h)
  have hf_68 := hts (.fieldLink RX5 68 "MajorityIndexModel" "fewest" "[I") (List.mem_of_getElem? (i := 2) rfl)
  refine lv_aload_n hx hb dX5_parted_0 rfl (lv_at hl 0 rfl) ?_
  refine lv_iconst (v := 0) hx hb dX5_parted_1 (by decide) ?_
  refine va_put (D := (dC, dI)) (ci := 5) (v := .int 0) (ty := .int) (C := RX5) (T := TX5) (N := 30) hx hb hts hi_5 tyX5 tyX5_ok nmX5 hown hK hP hD hS 0 rfl rfl 3 (by decide) hf_77 (fun _ h9 => h9) rfl (by decide +kernel) rfl rfl (Nat.le_of_ble_eq_true rfl) dX5_parted_2 (fun H locs hP hD hS => ?_)
  obtain ⟨hP, hD⟩ := kx_re (w2 := [kx_5 h0 g_row m_n m_slots 0 g_many g_loss g_less g_voteValue g_voteNumber g_allValue g_allNumber m_allMany g_nodeL g_nodeR m_nodes g_part m_partMany g_wasMany g_wasLoss g_wasValue g_wasNumber g_path m_pathMany g_heavyValue g_heavyTimes m_heavyMany g_fewest g_which g_met m_mostMet, kx_a g_row cyI 160 f, kx_a g_which cyI 160 fw, kx_a g_met cyI 160 fq, kx_a g_fewest cyI 161 fz]) hP hD rfl
  refine lv_aload_n hx hb dX5_parted_5 rfl (lv_at hl 0 rfl) ?_
  refine lv_iload_n hx hb dX5_parted_6 rfl (lv_at hl 1 rfl) ?_
  refine lv_iload_n hx hb dX5_parted_7 rfl (lv_at hl 2 rfl) ?_
  have hPc := hP.sub (ws' := [kx_5 h0 g_row m_n m_slots 0 g_many g_loss g_less g_voteValue g_voteNumber g_allValue g_allNumber m_allMany g_nodeL g_nodeR m_nodes g_part m_partMany g_wasMany g_wasLoss g_wasValue g_wasNumber g_path m_pathMany g_heavyValue g_heavyTimes m_heavyMany g_fewest g_which g_met m_mostMet]) [0] rfl
  have hKc := hK.sub (tys' := []) [] rfl
  refine vp_callSi (W.runV (As := [.int p0, .int p1]) (rest := []) ⟨hx, hb, hml, hown, hts⟩ (c_X5_isRange l dC dI h0 g_row g_many g_loss g_less g_voteValue g_voteNumber g_allValue g_allNumber g_nodeL g_nodeR g_part g_wasMany g_wasLoss g_wasValue g_wasNumber g_path g_heavyValue g_heavyTimes g_fewest g_which g_met m_n m_slots 0 m_allMany m_nodes m_partMany m_pathMany m_heavyMany m_mostMet p0 p1) (cwV 2 hts gX5_parted_X5_isRange rfl rfl rfl (by decide +kernel) ⟨Nat.le_of_ble_eq_true rfl, Nat.le_of_ble_eq_true rfl⟩) ⟨fun a U g mk q => by obtain ⟨q0, qP, qK⟩ := q; exact ⟨q0, qP, va_K.moved (u := U) (U := U.calling g mk a) (Vm.Alike.refl U.vm) qK⟩, kx_rc5 hKc hPc (q0 := 0) rfl, fun U hU hW => ⟨rfl, by rw [hU]; exact hPc, va_K.moved hW.alike hKc⟩⟩ rfl rfl hl.1 rfl (lv_room (Nat.le_of_ble_eq_true rfl)) dX5_parted_8 ⟨Nat.le_of_ble_eq_true rfl, Nat.le_of_ble_eq_true rfl⟩) (fun r_1 w_1 => ?_)
  rcases w_1 with ⟨rfl, w_1⟩ | ⟨rfl, w_1⟩
  · have w_1 : (0 ≤ p0.toInt ∧ p0.toInt < p1.toInt ∧ p1.toInt ≤ m_n.toInt) := w_1
    refine lv_if_ne (tgt := 16) hx hb dX5_parted_11 (by decide) (fun c_2 => ?_) (fun c_2 => ?_)
    · refine lv_aload_n hx hb dX5_parted_16 rfl (lv_at hl 0 rfl) ?_
      obtain ⟨hPc, hDc, hFc, hCc⟩ := kx_preM (wc := [kx_5 h0 g_row m_n m_slots 0 g_many g_loss g_less g_voteValue g_voteNumber g_allValue g_allNumber m_allMany g_nodeL g_nodeR m_nodes g_part m_partMany g_wasMany g_wasLoss g_wasValue g_wasNumber g_path m_pathMany g_heavyValue g_heavyTimes m_heavyMany g_fewest g_which g_met m_mostMet, kx_a g_row cyI 160 f, kx_a g_which cyI 160 fw]) hP hD hS hA [true, true, true, false, false] rfl
      have hKc := hK
      refine va_callv (va_runV (As := []) (rest := []) ⟨hx, hb, hml, hown, hts⟩ (kx_un (c_X5_laysNumbers l dC dI h0 g_row g_many g_loss g_less g_voteValue g_voteNumber g_allValue g_allNumber g_nodeL g_nodeR g_part g_wasMany g_wasLoss g_wasValue g_wasNumber g_path g_heavyValue g_heavyTimes g_fewest g_which g_met m_n m_slots 0 m_allMany m_nodes m_partMany m_pathMany m_heavyMany m_mostMet cyI f fw H.size a0 a1)) (cwV 0 hts gX5_parted_X5_laysNumbers rfl rfl rfl (by decide +kernel) ⟨Nat.le_of_ble_eq_true rfl, Nat.le_of_ble_eq_true rfl⟩) ⟨fun a U g mk q => by obtain ⟨q0, q1, qP, qK, qD⟩ := q; exact ⟨q0, q1, qP, va_K.moved (u := U) (U := U.calling g mk a) (Vm.Alike.refl U.vm) qK, qD⟩, kx_rc5 hKc hPc (q0 := 0) rfl, fun U hU hW => ⟨rfl, by rw [hU], by rw [hU]; exact hPc, va_K.moved hW.alike hKc, hDc.weaken (fun _ _ _ _ => trivial)⟩⟩ rfl rfl hl.1 rfl (lv_room (Nat.le_of_ble_eq_true rfl)) dX5_parted_17 ⟨Nat.le_of_ble_eq_true rfl, Nat.le_of_ble_eq_true rfl⟩) hS (fun q _ h => hFc q h) hFc (fun u t H1 locs ht hvm w_3 hB hz1 hk1 hS => ?_)
      obtain ⟨o_4, rfl⟩ : ∃ z, z = u := ⟨_, rfl⟩
      obtain ⟨hP1, hK1, hD1⟩ := hB
      rw [ht] at hP1
      have hK1 := va_K.moved hvm.symm hK1
      obtain ⟨hP, hD⟩ := kx_joinM (w2 := [kx_5 h0 g_row m_n m_slots 0 g_many g_loss g_less g_voteValue g_voteNumber g_allValue g_allNumber m_allMany g_nodeL g_nodeR m_nodes g_part m_partMany g_wasMany g_wasLoss g_wasValue g_wasNumber g_path m_pathMany g_heavyValue g_heavyTimes m_heavyMany g_fewest g_which g_met m_mostMet, kx_a g_row cyI 160 f, kx_a g_which cyI 160 o_4, kx_a g_met cyI 160 fq, kx_a g_fewest cyI 161 fz]) hP hD hP1 hD1 hk1 hFc [true, true, true, false, false] hCc rfl
      clear hP1 hD1 hK1 hk1 hz1 hFc hDc hPc hKc hCc
      generalize H1 = H at hP hS ⊢
      have w_3 : kindOk o_4 m_n.toInt := w_3
      refine lv_aload_n hx hb dX5_parted_20 rfl (lv_at hl 0 rfl) ?_
      refine va_get (D := (dC, dI)) (ci := 5) (v := .ref g_fewest) (C := RX5) (T := TX5) (N := 30) hx hb hts hi_5 hown hK hP 0 rfl rfl 26 (by decide) hf_68 (fun _ h9 => h9) rfl dX5_parted_21 ?_
      refine lv_iload_n hx hb dX5_parted_24 rfl (lv_at hl 2 rfl) ?_
      refine lv_iconst (v := 0) hx hb dX5_parted_25 (by decide) ?_
      refine va_iast hx hb hK hP hD hS 4 0 rfl rfl (ki_in (om_21 w_1.1 w_1.2.1) (om_175 a1 w_1.2.2)) dX5_parted_26 (fun H locs hP hD hS => ?_)
      obtain ⟨hP, hD⟩ := kx_re (w2 := [kx_5 h0 g_row m_n m_slots 0 g_many g_loss g_less g_voteValue g_voteNumber g_allValue g_allNumber m_allMany g_nodeL g_nodeR m_nodes g_part m_partMany g_wasMany g_wasLoss g_wasValue g_wasNumber g_path m_pathMany g_heavyValue g_heavyTimes m_heavyMany g_fewest g_which g_met m_mostMet, kx_a g_row cyI 160 f, kx_a g_which cyI 160 o_4, kx_a g_met cyI 160 fq, kx_a g_fewest cyI 161 (upd fz p1.toNatClampNeg 0)]) hP hD rfl
      refine lv_iload_n hx hb dX5_parted_27 rfl (lv_at hl 2 rfl) ?_
      refine lv_iconst (v := 1) hx hb dX5_parted_28 (by decide) ?_
      refine lv_isub hx hb dX5_parted_29 ?_
      refine lv_topi (fun y_5 ey_5 => ?_)
      have i_5 : y_5.toInt = p1.toInt - 1 := ki_sub ey_5 rfl rfl (om_17 w_1.1 w_1.2.1) (om_183 a1 w_1.2.2)
      refine lv_istore_n (lv' := [(3, .int y_5), (0, .ref h0), (1, .int p0), (2, .int p1)]) hx hb dX5_parted_30 rfl hl (by decide) rfl (fun ls hl => ?_)
      have LP1 : ∀ (n : Nat) (i : Int32) (y_mm : Int32) (y_q : Nat → Int32) (yz : Nat → Int32), (p0.toInt - 1 ≤ i.toInt) → (i.toInt < p1.toInt) → (i.toInt + 1).toNat < n → ∀ (H : Heap) (locs : List Loc), va_P (dC, dI) vwCl [kx_5 h0 g_row m_n m_slots 0 g_many g_loss g_less g_voteValue g_voteNumber g_allValue g_allNumber m_allMany g_nodeL g_nodeR m_nodes g_part m_partMany g_wasMany g_wasLoss g_wasValue g_wasNumber g_path m_pathMany g_heavyValue g_heavyTimes m_heavyMany g_fewest g_which g_met y_mm, kx_a g_row cyI 160 f, kx_a g_which cyI 160 o_4, kx_a g_met cyI 160 y_q, kx_a g_fewest cyI 161 yz] H → va_D A [kx_5 h0 g_row m_n m_slots 0 g_many g_loss g_less g_voteValue g_voteNumber g_allValue g_allNumber m_allMany g_nodeL g_nodeR m_nodes g_part m_partMany g_wasMany g_wasLoss g_wasValue g_wasNumber g_path m_pathMany g_heavyValue g_heavyTimes m_heavyMany g_fewest g_which g_met y_mm, kx_a g_row cyI 160 f, kx_a g_which cyI 160 o_4, kx_a g_met cyI 160 y_q, kx_a g_fewest cyI 161 yz] → va_S A s.heap H locs → ∀ (ls : Array Slot), lv_has ls 5 [(3, .int i), (0, .ref h0), (1, .int p0), (2, .int p1)] → W p l e (headSpec wsX5_parted ({ frames := 1, cells := 0, slots := 0, locals := 45 })).room s m ([.ref h0, .int p0, .int p1] : List Value).toArray below meth c H locs 0 0 (MQ below (va_Qi (fun (r : Int32) (u : Int32 × (Nat → Int32) × (Nat → Int32) × (Nat → Int32)) => True) (fun (u : Int32 × (Nat → Int32) × (Nat → Int32) × (Nat → Int32)) (t : State) => va_P (dC, dI) vwCl [kx_5 h0 g_row m_n m_slots 0 g_many g_loss g_less g_voteValue g_voteNumber g_allValue g_allNumber m_allMany g_nodeL g_nodeR m_nodes g_part m_partMany g_wasMany g_wasLoss g_wasValue g_wasNumber g_path m_pathMany g_heavyValue g_heavyTimes m_heavyMany g_fewest g_which g_met u.1, kx_a g_row cyI 160 f, kx_a g_which cyI 160 u.2.1, kx_a g_met cyI 160 u.2.2.1, kx_a g_fewest cyI 161 u.2.2.2] t.heap ∧ va_K (dC, dI) vwCl [(cyI, .int)] t ∧ va_D A [kx_5 h0 g_row m_n m_slots 0 g_many g_loss g_less g_voteValue g_voteNumber g_allValue g_allNumber m_allMany g_nodeL g_nodeR m_nodes g_part m_partMany g_wasMany g_wasLoss g_wasValue g_wasNumber g_path m_pathMany g_heavyValue g_heavyTimes m_heavyMany g_fewest g_which g_met u.1, kx_a g_row cyI 160 f, kx_a g_which cyI 160 u.2.1, kx_a g_met cyI 160 u.2.2.1, kx_a g_fewest cyI 161 u.2.2.2]) A) ([.ref h0, .int p0, .int p1] : List Value).toArray s 0 0 A) (F0 m 31 ls []) := by
        intro n
        induction n with
        | zero => intro i y_mm y_q yz LP1_h0 LP1_h1 hn; exact absurd hn (Nat.not_lt_zero _)
        | succ n ih1 =>
          intro i y_mm y_q yz LP1_h0 LP1_h1 hn1 H locs hP hD hS ls hl
          refine lv_iload_n hx hb dX5_parted_31 rfl (lv_at hl 0 rfl) ?_
          refine lv_iload_n hx hb dX5_parted_32 rfl (lv_at hl 2 rfl) ?_
          refine lv_icmp_lt (tgt := 115) hx hb dX5_parted_33 (by decide) (fun c_6 => ?_) (fun c_6 => ?_)
          · have i_6 : i.toInt < p0.toInt := kc_lt c_6
            refine lv_aload_n hx hb dX5_parted_115 rfl (lv_at hl 1 rfl) ?_
            refine va_get (D := (dC, dI)) (ci := 5) (v := .ref g_fewest) (C := RX5) (T := TX5) (N := 30) hx hb hts hi_5 hown hK hP 0 rfl rfl 26 (by decide) hf_68 (fun _ h9 => h9) rfl dX5_parted_116 ?_
            refine lv_iload_n hx hb dX5_parted_119 rfl (lv_at hl 2 rfl) ?_
            refine va_iald hx hb hK hP 4 0 rfl rfl (ki_in (om_10 w_1.1) (om_174 a1 w_1.2.1 w_1.2.2)) dX5_parted_120 ?_
            refine lv_topi (fun y_7 ey_7 => ?_)
            have j_7 : y_7.toInt = (yz p0.toNatClampNeg).toInt := congrArg Int32.toInt ey_7
            have hP9 := hP
            have hD9 := hD
            have hK9 := hK
            exact W.iret (v := y_7) hx hb hr (hlocks := hlocks) (fun t ht hW => ⟨⟨y_7, (y_mm, o_4, y_q, yz), rfl, trivial, by rw [ht]; exact hP9, va_K.moved hW.alike hK9, hD9⟩, hS.F ht⟩) hS.2.2 dX5_parted_121
          · have i_6 : p0.toInt ≤ i.toInt := kc_nlt c_6
            refine lv_aload_n hx hb dX5_parted_36 rfl (lv_at hl 1 rfl) ?_
            refine va_get (D := (dC, dI)) (ci := 5) (v := .ref g_fewest) (C := RX5) (T := TX5) (N := 30) hx hb hts hi_5 hown hK hP 0 rfl rfl 26 (by decide) hf_68 (fun _ h9 => h9) rfl dX5_parted_37 ?_
            refine lv_iload_n hx hb dX5_parted_40 rfl (lv_at hl 0 rfl) ?_
            refine lv_sipush (v := 161) hx hb dX5_parted_41 (by decide) ?_
            refine va_iast hx hb hK hP hD hS 4 0 rfl rfl (ki_in (om_0 w_1.1 i_6) (om_181 a1 w_1.2.2 LP1_h1)) dX5_parted_44 (fun H locs hP hD hS => ?_)
            obtain ⟨hP, hD⟩ := kx_re (w2 := [kx_5 h0 g_row m_n m_slots 0 g_many g_loss g_less g_voteValue g_voteNumber g_allValue g_allNumber m_allMany g_nodeL g_nodeR m_nodes g_part m_partMany g_wasMany g_wasLoss g_wasValue g_wasNumber g_path m_pathMany g_heavyValue g_heavyTimes m_heavyMany g_fewest g_which g_met y_mm, kx_a g_row cyI 160 f, kx_a g_which cyI 160 o_4, kx_a g_met cyI 160 y_q, kx_a g_fewest cyI 161 (upd yz i.toNatClampNeg 161)]) hP hD rfl
            refine lv_aload_n hx hb dX5_parted_45 rfl (lv_at hl 1 rfl) ?_
            obtain ⟨hPc, hDc, hFc, hCc⟩ := kx_preM (wc := [kx_5 h0 g_row m_n m_slots 0 g_many g_loss g_less g_voteValue g_voteNumber g_allValue g_allNumber m_allMany g_nodeL g_nodeR m_nodes g_part m_partMany g_wasMany g_wasLoss g_wasValue g_wasNumber g_path m_pathMany g_heavyValue g_heavyTimes m_heavyMany g_fewest g_which g_met y_mm, kx_a g_met cyI 160 y_q]) hP hD hS hA [true, false, false, true, false] rfl
            have hKc := hK
            refine va_callv (va_runV (As := []) (rest := []) ⟨hx, hb, hml, hown, hts⟩ (kx_un (c_X5_begins l dC dI h0 g_row g_many g_loss g_less g_voteValue g_voteNumber g_allValue g_allNumber g_nodeL g_nodeR g_part g_wasMany g_wasLoss g_wasValue g_wasNumber g_path g_heavyValue g_heavyTimes g_fewest g_which g_met m_n m_slots 0 m_allMany m_nodes m_partMany m_pathMany m_heavyMany y_mm cyI y_q H.size a0 a1)) (cwV 0 hts gX5_parted_X5_begins rfl rfl rfl (by decide +kernel) ⟨Nat.le_of_ble_eq_true rfl, Nat.le_of_ble_eq_true rfl⟩) ⟨fun a U g mk q => by obtain ⟨q0, q1, qP, qK, qD⟩ := q; exact ⟨q0, q1, qP, va_K.moved (u := U) (U := U.calling g mk a) (Vm.Alike.refl U.vm) qK, qD⟩, kx_rc5 hKc hPc (q0 := 0) rfl, fun U hU hW => ⟨rfl, by rw [hU], by rw [hU]; exact hPc, va_K.moved hW.alike hKc, hDc.weaken (fun _ _ _ _ => trivial)⟩⟩ rfl rfl hl.1 rfl (lv_room (Nat.le_of_ble_eq_true rfl)) dX5_parted_46 ⟨Nat.le_of_ble_eq_true rfl, Nat.le_of_ble_eq_true rfl⟩) hS (fun q _ h => hFc q h) hFc (fun u t H1 locs ht hvm w_8 hB hz1 hk1 hS => ?_)
            obtain ⟨o_9, rfl⟩ : ∃ z, z = u := ⟨_, rfl⟩
            obtain ⟨hP1, hK1, hD1⟩ := hB
            rw [ht] at hP1
            have hK1 := va_K.moved hvm.symm hK1
            obtain ⟨hP, hD⟩ := kx_joinM (w2 := [kx_5 h0 g_row m_n m_slots 0 g_many g_loss g_less g_voteValue g_voteNumber g_allValue g_allNumber m_allMany g_nodeL g_nodeR m_nodes g_part m_partMany g_wasMany g_wasLoss g_wasValue g_wasNumber g_path m_pathMany g_heavyValue g_heavyTimes m_heavyMany g_fewest g_which g_met 0, kx_a g_row cyI 160 f, kx_a g_which cyI 160 o_4, kx_a g_met cyI 160 o_9, kx_a g_fewest cyI 161 (upd yz i.toNatClampNeg 161)]) hP hD hP1 hD1 hk1 hFc [true, false, false, true, false] hCc rfl
            clear hP1 hD1 hK1 hk1 hz1 hFc hDc hPc hKc hCc
            generalize H1 = H at hP hS ⊢
            have w_8 : True := w_8
            refine lv_iload_n hx hb dX5_parted_49 rfl (lv_at hl 0 rfl) ?_
            refine lv_iconst (v := 1) hx hb dX5_parted_50 (by decide) ?_
            refine lv_iadd hx hb dX5_parted_51 ?_
            refine lv_topi (fun y_10 ey_10 => ?_)
            have i_10 : y_10.toInt = i.toInt + 1 := ki_add ey_10 rfl rfl (om_2 w_1.1 i_6) (om_172 a1 w_1.2.2 LP1_h1)
            refine lv_istore (lv' := [(4, .int y_10), (3, .int i), (0, .ref h0), (1, .int p0), (2, .int p1)]) hx hb dX5_parted_52 hl (by decide) rfl (fun ls hl => ?_)
            have LP2 : ∀ (n : Nat) (j : Int32) (z_mm : Int32) (z_q : Nat → Int32) (zz : Nat → Int32), (1 ≤ j.toInt) → (p1.toInt + 1 - j.toInt).toNat < n → ∀ (H : Heap) (locs : List Loc), va_P (dC, dI) vwCl [kx_5 h0 g_row m_n m_slots 0 g_many g_loss g_less g_voteValue g_voteNumber g_allValue g_allNumber m_allMany g_nodeL g_nodeR m_nodes g_part m_partMany g_wasMany g_wasLoss g_wasValue g_wasNumber g_path m_pathMany g_heavyValue g_heavyTimes m_heavyMany g_fewest g_which g_met z_mm, kx_a g_row cyI 160 f, kx_a g_which cyI 160 o_4, kx_a g_met cyI 160 z_q, kx_a g_fewest cyI 161 zz] H → va_D A [kx_5 h0 g_row m_n m_slots 0 g_many g_loss g_less g_voteValue g_voteNumber g_allValue g_allNumber m_allMany g_nodeL g_nodeR m_nodes g_part m_partMany g_wasMany g_wasLoss g_wasValue g_wasNumber g_path m_pathMany g_heavyValue g_heavyTimes m_heavyMany g_fewest g_which g_met z_mm, kx_a g_row cyI 160 f, kx_a g_which cyI 160 o_4, kx_a g_met cyI 160 z_q, kx_a g_fewest cyI 161 zz] → va_S A s.heap H locs → ∀ (ls : Array Slot), lv_has ls 5 [(4, .int j), (3, .int i), (0, .ref h0), (1, .int p0), (2, .int p1)] → W p l e (headSpec wsX5_parted ({ frames := 1, cells := 0, slots := 0, locals := 45 })).room s m ([.ref h0, .int p0, .int p1] : List Value).toArray below meth c H locs 0 0 (MQ below (va_Qi (fun (r : Int32) (u : Int32 × (Nat → Int32) × (Nat → Int32) × (Nat → Int32)) => True) (fun (u : Int32 × (Nat → Int32) × (Nat → Int32) × (Nat → Int32)) (t : State) => va_P (dC, dI) vwCl [kx_5 h0 g_row m_n m_slots 0 g_many g_loss g_less g_voteValue g_voteNumber g_allValue g_allNumber m_allMany g_nodeL g_nodeR m_nodes g_part m_partMany g_wasMany g_wasLoss g_wasValue g_wasNumber g_path m_pathMany g_heavyValue g_heavyTimes m_heavyMany g_fewest g_which g_met u.1, kx_a g_row cyI 160 f, kx_a g_which cyI 160 u.2.1, kx_a g_met cyI 160 u.2.2.1, kx_a g_fewest cyI 161 u.2.2.2] t.heap ∧ va_K (dC, dI) vwCl [(cyI, .int)] t ∧ va_D A [kx_5 h0 g_row m_n m_slots 0 g_many g_loss g_less g_voteValue g_voteNumber g_allValue g_allNumber m_allMany g_nodeL g_nodeR m_nodes g_part m_partMany g_wasMany g_wasLoss g_wasValue g_wasNumber g_path m_pathMany g_heavyValue g_heavyTimes m_heavyMany g_fewest g_which g_met u.1, kx_a g_row cyI 160 f, kx_a g_which cyI 160 u.2.1, kx_a g_met cyI 160 u.2.2.1, kx_a g_fewest cyI 161 u.2.2.2]) A) ([.ref h0, .int p0, .int p1] : List Value).toArray s 0 0 A) (F0 m 54 ls []) := by
              intro n
              induction n with
              | zero => intro j z_mm z_q zz LP2_h0 hn; exact absurd hn (Nat.not_lt_zero _)
              | succ n ih2 =>
                intro j z_mm z_q zz LP2_h0 hn2 H locs hP hD hS ls hl
                refine lv_iload hx hb dX5_parted_54 (lv_at hl 0 rfl) ?_
                refine lv_iload_n hx hb dX5_parted_56 rfl (lv_at hl 4 rfl) ?_
                refine lv_icmp_gt (tgt := 109) hx hb dX5_parted_57 (by decide) (fun c_11 => ?_) (fun c_11 => ?_)
                · have i_11 : p1.toInt < j.toInt := kc_lt c_11
                  obtain ⟨x_12, ex_12⟩ : ∃ y : Int32, y = i + (-1) := ⟨_, rfl⟩
                  have i_12 : x_12.toInt = i.toInt + (-1) := ki_add ex_12 rfl rfl (om_262 w_1.1 i_6) (om_263 a1 w_1.2.2 LP1_h1)
                  refine lv_iinc (v := x_12) (lv' := [(3, .int x_12), (4, .int j), (0, .ref h0), (1, .int p0), (2, .int p1)]) hx hb dX5_parted_109 hl (k := 1) rfl (by rw [ex_12]; rfl) (by decide) rfl (fun ls hl => ?_)
                  refine lv_goto (tgt := 31) hx hb dX5_parted_112 (by decide) ?_
                  exact ih1 x_12 z_mm z_q zz (om_264 i_6 i_12) (om_118 LP1_h1 i_12) (om_mu hn1 (om_120 i_12) (om_265 w_1.1 i_6)) _ _ hP hD hS ls (lv_sub hl [0, 2, 3, 4] rfl)
                · have i_11 : j.toInt ≤ p1.toInt := kc_nlt c_11
                  refine lv_aload_n hx hb dX5_parted_60 rfl (lv_at hl 2 rfl) ?_
                  refine lv_iload hx hb dX5_parted_61 (lv_at hl 0 rfl) ?_
                  refine lv_iload_n hx hb dX5_parted_63 rfl (lv_at hl 1 rfl) ?_
                  obtain ⟨hPc, hDc, hFc, hCc⟩ := kx_preM (wc := [kx_5 h0 g_row m_n m_slots 0 g_many g_loss g_less g_voteValue g_voteNumber g_allValue g_allNumber m_allMany g_nodeL g_nodeR m_nodes g_part m_partMany g_wasMany g_wasLoss g_wasValue g_wasNumber g_path m_pathMany g_heavyValue g_heavyTimes m_heavyMany g_fewest g_which g_met z_mm, kx_a g_which cyI 160 o_4, kx_a g_met cyI 160 z_q]) hP hD hS hA [true, false, true, true, false] rfl
                  have hKc := hK
                  refine va_calli (va_runV (As := [.int j, .int i]) (rest := []) ⟨hx, hb, hml, hown, hts⟩ (kx_un (c_X5_goesOn l dC dI h0 g_row g_many g_loss g_less g_voteValue g_voteNumber g_allValue g_allNumber g_nodeL g_nodeR g_part g_wasMany g_wasLoss g_wasValue g_wasNumber g_path g_heavyValue g_heavyTimes g_fewest g_which g_met m_n m_slots 0 m_allMany m_nodes m_partMany m_pathMany m_heavyMany z_mm cyI o_4 z_q m_n.toInt j i H.size w_3 LP2_h0 (om_266 w_1.2.2 i_11) a1)) (cwV 2 hts gX5_parted_X5_goesOn rfl rfl rfl (by decide +kernel) ⟨Nat.le_of_ble_eq_true rfl, Nat.le_of_ble_eq_true rfl⟩) ⟨fun a U g mk q => by obtain ⟨q0, q1, qP, qK, qD⟩ := q; exact ⟨q0, q1, qP, va_K.moved (u := U) (U := U.calling g mk a) (Vm.Alike.refl U.vm) qK, qD⟩, kx_rc5 hKc hPc (q0 := 0) rfl, fun U hU hW => ⟨rfl, by rw [hU], by rw [hU]; exact hPc, va_K.moved hW.alike hKc, hDc.weaken (fun _ _ _ _ => trivial)⟩⟩ rfl rfl hl.1 rfl (lv_room (Nat.le_of_ble_eq_true rfl)) dX5_parted_64 ⟨Nat.le_of_ble_eq_true rfl, Nat.le_of_ble_eq_true rfl⟩) hS (fun q _ h => hFc q h) hFc (fun r_13 u t H1 locs ht hvm w_13 hB hz1 hk1 hS => ?_)
                  obtain ⟨o_14, o_15⟩ := u
                  dsimp only at w_13 hB
                  obtain ⟨hP1, hK1, hD1⟩ := hB
                  rw [ht] at hP1
                  have hK1 := va_K.moved hvm.symm hK1
                  obtain ⟨hP, hD⟩ := kx_joinM (w2 := [kx_5 h0 g_row m_n m_slots 0 g_many g_loss g_less g_voteValue g_voteNumber g_allValue g_allNumber m_allMany g_nodeL g_nodeR m_nodes g_part m_partMany g_wasMany g_wasLoss g_wasValue g_wasNumber g_path m_pathMany g_heavyValue g_heavyTimes m_heavyMany g_fewest g_which g_met o_14, kx_a g_row cyI 160 f, kx_a g_which cyI 160 o_4, kx_a g_met cyI 160 o_15, kx_a g_fewest cyI 161 zz]) hP hD hP1 hD1 hk1 hFc [true, false, true, true, false] hCc rfl
                  clear hP1 hD1 hK1 hk1 hz1 hFc hDc hPc hKc hCc
                  generalize H1 = H at hP hS ⊢
                  have w_13 : r_13 = 1 ∨ r_13 = 0 := w_13
                  refine lv_if_eq (tgt := 103) hx hb dX5_parted_67 (by decide) (fun c_16 => ?_) (fun c_16 => ?_)
                  · have i_16 : r_13.toInt = 0 := kc_eq c_16
                    obtain ⟨x_17, ex_17⟩ : ∃ y : Int32, y = j + 1 := ⟨_, rfl⟩
                    have i_17 : x_17.toInt = j.toInt + 1 := ki_add ex_17 rfl rfl (om_40 LP2_h0) (om_267 a1 w_1.2.2 i_11)
                    refine lv_iinc (v := x_17) (lv' := [(4, .int x_17), (3, .int i), (0, .ref h0), (1, .int p0), (2, .int p1)]) hx hb dX5_parted_103 hl (k := 0) rfl (by rw [ex_17]; rfl) (by decide) rfl (fun ls hl => ?_)
                    refine lv_goto (tgt := 54) hx hb dX5_parted_106 (by decide) ?_
                    exact ih2 x_17 o_14 o_15 zz (om_41 LP2_h0 i_17) (om_mu hn2 (om_239 i_17) (om_240 i_11)) _ _ hP hD hS ls (lv_sub hl [0, 1, 2, 3, 4] rfl)
                  · have i_16 : ¬ r_13.toInt = 0 := kc_ne c_16
                    refine lv_aload_n hx hb dX5_parted_70 rfl (lv_at hl 2 rfl) ?_
                    refine va_get (D := (dC, dI)) (ci := 5) (v := .ref g_fewest) (C := RX5) (T := TX5) (N := 30) hx hb hts hi_5 hown hK hP 0 rfl rfl 26 (by decide) hf_68 (fun _ h9 => h9) rfl dX5_parted_71 ?_
                    refine lv_iload hx hb dX5_parted_74 (lv_at hl 0 rfl) ?_
                    refine va_iald hx hb hK hP 4 0 rfl rfl (ki_in (om_51 LP2_h0) (om_268 a1 w_1.2.2 i_11)) dX5_parted_76 ?_
                    refine lv_topi (fun y_18 ey_18 => ?_)
                    have j_18 : y_18.toInt = (zz j.toNatClampNeg).toInt := congrArg Int32.toInt ey_18
                    refine lv_iconst (v := 1) hx hb dX5_parted_77 (by decide) ?_
                    refine lv_iadd hx hb dX5_parted_78 ?_
                    refine lv_topi (fun y_19 ey_19 => ?_)
                    refine lv_aload_n hx hb dX5_parted_79 rfl (lv_at hl 2 rfl) ?_
                    refine va_get (D := (dC, dI)) (ci := 5) (v := .ref g_fewest) (C := RX5) (T := TX5) (N := 30) hx hb hts hi_5 hown hK hP 0 rfl rfl 26 (by decide) hf_68 (fun _ h9 => h9) rfl dX5_parted_80 ?_
                    refine lv_iload_n hx hb dX5_parted_83 rfl (lv_at hl 1 rfl) ?_
                    refine va_iald hx hb hK hP 4 0 rfl rfl (ki_in (om_0 w_1.1 i_6) (om_181 a1 w_1.2.2 LP1_h1)) dX5_parted_84 ?_
                    refine lv_topi (fun y_20 ey_20 => ?_)
                    have j_20 : y_20.toInt = (zz i.toNatClampNeg).toInt := congrArg Int32.toInt ey_20
                    refine lv_icmp_ge (tgt := 103) hx hb dX5_parted_85 (by decide) (fun c_21 => ?_) (fun c_21 => ?_)
                    · have i_21 : y_20.toInt ≤ y_19.toInt := kc_le c_21
                      obtain ⟨x_22, ex_22⟩ : ∃ y : Int32, y = j + 1 := ⟨_, rfl⟩
                      have i_22 : x_22.toInt = j.toInt + 1 := ki_add ex_22 rfl rfl (om_40 LP2_h0) (om_267 a1 w_1.2.2 i_11)
                      refine lv_iinc (v := x_22) (lv' := [(4, .int x_22), (3, .int i), (0, .ref h0), (1, .int p0), (2, .int p1)]) hx hb dX5_parted_103 hl (k := 0) rfl (by rw [ex_22]; rfl) (by decide) rfl (fun ls hl => ?_)
                      refine lv_goto (tgt := 54) hx hb dX5_parted_106 (by decide) ?_
                      exact ih2 x_22 o_14 o_15 zz (om_41 LP2_h0 i_22) (om_mu hn2 (om_239 i_22) (om_240 i_11)) _ _ hP hD hS ls (lv_sub hl [0, 1, 2, 3, 4] rfl)
                    · have i_21 : y_19.toInt < y_20.toInt := kc_nle c_21
                      refine lv_aload_n hx hb dX5_parted_88 rfl (lv_at hl 2 rfl) ?_
                      refine va_get (D := (dC, dI)) (ci := 5) (v := .ref g_fewest) (C := RX5) (T := TX5) (N := 30) hx hb hts hi_5 hown hK hP 0 rfl rfl 26 (by decide) hf_68 (fun _ h9 => h9) rfl dX5_parted_89 ?_
                      refine lv_iload_n hx hb dX5_parted_92 rfl (lv_at hl 1 rfl) ?_
                      refine lv_aload_n hx hb dX5_parted_93 rfl (lv_at hl 2 rfl) ?_
                      refine va_get (D := (dC, dI)) (ci := 5) (v := .ref g_fewest) (C := RX5) (T := TX5) (N := 30) hx hb hts hi_5 hown hK hP 0 rfl rfl 26 (by decide) hf_68 (fun _ h9 => h9) rfl dX5_parted_94 ?_
                      refine lv_iload hx hb dX5_parted_97 (lv_at hl 0 rfl) ?_
                      refine va_iald hx hb hK hP 4 0 rfl rfl (ki_in (om_51 LP2_h0) (om_268 a1 w_1.2.2 i_11)) dX5_parted_99 ?_
                      refine lv_topi (fun y_23 ey_23 => ?_)
                      have j_23 : y_23.toInt = (zz j.toNatClampNeg).toInt := congrArg Int32.toInt ey_23
                      refine lv_iconst (v := 1) hx hb dX5_parted_100 (by decide) ?_
                      refine lv_iadd hx hb dX5_parted_101 ?_
                      refine lv_topi (fun y_24 ey_24 => ?_)
                      refine va_iast hx hb hK hP hD hS 4 0 rfl rfl (ki_in (om_0 w_1.1 i_6) (om_181 a1 w_1.2.2 LP1_h1)) dX5_parted_102 (fun H locs hP hD hS => ?_)
                      obtain ⟨hP, hD⟩ := kx_re (w2 := [kx_5 h0 g_row m_n m_slots 0 g_many g_loss g_less g_voteValue g_voteNumber g_allValue g_allNumber m_allMany g_nodeL g_nodeR m_nodes g_part m_partMany g_wasMany g_wasLoss g_wasValue g_wasNumber g_path m_pathMany g_heavyValue g_heavyTimes m_heavyMany g_fewest g_which g_met o_14, kx_a g_row cyI 160 f, kx_a g_which cyI 160 o_4, kx_a g_met cyI 160 o_15, kx_a g_fewest cyI 161 (upd zz i.toNatClampNeg y_24)]) hP hD rfl
                      obtain ⟨x_25, ex_25⟩ : ∃ y : Int32, y = j + 1 := ⟨_, rfl⟩
                      have i_25 : x_25.toInt = j.toInt + 1 := ki_add ex_25 rfl rfl (om_40 LP2_h0) (om_267 a1 w_1.2.2 i_11)
                      refine lv_iinc (v := x_25) (lv' := [(4, .int x_25), (3, .int i), (0, .ref h0), (1, .int p0), (2, .int p1)]) hx hb dX5_parted_103 hl (k := 0) rfl (by rw [ex_25]; rfl) (by decide) rfl (fun ls hl => ?_)
                      refine lv_goto (tgt := 54) hx hb dX5_parted_106 (by decide) ?_
                      exact ih2 x_25 o_14 o_15 (upd zz i.toNatClampNeg y_24) (om_41 LP2_h0 i_25) (om_mu hn2 (om_239 i_25) (om_240 i_11)) _ _ hP hD hS ls (lv_sub hl [0, 1, 2, 3, 4] rfl)
            have k_26 : (0 : Int32).toInt = 0 := rfl
            exact LP2 ((p1.toInt + 1 - y_10.toInt : Int).toNat + 1) y_10 0 o_9 (upd yz i.toNatClampNeg 161) (om_269 w_1.1 i_6 i_10) (Nat.lt_succ_self _) _ _ hP hD hS ls (lv_sub hl [0, 1, 2, 3, 4] rfl)
      exact LP1 ((y_5.toInt + 1 : Int).toNat + 1) y_5 m_mostMet fq (upd fz p1.toNatClampNeg 0) (om_270 w_1.2.1 i_5) (om_123 i_5) (Nat.lt_succ_self _) _ _ hP hD hS ls (lv_sub hl [0, 1, 2, 3] rfl)
    · exact absurd c_2 (by decide)
  · have w_1 : (p0.toInt < 0 ∨ p1.toInt ≤ p0.toInt ∨ m_n.toInt < p1.toInt) := w_1
    refine lv_if_ne (tgt := 16) hx hb dX5_parted_11 (by decide) (fun c_27 => ?_) (fun c_27 => ?_)
    · exact absurd c_27 (by decide)
    · refine lv_iconst (v := (-1)) hx hb dX5_parted_14 (by decide) ?_
      have hP9 := hP
      have hD9 := hD
      have hK9 := hK
      exact W.iret (v := (-1)) hx hb hr (hlocks := hlocks) (fun t ht hW => ⟨⟨(-1), (m_mostMet, fw, fq, fz), rfl, trivial, by rw [ht]; exact hP9, va_K.moved hW.alike hK9, hD9⟩, hS.F ht⟩) hS.2.2 dX5_parted_15



abbrev cX5_windowsOf : ByteArray := prog_7_method_73_code
def yX5_windowsOf : MethodName := ⟨RX5, "windowsOf", "(IIII)I"⟩
abbrev cX5_anyWindows : ByteArray := prog_7_method_74_code
def yX5_anyWindows : MethodName := ⟨RX5, "anyWindows", "(III)I"⟩
abbrev cX5_windows : ByteArray := prog_7_method_75_code
def yX5_windows : MethodName := ⟨RX5, "windows", "(IIII)I"⟩
abbrev cX5_needs : ByteArray := prog_7_method_76_code
def yX5_needs : MethodName := ⟨RX5, "needs", "(IIIII)I"⟩
def wsX5_windowsOf : List Cond := .code yX5_windowsOf cX5_windowsOf 8 (some .int) :: ([.fieldLink RX5 84 "MajorityIndexModel" "n" "I", .fieldLink RX5 7 "MajorityIndexModel" "row" "[I", .methodLink RX5 149 yX5_times, .instanceMethod yX5_times, .selects RX5 yX5_times yX5_times, .initialized RX5, .code yX5_times cX5_times 6 (some .int)] ++ wsX50)
def wsX5_anyWindows : List Cond := .code yX5_anyWindows cX5_anyWindows 8 (some .int) :: ([.fieldLink RX5 84 "MajorityIndexModel" "n" "I", .fieldLink RX5 7 "MajorityIndexModel" "row" "[I", .methodLink RX5 149 yX5_times, .instanceMethod yX5_times, .selects RX5 yX5_times yX5_times, .initialized RX5, .code yX5_times cX5_times 6 (some .int)] ++ wsX50)
def wsX5_windows : List Cond := .code yX5_windows cX5_windows 9 (some .int) :: ([.fieldLink RX5 77 "MajorityIndexModel" "thrown" "I", .fieldLink RX5 84 "MajorityIndexModel" "n" "I", .constant RX5 148 (-40000), .fieldLink RX5 7 "MajorityIndexModel" "row" "[I", .methodLink RX5 80 yX5_within, .static yX5_within, .initialized RX5, .code yX5_within cX5_within 3 (some .boolean), .methodLink RX5 184 yX5_isShare, .static yX5_isShare, .code yX5_isShare cX5_isShare 2 (some .boolean), .methodLink RX5 213 yX5_anyWindows, .instanceMethod yX5_anyWindows, .selects RX5 yX5_anyWindows yX5_anyWindows, .code yX5_anyWindows cX5_anyWindows 8 (some .int), .methodLink RX5 149 yX5_times, .instanceMethod yX5_times, .selects RX5 yX5_times yX5_times, .code yX5_times cX5_times 6 (some .int), .methodLink RX5 216 yX5_windowsOf, .instanceMethod yX5_windowsOf, .selects RX5 yX5_windowsOf yX5_windowsOf, .code yX5_windowsOf cX5_windowsOf 8 (some .int)] ++ wsX50)
def wsX5_needs : List Cond := .code yX5_needs cX5_needs 8 (some .int) :: ([.fieldLink RX5 77 "MajorityIndexModel" "thrown" "I", .methodLink RX5 132 yX5_isValue, .static yX5_isValue, .initialized RX5, .code yX5_isValue cX5_isValue 1 (some .boolean), .methodLink RX5 80 yX5_within, .static yX5_within, .code yX5_within cX5_within 3 (some .boolean), .methodLink RX5 142 yX5_isRange, .instanceMethod yX5_isRange, .selects RX5 yX5_isRange yX5_isRange, .code yX5_isRange cX5_isRange 3 (some .boolean), .fieldLink RX5 84 "MajorityIndexModel" "n" "I", .methodLink RX5 184 yX5_isShare, .static yX5_isShare, .code yX5_isShare cX5_isShare 2 (some .boolean), .methodLink RX5 149 yX5_times, .instanceMethod yX5_times, .selects RX5 yX5_times yX5_times, .code yX5_times cX5_times 6 (some .int), .fieldLink RX5 7 "MajorityIndexModel" "row" "[I"] ++ wsX50)
set_option maxRecDepth 20000 in
theorem ggX5_windowsOf_X5_times : GoodIn wsX5_windowsOf wsX5_times := goodIn_r _ [7, 2, 8, 9, 10, 11, 12, 13, 14, 15, 16, 17, 18, 19, 20, 21, 22, 23, 24, 25, 26, 27, 28, 29, 30, 31, 32, 33, 34, 35, 36, 37] rfl (by decide +kernel)
set_option maxRecDepth 20000 in
theorem gX5_windowsOf_X5_times : GoodIn wsX5_windowsOf (wsV RX5 149 RX5 yX5_times wsX5_times) := goodIn_app (goodIn_r _ [3, 4, 5, 6] rfl (by decide +kernel)) ggX5_windowsOf_X5_times
def dt_cX5_windowsOf_0 : List (Nat × Nat × Nat × Nat) := [(0, 3, 0, 0), (1, 54, 1, 5), (3, 42, 0, 0), (4, 27, 0, 0), (5, 3, 0, 0), (6, 28, 0, 0), (7, 4, 0, 0), (8, 100, 0, 0), (9, 182, 2, 149), (12, 54, 1, 6), (14, 3, 0, 0), (15, 54, 1, 7), (17, 21, 1, 7), (19, 28, 0, 0), (20, 96, 0, 0), (21, 42, 0, 0), (22, 180, 2, 84), (25, 163, 2, 55), (28, 42, 0, 0), (29, 180, 2, 7)]
theorem da_cX5_windowsOf_0 : fw dt_cX5_windowsOf_0 0 cX5_windowsOf.data.toList = true := by decide +kernel
theorem dX5_windowsOf_0 : decode cX5_windowsOf 0 = .ok (.iconst 0, 1) := fo_3 (fw_get da_cX5_windowsOf_0 0 rfl)
theorem dX5_windowsOf_1 : decode cX5_windowsOf 1 = .ok (.istore 5, 2) := fo_54 (fw_get da_cX5_windowsOf_0 1 rfl)
theorem dX5_windowsOf_3 : decode cX5_windowsOf 3 = .ok (.aload_n 0, 1) := fo_42 (fw_get da_cX5_windowsOf_0 2 rfl)
theorem dX5_windowsOf_4 : decode cX5_windowsOf 4 = .ok (.iload_n 1, 1) := fo_27 (fw_get da_cX5_windowsOf_0 3 rfl)
theorem dX5_windowsOf_5 : decode cX5_windowsOf 5 = .ok (.iconst 0, 1) := fo_3 (fw_get da_cX5_windowsOf_0 4 rfl)
theorem dX5_windowsOf_6 : decode cX5_windowsOf 6 = .ok (.iload_n 2, 1) := fo_28 (fw_get da_cX5_windowsOf_0 5 rfl)
theorem dX5_windowsOf_7 : decode cX5_windowsOf 7 = .ok (.iconst 1, 1) := fo_4 (fw_get da_cX5_windowsOf_0 6 rfl)
theorem dX5_windowsOf_8 : decode cX5_windowsOf 8 = .ok (.isub, 1) := fo_100 (fw_get da_cX5_windowsOf_0 7 rfl)
theorem dX5_windowsOf_9 : decode cX5_windowsOf 9 = .ok (.invokevirtual 149, 3) := fo_182 (fw_get da_cX5_windowsOf_0 8 rfl)
theorem dX5_windowsOf_12 : decode cX5_windowsOf 12 = .ok (.istore 6, 2) := fo_54 (fw_get da_cX5_windowsOf_0 9 rfl)
theorem dX5_windowsOf_14 : decode cX5_windowsOf 14 = .ok (.iconst 0, 1) := fo_3 (fw_get da_cX5_windowsOf_0 10 rfl)
theorem dX5_windowsOf_15 : decode cX5_windowsOf 15 = .ok (.istore 7, 2) := fo_54 (fw_get da_cX5_windowsOf_0 11 rfl)
theorem dX5_windowsOf_17 : decode cX5_windowsOf 17 = .ok (.iload 7, 2) := fo_21 (fw_get da_cX5_windowsOf_0 12 rfl)
theorem dX5_windowsOf_19 : decode cX5_windowsOf 19 = .ok (.iload_n 2, 1) := fo_28 (fw_get da_cX5_windowsOf_0 13 rfl)
theorem dX5_windowsOf_20 : decode cX5_windowsOf 20 = .ok (.iadd, 1) := fo_96 (fw_get da_cX5_windowsOf_0 14 rfl)
theorem dX5_windowsOf_21 : decode cX5_windowsOf 21 = .ok (.aload_n 0, 1) := fo_42 (fw_get da_cX5_windowsOf_0 15 rfl)
theorem dX5_windowsOf_22 : decode cX5_windowsOf 22 = .ok (.getfield 84, 3) := fo_180 (fw_get da_cX5_windowsOf_0 16 rfl)
theorem dX5_windowsOf_25 : decode cX5_windowsOf 25 = .ok (.if_icmp .gt 55, 3) := fo_163 (fw_get da_cX5_windowsOf_0 17 rfl) (by decide +kernel)
theorem dX5_windowsOf_28 : decode cX5_windowsOf 28 = .ok (.aload_n 0, 1) := fo_42 (fw_get da_cX5_windowsOf_0 18 rfl)
theorem dX5_windowsOf_29 : decode cX5_windowsOf 29 = .ok (.getfield 7, 3) := fo_180 (fw_get da_cX5_windowsOf_0 19 rfl)
def dt_cX5_windowsOf_1 : List (Nat × Nat × Nat × Nat) := [(32, 21, 1, 7), (34, 28, 0, 0), (35, 96, 0, 0), (36, 4, 0, 0), (37, 100, 0, 0), (38, 46, 0, 0), (39, 27, 0, 0), (40, 160, 2, 6), (43, 132, 2, 1537), (46, 21, 1, 6), (48, 21, 1, 4), (50, 104, 0, 0), (51, 29, 0, 0), (52, 28, 0, 0), (53, 104, 0, 0), (54, 164, 2, 6), (57, 132, 2, 1281), (60, 42, 0, 0), (61, 180, 2, 7), (64, 21, 1, 7)]
theorem da_cX5_windowsOf_1 : fw dt_cX5_windowsOf_1 0 cX5_windowsOf.data.toList = true := by decide +kernel
theorem dX5_windowsOf_32 : decode cX5_windowsOf 32 = .ok (.iload 7, 2) := fo_21 (fw_get da_cX5_windowsOf_1 0 rfl)
theorem dX5_windowsOf_34 : decode cX5_windowsOf 34 = .ok (.iload_n 2, 1) := fo_28 (fw_get da_cX5_windowsOf_1 1 rfl)
theorem dX5_windowsOf_35 : decode cX5_windowsOf 35 = .ok (.iadd, 1) := fo_96 (fw_get da_cX5_windowsOf_1 2 rfl)
theorem dX5_windowsOf_36 : decode cX5_windowsOf 36 = .ok (.iconst 1, 1) := fo_4 (fw_get da_cX5_windowsOf_1 3 rfl)
theorem dX5_windowsOf_37 : decode cX5_windowsOf 37 = .ok (.isub, 1) := fo_100 (fw_get da_cX5_windowsOf_1 4 rfl)
theorem dX5_windowsOf_38 : decode cX5_windowsOf 38 = .ok (.iaload, 1) := fo_46 (fw_get da_cX5_windowsOf_1 5 rfl)
theorem dX5_windowsOf_39 : decode cX5_windowsOf 39 = .ok (.iload_n 1, 1) := fo_27 (fw_get da_cX5_windowsOf_1 6 rfl)
theorem dX5_windowsOf_40 : decode cX5_windowsOf 40 = .ok (.if_icmp .ne 6, 3) := fo_160 (fw_get da_cX5_windowsOf_1 7 rfl) (by decide +kernel)
theorem dX5_windowsOf_43 : decode cX5_windowsOf 43 = .ok (.iinc 6 1, 3) := fo_132 (fw_get da_cX5_windowsOf_1 8 rfl) rfl (by decide +kernel)
theorem dX5_windowsOf_46 : decode cX5_windowsOf 46 = .ok (.iload 6, 2) := fo_21 (fw_get da_cX5_windowsOf_1 9 rfl)
theorem dX5_windowsOf_48 : decode cX5_windowsOf 48 = .ok (.iload 4, 2) := fo_21 (fw_get da_cX5_windowsOf_1 10 rfl)
theorem dX5_windowsOf_50 : decode cX5_windowsOf 50 = .ok (.imul, 1) := fo_104 (fw_get da_cX5_windowsOf_1 11 rfl)
theorem dX5_windowsOf_51 : decode cX5_windowsOf 51 = .ok (.iload_n 3, 1) := fo_29 (fw_get da_cX5_windowsOf_1 12 rfl)
theorem dX5_windowsOf_52 : decode cX5_windowsOf 52 = .ok (.iload_n 2, 1) := fo_28 (fw_get da_cX5_windowsOf_1 13 rfl)
theorem dX5_windowsOf_53 : decode cX5_windowsOf 53 = .ok (.imul, 1) := fo_104 (fw_get da_cX5_windowsOf_1 14 rfl)
theorem dX5_windowsOf_54 : decode cX5_windowsOf 54 = .ok (.if_icmp .le 6, 3) := fo_164 (fw_get da_cX5_windowsOf_1 15 rfl) (by decide +kernel)
theorem dX5_windowsOf_57 : decode cX5_windowsOf 57 = .ok (.iinc 5 1, 3) := fo_132 (fw_get da_cX5_windowsOf_1 16 rfl) rfl (by decide +kernel)
theorem dX5_windowsOf_60 : decode cX5_windowsOf 60 = .ok (.aload_n 0, 1) := fo_42 (fw_get da_cX5_windowsOf_1 17 rfl)
theorem dX5_windowsOf_61 : decode cX5_windowsOf 61 = .ok (.getfield 7, 3) := fo_180 (fw_get da_cX5_windowsOf_1 18 rfl)
theorem dX5_windowsOf_64 : decode cX5_windowsOf 64 = .ok (.iload 7, 2) := fo_21 (fw_get da_cX5_windowsOf_1 19 rfl)
def dt_cX5_windowsOf_2 : List (Nat × Nat × Nat × Nat) := [(66, 46, 0, 0), (67, 27, 0, 0), (68, 160, 2, 6), (71, 132, 2, 1791), (74, 132, 2, 1793), (77, 167, 2, 65476), (80, 21, 1, 5), (82, 172, 0, 0)]
theorem da_cX5_windowsOf_2 : fw dt_cX5_windowsOf_2 0 cX5_windowsOf.data.toList = true := by decide +kernel
theorem dX5_windowsOf_66 : decode cX5_windowsOf 66 = .ok (.iaload, 1) := fo_46 (fw_get da_cX5_windowsOf_2 0 rfl)
theorem dX5_windowsOf_67 : decode cX5_windowsOf 67 = .ok (.iload_n 1, 1) := fo_27 (fw_get da_cX5_windowsOf_2 1 rfl)
theorem dX5_windowsOf_68 : decode cX5_windowsOf 68 = .ok (.if_icmp .ne 6, 3) := fo_160 (fw_get da_cX5_windowsOf_2 2 rfl) (by decide +kernel)
theorem dX5_windowsOf_71 : decode cX5_windowsOf 71 = .ok (.iinc 6 (-1), 3) := fo_132 (fw_get da_cX5_windowsOf_2 3 rfl) rfl (by decide +kernel)
theorem dX5_windowsOf_74 : decode cX5_windowsOf 74 = .ok (.iinc 7 1, 3) := fo_132 (fw_get da_cX5_windowsOf_2 4 rfl) rfl (by decide +kernel)
theorem dX5_windowsOf_77 : decode cX5_windowsOf 77 = .ok (.goto (-60), 3) := fo_167 (fw_get da_cX5_windowsOf_2 5 rfl) (by decide +kernel)
theorem dX5_windowsOf_80 : decode cX5_windowsOf 80 = .ok (.iload 5, 2) := fo_21 (fw_get da_cX5_windowsOf_2 6 rfl)
theorem dX5_windowsOf_82 : decode cX5_windowsOf 82 = .ok (.ireturn, 1) := fo_172 (fw_get da_cX5_windowsOf_2 7 rfl)
set_option maxRecDepth 20000 in
theorem ggX5_anyWindows_X5_times : GoodIn wsX5_anyWindows wsX5_times := goodIn_r _ [7, 2, 8, 9, 10, 11, 12, 13, 14, 15, 16, 17, 18, 19, 20, 21, 22, 23, 24, 25, 26, 27, 28, 29, 30, 31, 32, 33, 34, 35, 36, 37] rfl (by decide +kernel)
set_option maxRecDepth 20000 in
theorem gX5_anyWindows_X5_times : GoodIn wsX5_anyWindows (wsV RX5 149 RX5 yX5_times wsX5_times) := goodIn_app (goodIn_r _ [3, 4, 5, 6] rfl (by decide +kernel)) ggX5_anyWindows_X5_times
def dt_cX5_anyWindows_0 : List (Nat × Nat × Nat × Nat) := [(0, 3, 0, 0), (1, 54, 1, 4), (3, 3, 0, 0), (4, 54, 1, 5), (6, 21, 1, 5), (8, 27, 0, 0), (9, 96, 0, 0), (10, 42, 0, 0), (11, 180, 2, 84), (14, 163, 2, 76), (17, 3, 0, 0), (18, 54, 1, 6), (20, 21, 1, 5), (22, 54, 1, 7), (24, 21, 1, 7), (26, 21, 1, 5), (28, 27, 0, 0), (29, 96, 0, 0), (30, 162, 2, 46), (33, 21, 1, 6)]
theorem da_cX5_anyWindows_0 : fw dt_cX5_anyWindows_0 0 cX5_anyWindows.data.toList = true := by decide +kernel
theorem dX5_anyWindows_0 : decode cX5_anyWindows 0 = .ok (.iconst 0, 1) := fo_3 (fw_get da_cX5_anyWindows_0 0 rfl)
theorem dX5_anyWindows_1 : decode cX5_anyWindows 1 = .ok (.istore 4, 2) := fo_54 (fw_get da_cX5_anyWindows_0 1 rfl)
theorem dX5_anyWindows_3 : decode cX5_anyWindows 3 = .ok (.iconst 0, 1) := fo_3 (fw_get da_cX5_anyWindows_0 2 rfl)
theorem dX5_anyWindows_4 : decode cX5_anyWindows 4 = .ok (.istore 5, 2) := fo_54 (fw_get da_cX5_anyWindows_0 3 rfl)
theorem dX5_anyWindows_6 : decode cX5_anyWindows 6 = .ok (.iload 5, 2) := fo_21 (fw_get da_cX5_anyWindows_0 4 rfl)
theorem dX5_anyWindows_8 : decode cX5_anyWindows 8 = .ok (.iload_n 1, 1) := fo_27 (fw_get da_cX5_anyWindows_0 5 rfl)
theorem dX5_anyWindows_9 : decode cX5_anyWindows 9 = .ok (.iadd, 1) := fo_96 (fw_get da_cX5_anyWindows_0 6 rfl)
theorem dX5_anyWindows_10 : decode cX5_anyWindows 10 = .ok (.aload_n 0, 1) := fo_42 (fw_get da_cX5_anyWindows_0 7 rfl)
theorem dX5_anyWindows_11 : decode cX5_anyWindows 11 = .ok (.getfield 84, 3) := fo_180 (fw_get da_cX5_anyWindows_0 8 rfl)
theorem dX5_anyWindows_14 : decode cX5_anyWindows 14 = .ok (.if_icmp .gt 76, 3) := fo_163 (fw_get da_cX5_anyWindows_0 9 rfl) (by decide +kernel)
theorem dX5_anyWindows_17 : decode cX5_anyWindows 17 = .ok (.iconst 0, 1) := fo_3 (fw_get da_cX5_anyWindows_0 10 rfl)
theorem dX5_anyWindows_18 : decode cX5_anyWindows 18 = .ok (.istore 6, 2) := fo_54 (fw_get da_cX5_anyWindows_0 11 rfl)
theorem dX5_anyWindows_20 : decode cX5_anyWindows 20 = .ok (.iload 5, 2) := fo_21 (fw_get da_cX5_anyWindows_0 12 rfl)
theorem dX5_anyWindows_22 : decode cX5_anyWindows 22 = .ok (.istore 7, 2) := fo_54 (fw_get da_cX5_anyWindows_0 13 rfl)
theorem dX5_anyWindows_24 : decode cX5_anyWindows 24 = .ok (.iload 7, 2) := fo_21 (fw_get da_cX5_anyWindows_0 14 rfl)
theorem dX5_anyWindows_26 : decode cX5_anyWindows 26 = .ok (.iload 5, 2) := fo_21 (fw_get da_cX5_anyWindows_0 15 rfl)
theorem dX5_anyWindows_28 : decode cX5_anyWindows 28 = .ok (.iload_n 1, 1) := fo_27 (fw_get da_cX5_anyWindows_0 16 rfl)
theorem dX5_anyWindows_29 : decode cX5_anyWindows 29 = .ok (.iadd, 1) := fo_96 (fw_get da_cX5_anyWindows_0 17 rfl)
theorem dX5_anyWindows_30 : decode cX5_anyWindows 30 = .ok (.if_icmp .ge 46, 3) := fo_162 (fw_get da_cX5_anyWindows_0 18 rfl) (by decide +kernel)
theorem dX5_anyWindows_33 : decode cX5_anyWindows 33 = .ok (.iload 6, 2) := fo_21 (fw_get da_cX5_anyWindows_0 19 rfl)
def dt_cX5_anyWindows_1 : List (Nat × Nat × Nat × Nat) := [(35, 154, 2, 41), (38, 42, 0, 0), (39, 42, 0, 0), (40, 180, 2, 7), (43, 21, 1, 7), (45, 46, 0, 0), (46, 21, 1, 5), (48, 21, 1, 5), (50, 27, 0, 0), (51, 96, 0, 0), (52, 182, 2, 149), (55, 29, 0, 0), (56, 104, 0, 0), (57, 28, 0, 0), (58, 27, 0, 0), (59, 104, 0, 0), (60, 164, 2, 7), (63, 4, 0, 0), (64, 167, 2, 4), (67, 3, 0, 0)]
theorem da_cX5_anyWindows_1 : fw dt_cX5_anyWindows_1 0 cX5_anyWindows.data.toList = true := by decide +kernel
theorem dX5_anyWindows_35 : decode cX5_anyWindows 35 = .ok (.ifCond .ne 41, 3) := fo_154 (fw_get da_cX5_anyWindows_1 0 rfl) (by decide +kernel)
theorem dX5_anyWindows_38 : decode cX5_anyWindows 38 = .ok (.aload_n 0, 1) := fo_42 (fw_get da_cX5_anyWindows_1 1 rfl)
theorem dX5_anyWindows_39 : decode cX5_anyWindows 39 = .ok (.aload_n 0, 1) := fo_42 (fw_get da_cX5_anyWindows_1 2 rfl)
theorem dX5_anyWindows_40 : decode cX5_anyWindows 40 = .ok (.getfield 7, 3) := fo_180 (fw_get da_cX5_anyWindows_1 3 rfl)
theorem dX5_anyWindows_43 : decode cX5_anyWindows 43 = .ok (.iload 7, 2) := fo_21 (fw_get da_cX5_anyWindows_1 4 rfl)
theorem dX5_anyWindows_45 : decode cX5_anyWindows 45 = .ok (.iaload, 1) := fo_46 (fw_get da_cX5_anyWindows_1 5 rfl)
theorem dX5_anyWindows_46 : decode cX5_anyWindows 46 = .ok (.iload 5, 2) := fo_21 (fw_get da_cX5_anyWindows_1 6 rfl)
theorem dX5_anyWindows_48 : decode cX5_anyWindows 48 = .ok (.iload 5, 2) := fo_21 (fw_get da_cX5_anyWindows_1 7 rfl)
theorem dX5_anyWindows_50 : decode cX5_anyWindows 50 = .ok (.iload_n 1, 1) := fo_27 (fw_get da_cX5_anyWindows_1 8 rfl)
theorem dX5_anyWindows_51 : decode cX5_anyWindows 51 = .ok (.iadd, 1) := fo_96 (fw_get da_cX5_anyWindows_1 9 rfl)
theorem dX5_anyWindows_52 : decode cX5_anyWindows 52 = .ok (.invokevirtual 149, 3) := fo_182 (fw_get da_cX5_anyWindows_1 10 rfl)
theorem dX5_anyWindows_55 : decode cX5_anyWindows 55 = .ok (.iload_n 3, 1) := fo_29 (fw_get da_cX5_anyWindows_1 11 rfl)
theorem dX5_anyWindows_56 : decode cX5_anyWindows 56 = .ok (.imul, 1) := fo_104 (fw_get da_cX5_anyWindows_1 12 rfl)
theorem dX5_anyWindows_57 : decode cX5_anyWindows 57 = .ok (.iload_n 2, 1) := fo_28 (fw_get da_cX5_anyWindows_1 13 rfl)
theorem dX5_anyWindows_58 : decode cX5_anyWindows 58 = .ok (.iload_n 1, 1) := fo_27 (fw_get da_cX5_anyWindows_1 14 rfl)
theorem dX5_anyWindows_59 : decode cX5_anyWindows 59 = .ok (.imul, 1) := fo_104 (fw_get da_cX5_anyWindows_1 15 rfl)
theorem dX5_anyWindows_60 : decode cX5_anyWindows 60 = .ok (.if_icmp .le 7, 3) := fo_164 (fw_get da_cX5_anyWindows_1 16 rfl) (by decide +kernel)
theorem dX5_anyWindows_63 : decode cX5_anyWindows 63 = .ok (.iconst 1, 1) := fo_4 (fw_get da_cX5_anyWindows_1 17 rfl)
theorem dX5_anyWindows_64 : decode cX5_anyWindows 64 = .ok (.goto 4, 3) := fo_167 (fw_get da_cX5_anyWindows_1 18 rfl) (by decide +kernel)
theorem dX5_anyWindows_67 : decode cX5_anyWindows 67 = .ok (.iconst 0, 1) := fo_3 (fw_get da_cX5_anyWindows_1 19 rfl)
def dt_cX5_anyWindows_2 : List (Nat × Nat × Nat × Nat) := [(68, 54, 1, 6), (70, 132, 2, 1793), (73, 167, 2, 65487), (76, 21, 1, 6), (78, 153, 2, 6), (81, 132, 2, 1025), (84, 132, 2, 1281), (87, 167, 2, 65455), (90, 21, 1, 4), (92, 172, 0, 0)]
theorem da_cX5_anyWindows_2 : fw dt_cX5_anyWindows_2 0 cX5_anyWindows.data.toList = true := by decide +kernel
theorem dX5_anyWindows_68 : decode cX5_anyWindows 68 = .ok (.istore 6, 2) := fo_54 (fw_get da_cX5_anyWindows_2 0 rfl)
theorem dX5_anyWindows_70 : decode cX5_anyWindows 70 = .ok (.iinc 7 1, 3) := fo_132 (fw_get da_cX5_anyWindows_2 1 rfl) rfl (by decide +kernel)
theorem dX5_anyWindows_73 : decode cX5_anyWindows 73 = .ok (.goto (-49), 3) := fo_167 (fw_get da_cX5_anyWindows_2 2 rfl) (by decide +kernel)
theorem dX5_anyWindows_76 : decode cX5_anyWindows 76 = .ok (.iload 6, 2) := fo_21 (fw_get da_cX5_anyWindows_2 3 rfl)
theorem dX5_anyWindows_78 : decode cX5_anyWindows 78 = .ok (.ifCond .eq 6, 3) := fo_153 (fw_get da_cX5_anyWindows_2 4 rfl) (by decide +kernel)
theorem dX5_anyWindows_81 : decode cX5_anyWindows 81 = .ok (.iinc 4 1, 3) := fo_132 (fw_get da_cX5_anyWindows_2 5 rfl) rfl (by decide +kernel)
theorem dX5_anyWindows_84 : decode cX5_anyWindows 84 = .ok (.iinc 5 1, 3) := fo_132 (fw_get da_cX5_anyWindows_2 6 rfl) rfl (by decide +kernel)
theorem dX5_anyWindows_87 : decode cX5_anyWindows 87 = .ok (.goto (-81), 3) := fo_167 (fw_get da_cX5_anyWindows_2 7 rfl) (by decide +kernel)
theorem dX5_anyWindows_90 : decode cX5_anyWindows 90 = .ok (.iload 4, 2) := fo_21 (fw_get da_cX5_anyWindows_2 8 rfl)
theorem dX5_anyWindows_92 : decode cX5_anyWindows 92 = .ok (.ireturn, 1) := fo_172 (fw_get da_cX5_anyWindows_2 9 rfl)
set_option maxRecDepth 20000 in
theorem ggX5_windows_X5_within : GoodIn wsX5_windows wsX5_within := goodIn_r _ [8] rfl (by decide +kernel)
set_option maxRecDepth 20000 in
theorem gX5_windows_X5_within : GoodIn wsX5_windows (va_wsS RX5 80 yX5_within wsX5_within) := goodIn_app (goodIn_r _ [5, 6, 7] rfl (by decide +kernel)) ggX5_windows_X5_within
set_option maxRecDepth 20000 in
theorem ggX5_windows_X5_isShare : GoodIn wsX5_windows wsX5_isShare := goodIn_r _ [11, 5, 6, 7, 8] rfl (by decide +kernel)
set_option maxRecDepth 20000 in
theorem gX5_windows_X5_isShare : GoodIn wsX5_windows (va_wsS RX5 184 yX5_isShare wsX5_isShare) := goodIn_app (goodIn_r _ [9, 10, 7] rfl (by decide +kernel)) ggX5_windows_X5_isShare
set_option maxRecDepth 20000 in
theorem ggX5_windows_X5_anyWindows : GoodIn wsX5_windows wsX5_anyWindows := goodIn_r _ [15, 2, 4, 16, 17, 18, 7, 19, 24, 25, 26, 27, 28, 29, 30, 31, 32, 33, 34, 35, 36, 37, 38, 39, 40, 41, 42, 43, 44, 45, 46, 47, 48, 49, 50, 51, 52, 53] rfl (by decide +kernel)
set_option maxRecDepth 20000 in
theorem gX5_windows_X5_anyWindows : GoodIn wsX5_windows (wsV RX5 213 RX5 yX5_anyWindows wsX5_anyWindows) := goodIn_app (goodIn_r _ [12, 13, 14, 7] rfl (by decide +kernel)) ggX5_windows_X5_anyWindows
set_option maxRecDepth 20000 in
theorem ggX5_windows_X5_times : GoodIn wsX5_windows wsX5_times := goodIn_r _ [19, 4, 24, 25, 26, 27, 28, 29, 30, 31, 32, 33, 34, 35, 36, 37, 38, 39, 40, 41, 42, 43, 44, 45, 46, 47, 48, 49, 50, 51, 52, 53] rfl (by decide +kernel)
set_option maxRecDepth 20000 in
theorem gX5_windows_X5_times : GoodIn wsX5_windows (wsV RX5 149 RX5 yX5_times wsX5_times) := goodIn_app (goodIn_r _ [16, 17, 18, 7] rfl (by decide +kernel)) ggX5_windows_X5_times
set_option maxRecDepth 20000 in
theorem ggX5_windows_X5_windowsOf : GoodIn wsX5_windows wsX5_windowsOf := goodIn_r _ [23, 2, 4, 16, 17, 18, 7, 19, 24, 25, 26, 27, 28, 29, 30, 31, 32, 33, 34, 35, 36, 37, 38, 39, 40, 41, 42, 43, 44, 45, 46, 47, 48, 49, 50, 51, 52, 53] rfl (by decide +kernel)
set_option maxRecDepth 20000 in
theorem gX5_windows_X5_windowsOf : GoodIn wsX5_windows (wsV RX5 216 RX5 yX5_windowsOf wsX5_windowsOf) := goodIn_app (goodIn_r _ [20, 21, 22, 7] rfl (by decide +kernel)) ggX5_windows_X5_windowsOf
def dt_cX5_windows_0 : List (Nat × Nat × Nat × Nat) := [(0, 42, 0, 0), (1, 3, 0, 0), (2, 181, 2, 77), (5, 27, 0, 0), (6, 4, 0, 0), (7, 42, 0, 0), (8, 180, 2, 84), (11, 184, 2, 80), (14, 153, 2, 21), (17, 28, 0, 0), (18, 29, 0, 0), (19, 184, 2, 184), (22, 153, 2, 13), (25, 21, 1, 4), (27, 3, 0, 0), (28, 5, 0, 0), (29, 184, 2, 80), (32, 154, 2, 16), (35, 21, 1, 4), (37, 4, 0, 0)]
theorem da_cX5_windows_0 : fw dt_cX5_windows_0 0 cX5_windows.data.toList = true := by decide +kernel
theorem dX5_windows_0 : decode cX5_windows 0 = .ok (.aload_n 0, 1) := fo_42 (fw_get da_cX5_windows_0 0 rfl)
theorem dX5_windows_1 : decode cX5_windows 1 = .ok (.iconst 0, 1) := fo_3 (fw_get da_cX5_windows_0 1 rfl)
theorem dX5_windows_2 : decode cX5_windows 2 = .ok (.putfield 77, 3) := fo_181 (fw_get da_cX5_windows_0 2 rfl)
theorem dX5_windows_5 : decode cX5_windows 5 = .ok (.iload_n 1, 1) := fo_27 (fw_get da_cX5_windows_0 3 rfl)
theorem dX5_windows_6 : decode cX5_windows 6 = .ok (.iconst 1, 1) := fo_4 (fw_get da_cX5_windows_0 4 rfl)
theorem dX5_windows_7 : decode cX5_windows 7 = .ok (.aload_n 0, 1) := fo_42 (fw_get da_cX5_windows_0 5 rfl)
theorem dX5_windows_8 : decode cX5_windows 8 = .ok (.getfield 84, 3) := fo_180 (fw_get da_cX5_windows_0 6 rfl)
theorem dX5_windows_11 : decode cX5_windows 11 = .ok (.invokestatic 80, 3) := fo_184 (fw_get da_cX5_windows_0 7 rfl)
theorem dX5_windows_14 : decode cX5_windows 14 = .ok (.ifCond .eq 21, 3) := fo_153 (fw_get da_cX5_windows_0 8 rfl) (by decide +kernel)
theorem dX5_windows_17 : decode cX5_windows 17 = .ok (.iload_n 2, 1) := fo_28 (fw_get da_cX5_windows_0 9 rfl)
theorem dX5_windows_18 : decode cX5_windows 18 = .ok (.iload_n 3, 1) := fo_29 (fw_get da_cX5_windows_0 10 rfl)
theorem dX5_windows_19 : decode cX5_windows 19 = .ok (.invokestatic 184, 3) := fo_184 (fw_get da_cX5_windows_0 11 rfl)
theorem dX5_windows_22 : decode cX5_windows 22 = .ok (.ifCond .eq 13, 3) := fo_153 (fw_get da_cX5_windows_0 12 rfl) (by decide +kernel)
theorem dX5_windows_25 : decode cX5_windows 25 = .ok (.iload 4, 2) := fo_21 (fw_get da_cX5_windows_0 13 rfl)
theorem dX5_windows_27 : decode cX5_windows 27 = .ok (.iconst 0, 1) := fo_3 (fw_get da_cX5_windows_0 14 rfl)
theorem dX5_windows_28 : decode cX5_windows 28 = .ok (.iconst 2, 1) := fo_5 (fw_get da_cX5_windows_0 15 rfl)
theorem dX5_windows_29 : decode cX5_windows 29 = .ok (.invokestatic 80, 3) := fo_184 (fw_get da_cX5_windows_0 16 rfl)
theorem dX5_windows_32 : decode cX5_windows 32 = .ok (.ifCond .ne 16, 3) := fo_154 (fw_get da_cX5_windows_0 17 rfl) (by decide +kernel)
theorem dX5_windows_35 : decode cX5_windows 35 = .ok (.iload 4, 2) := fo_21 (fw_get da_cX5_windows_0 18 rfl)
theorem dX5_windows_37 : decode cX5_windows 37 = .ok (.iconst 1, 1) := fo_4 (fw_get da_cX5_windows_0 19 rfl)
def dt_cX5_windows_1 : List (Nat × Nat × Nat × Nat) := [(38, 160, 2, 8), (41, 18, 1, 148), (43, 167, 2, 4), (46, 2, 0, 0), (47, 172, 0, 0), (48, 21, 1, 4), (50, 154, 2, 11), (53, 42, 0, 0), (54, 27, 0, 0), (55, 28, 0, 0), (56, 29, 0, 0), (57, 182, 2, 213), (60, 172, 0, 0), (61, 18, 1, 148), (63, 54, 1, 5), (65, 3, 0, 0), (66, 54, 1, 6), (68, 3, 0, 0), (69, 54, 1, 7), (71, 21, 1, 7)]
theorem da_cX5_windows_1 : fw dt_cX5_windows_1 0 cX5_windows.data.toList = true := by decide +kernel
theorem dX5_windows_38 : decode cX5_windows 38 = .ok (.if_icmp .ne 8, 3) := fo_160 (fw_get da_cX5_windows_1 0 rfl) (by decide +kernel)
theorem dX5_windows_41 : decode cX5_windows 41 = .ok (.ldc 148, 2) := fo_18 (fw_get da_cX5_windows_1 1 rfl)
theorem dX5_windows_43 : decode cX5_windows 43 = .ok (.goto 4, 3) := fo_167 (fw_get da_cX5_windows_1 2 rfl) (by decide +kernel)
theorem dX5_windows_46 : decode cX5_windows 46 = .ok (.iconst (-1), 1) := fo_2 (fw_get da_cX5_windows_1 3 rfl)
theorem dX5_windows_47 : decode cX5_windows 47 = .ok (.ireturn, 1) := fo_172 (fw_get da_cX5_windows_1 4 rfl)
theorem dX5_windows_48 : decode cX5_windows 48 = .ok (.iload 4, 2) := fo_21 (fw_get da_cX5_windows_1 5 rfl)
theorem dX5_windows_50 : decode cX5_windows 50 = .ok (.ifCond .ne 11, 3) := fo_154 (fw_get da_cX5_windows_1 6 rfl) (by decide +kernel)
theorem dX5_windows_53 : decode cX5_windows 53 = .ok (.aload_n 0, 1) := fo_42 (fw_get da_cX5_windows_1 7 rfl)
theorem dX5_windows_54 : decode cX5_windows 54 = .ok (.iload_n 1, 1) := fo_27 (fw_get da_cX5_windows_1 8 rfl)
theorem dX5_windows_55 : decode cX5_windows 55 = .ok (.iload_n 2, 1) := fo_28 (fw_get da_cX5_windows_1 9 rfl)
theorem dX5_windows_56 : decode cX5_windows 56 = .ok (.iload_n 3, 1) := fo_29 (fw_get da_cX5_windows_1 10 rfl)
theorem dX5_windows_57 : decode cX5_windows 57 = .ok (.invokevirtual 213, 3) := fo_182 (fw_get da_cX5_windows_1 11 rfl)
theorem dX5_windows_60 : decode cX5_windows 60 = .ok (.ireturn, 1) := fo_172 (fw_get da_cX5_windows_1 12 rfl)
theorem dX5_windows_61 : decode cX5_windows 61 = .ok (.ldc 148, 2) := fo_18 (fw_get da_cX5_windows_1 13 rfl)
theorem dX5_windows_63 : decode cX5_windows 63 = .ok (.istore 5, 2) := fo_54 (fw_get da_cX5_windows_1 14 rfl)
theorem dX5_windows_65 : decode cX5_windows 65 = .ok (.iconst 0, 1) := fo_3 (fw_get da_cX5_windows_1 15 rfl)
theorem dX5_windows_66 : decode cX5_windows 66 = .ok (.istore 6, 2) := fo_54 (fw_get da_cX5_windows_1 16 rfl)
theorem dX5_windows_68 : decode cX5_windows 68 = .ok (.iconst 0, 1) := fo_3 (fw_get da_cX5_windows_1 17 rfl)
theorem dX5_windows_69 : decode cX5_windows 69 = .ok (.istore 7, 2) := fo_54 (fw_get da_cX5_windows_1 18 rfl)
theorem dX5_windows_71 : decode cX5_windows 71 = .ok (.iload 7, 2) := fo_21 (fw_get da_cX5_windows_1 19 rfl)
def dt_cX5_windows_2 : List (Nat × Nat × Nat × Nat) := [(73, 42, 0, 0), (74, 180, 2, 84), (77, 162, 2, 92), (80, 42, 0, 0), (81, 42, 0, 0), (82, 180, 2, 7), (85, 21, 1, 7), (87, 46, 0, 0), (88, 3, 0, 0), (89, 21, 1, 7), (91, 182, 2, 149), (94, 158, 2, 6), (97, 167, 2, 66), (100, 42, 0, 0), (101, 42, 0, 0), (102, 180, 2, 7), (105, 21, 1, 7), (107, 46, 0, 0), (108, 27, 0, 0), (109, 28, 0, 0)]
theorem da_cX5_windows_2 : fw dt_cX5_windows_2 0 cX5_windows.data.toList = true := by decide +kernel
theorem dX5_windows_73 : decode cX5_windows 73 = .ok (.aload_n 0, 1) := fo_42 (fw_get da_cX5_windows_2 0 rfl)
theorem dX5_windows_74 : decode cX5_windows 74 = .ok (.getfield 84, 3) := fo_180 (fw_get da_cX5_windows_2 1 rfl)
theorem dX5_windows_77 : decode cX5_windows 77 = .ok (.if_icmp .ge 92, 3) := fo_162 (fw_get da_cX5_windows_2 2 rfl) (by decide +kernel)
theorem dX5_windows_80 : decode cX5_windows 80 = .ok (.aload_n 0, 1) := fo_42 (fw_get da_cX5_windows_2 3 rfl)
theorem dX5_windows_81 : decode cX5_windows 81 = .ok (.aload_n 0, 1) := fo_42 (fw_get da_cX5_windows_2 4 rfl)
theorem dX5_windows_82 : decode cX5_windows 82 = .ok (.getfield 7, 3) := fo_180 (fw_get da_cX5_windows_2 5 rfl)
theorem dX5_windows_85 : decode cX5_windows 85 = .ok (.iload 7, 2) := fo_21 (fw_get da_cX5_windows_2 6 rfl)
theorem dX5_windows_87 : decode cX5_windows 87 = .ok (.iaload, 1) := fo_46 (fw_get da_cX5_windows_2 7 rfl)
theorem dX5_windows_88 : decode cX5_windows 88 = .ok (.iconst 0, 1) := fo_3 (fw_get da_cX5_windows_2 8 rfl)
theorem dX5_windows_89 : decode cX5_windows 89 = .ok (.iload 7, 2) := fo_21 (fw_get da_cX5_windows_2 9 rfl)
theorem dX5_windows_91 : decode cX5_windows 91 = .ok (.invokevirtual 149, 3) := fo_182 (fw_get da_cX5_windows_2 10 rfl)
theorem dX5_windows_94 : decode cX5_windows 94 = .ok (.ifCond .le 6, 3) := fo_158 (fw_get da_cX5_windows_2 11 rfl) (by decide +kernel)
theorem dX5_windows_97 : decode cX5_windows 97 = .ok (.goto 66, 3) := fo_167 (fw_get da_cX5_windows_2 12 rfl) (by decide +kernel)
theorem dX5_windows_100 : decode cX5_windows 100 = .ok (.aload_n 0, 1) := fo_42 (fw_get da_cX5_windows_2 13 rfl)
theorem dX5_windows_101 : decode cX5_windows 101 = .ok (.aload_n 0, 1) := fo_42 (fw_get da_cX5_windows_2 14 rfl)
theorem dX5_windows_102 : decode cX5_windows 102 = .ok (.getfield 7, 3) := fo_180 (fw_get da_cX5_windows_2 15 rfl)
theorem dX5_windows_105 : decode cX5_windows 105 = .ok (.iload 7, 2) := fo_21 (fw_get da_cX5_windows_2 16 rfl)
theorem dX5_windows_107 : decode cX5_windows 107 = .ok (.iaload, 1) := fo_46 (fw_get da_cX5_windows_2 17 rfl)
theorem dX5_windows_108 : decode cX5_windows 108 = .ok (.iload_n 1, 1) := fo_27 (fw_get da_cX5_windows_2 18 rfl)
theorem dX5_windows_109 : decode cX5_windows 109 = .ok (.iload_n 2, 1) := fo_28 (fw_get da_cX5_windows_2 19 rfl)
def dt_cX5_windows_3 : List (Nat × Nat × Nat × Nat) := [(110, 29, 0, 0), (111, 182, 2, 216), (114, 54, 1, 8), (116, 21, 1, 8), (118, 21, 1, 6), (120, 161, 2, 43), (123, 21, 1, 8), (125, 153, 2, 38), (128, 21, 1, 8), (130, 21, 1, 6), (132, 160, 2, 18), (135, 42, 0, 0), (136, 180, 2, 7), (139, 21, 1, 7), (141, 46, 0, 0), (142, 21, 1, 5), (144, 164, 2, 6), (147, 167, 2, 16), (150, 42, 0, 0), (151, 180, 2, 7)]
theorem da_cX5_windows_3 : fw dt_cX5_windows_3 0 cX5_windows.data.toList = true := by decide +kernel
theorem dX5_windows_110 : decode cX5_windows 110 = .ok (.iload_n 3, 1) := fo_29 (fw_get da_cX5_windows_3 0 rfl)
theorem dX5_windows_111 : decode cX5_windows 111 = .ok (.invokevirtual 216, 3) := fo_182 (fw_get da_cX5_windows_3 1 rfl)
theorem dX5_windows_114 : decode cX5_windows 114 = .ok (.istore 8, 2) := fo_54 (fw_get da_cX5_windows_3 2 rfl)
theorem dX5_windows_116 : decode cX5_windows 116 = .ok (.iload 8, 2) := fo_21 (fw_get da_cX5_windows_3 3 rfl)
theorem dX5_windows_118 : decode cX5_windows 118 = .ok (.iload 6, 2) := fo_21 (fw_get da_cX5_windows_3 4 rfl)
theorem dX5_windows_120 : decode cX5_windows 120 = .ok (.if_icmp .lt 43, 3) := fo_161 (fw_get da_cX5_windows_3 5 rfl) (by decide +kernel)
theorem dX5_windows_123 : decode cX5_windows 123 = .ok (.iload 8, 2) := fo_21 (fw_get da_cX5_windows_3 6 rfl)
theorem dX5_windows_125 : decode cX5_windows 125 = .ok (.ifCond .eq 38, 3) := fo_153 (fw_get da_cX5_windows_3 7 rfl) (by decide +kernel)
theorem dX5_windows_128 : decode cX5_windows 128 = .ok (.iload 8, 2) := fo_21 (fw_get da_cX5_windows_3 8 rfl)
theorem dX5_windows_130 : decode cX5_windows 130 = .ok (.iload 6, 2) := fo_21 (fw_get da_cX5_windows_3 9 rfl)
theorem dX5_windows_132 : decode cX5_windows 132 = .ok (.if_icmp .ne 18, 3) := fo_160 (fw_get da_cX5_windows_3 10 rfl) (by decide +kernel)
theorem dX5_windows_135 : decode cX5_windows 135 = .ok (.aload_n 0, 1) := fo_42 (fw_get da_cX5_windows_3 11 rfl)
theorem dX5_windows_136 : decode cX5_windows 136 = .ok (.getfield 7, 3) := fo_180 (fw_get da_cX5_windows_3 12 rfl)
theorem dX5_windows_139 : decode cX5_windows 139 = .ok (.iload 7, 2) := fo_21 (fw_get da_cX5_windows_3 13 rfl)
theorem dX5_windows_141 : decode cX5_windows 141 = .ok (.iaload, 1) := fo_46 (fw_get da_cX5_windows_3 14 rfl)
theorem dX5_windows_142 : decode cX5_windows 142 = .ok (.iload 5, 2) := fo_21 (fw_get da_cX5_windows_3 15 rfl)
theorem dX5_windows_144 : decode cX5_windows 144 = .ok (.if_icmp .le 6, 3) := fo_164 (fw_get da_cX5_windows_3 16 rfl) (by decide +kernel)
theorem dX5_windows_147 : decode cX5_windows 147 = .ok (.goto 16, 3) := fo_167 (fw_get da_cX5_windows_3 17 rfl) (by decide +kernel)
theorem dX5_windows_150 : decode cX5_windows 150 = .ok (.aload_n 0, 1) := fo_42 (fw_get da_cX5_windows_3 18 rfl)
theorem dX5_windows_151 : decode cX5_windows 151 = .ok (.getfield 7, 3) := fo_180 (fw_get da_cX5_windows_3 19 rfl)
def dt_cX5_windows_4 : List (Nat × Nat × Nat × Nat) := [(154, 21, 1, 7), (156, 46, 0, 0), (157, 54, 1, 5), (159, 21, 1, 8), (161, 54, 1, 6), (163, 132, 2, 1793), (166, 167, 2, 65441), (169, 21, 1, 4), (171, 4, 0, 0), (172, 160, 2, 8), (175, 21, 1, 5), (177, 167, 2, 5), (180, 21, 1, 6), (182, 172, 0, 0)]
theorem da_cX5_windows_4 : fw dt_cX5_windows_4 0 cX5_windows.data.toList = true := by decide +kernel
theorem dX5_windows_154 : decode cX5_windows 154 = .ok (.iload 7, 2) := fo_21 (fw_get da_cX5_windows_4 0 rfl)
theorem dX5_windows_156 : decode cX5_windows 156 = .ok (.iaload, 1) := fo_46 (fw_get da_cX5_windows_4 1 rfl)
theorem dX5_windows_157 : decode cX5_windows 157 = .ok (.istore 5, 2) := fo_54 (fw_get da_cX5_windows_4 2 rfl)
theorem dX5_windows_159 : decode cX5_windows 159 = .ok (.iload 8, 2) := fo_21 (fw_get da_cX5_windows_4 3 rfl)
theorem dX5_windows_161 : decode cX5_windows 161 = .ok (.istore 6, 2) := fo_54 (fw_get da_cX5_windows_4 4 rfl)
theorem dX5_windows_163 : decode cX5_windows 163 = .ok (.iinc 7 1, 3) := fo_132 (fw_get da_cX5_windows_4 5 rfl) rfl (by decide +kernel)
theorem dX5_windows_166 : decode cX5_windows 166 = .ok (.goto (-95), 3) := fo_167 (fw_get da_cX5_windows_4 6 rfl) (by decide +kernel)
theorem dX5_windows_169 : decode cX5_windows 169 = .ok (.iload 4, 2) := fo_21 (fw_get da_cX5_windows_4 7 rfl)
theorem dX5_windows_171 : decode cX5_windows 171 = .ok (.iconst 1, 1) := fo_4 (fw_get da_cX5_windows_4 8 rfl)
theorem dX5_windows_172 : decode cX5_windows 172 = .ok (.if_icmp .ne 8, 3) := fo_160 (fw_get da_cX5_windows_4 9 rfl) (by decide +kernel)
theorem dX5_windows_175 : decode cX5_windows 175 = .ok (.iload 5, 2) := fo_21 (fw_get da_cX5_windows_4 10 rfl)
theorem dX5_windows_177 : decode cX5_windows 177 = .ok (.goto 5, 3) := fo_167 (fw_get da_cX5_windows_4 11 rfl) (by decide +kernel)
theorem dX5_windows_180 : decode cX5_windows 180 = .ok (.iload 6, 2) := fo_21 (fw_get da_cX5_windows_4 12 rfl)
theorem dX5_windows_182 : decode cX5_windows 182 = .ok (.ireturn, 1) := fo_172 (fw_get da_cX5_windows_4 13 rfl)
set_option maxRecDepth 20000 in
theorem ggX5_needs_X5_isValue : GoodIn wsX5_needs wsX5_isValue := goodIn_r _ [5, 6, 7, 4, 8] rfl (by decide +kernel)
set_option maxRecDepth 20000 in
theorem gX5_needs_X5_isValue : GoodIn wsX5_needs (va_wsS RX5 132 yX5_isValue wsX5_isValue) := goodIn_app (goodIn_r _ [2, 3, 4] rfl (by decide +kernel)) ggX5_needs_X5_isValue
set_option maxRecDepth 20000 in
theorem ggX5_needs_X5_isRange : GoodIn wsX5_needs wsX5_isRange := goodIn_r _ [12, 13, 22, 23, 24, 25, 26, 27, 28, 29, 30, 31, 32, 33, 34, 35, 36, 37, 38, 39, 40, 41, 42, 43, 44, 45, 46, 47, 48, 49, 50, 51] rfl (by decide +kernel)
set_option maxRecDepth 20000 in
theorem gX5_needs_X5_isRange : GoodIn wsX5_needs (wsV RX5 142 RX5 yX5_isRange wsX5_isRange) := goodIn_app (goodIn_r _ [9, 10, 11, 4] rfl (by decide +kernel)) ggX5_needs_X5_isRange
set_option maxRecDepth 20000 in
theorem ggX5_needs_X5_isShare : GoodIn wsX5_needs wsX5_isShare := goodIn_r _ [16, 6, 7, 4, 8] rfl (by decide +kernel)
set_option maxRecDepth 20000 in
theorem gX5_needs_X5_isShare : GoodIn wsX5_needs (va_wsS RX5 184 yX5_isShare wsX5_isShare) := goodIn_app (goodIn_r _ [14, 15, 4] rfl (by decide +kernel)) ggX5_needs_X5_isShare
set_option maxRecDepth 20000 in
theorem ggX5_needs_X5_times : GoodIn wsX5_needs wsX5_times := goodIn_r _ [20, 21, 22, 23, 24, 25, 26, 27, 28, 29, 30, 31, 32, 33, 34, 35, 36, 37, 38, 39, 40, 41, 42, 43, 44, 45, 46, 47, 48, 49, 50, 51] rfl (by decide +kernel)
set_option maxRecDepth 20000 in
theorem gX5_needs_X5_times : GoodIn wsX5_needs (wsV RX5 149 RX5 yX5_times wsX5_times) := goodIn_app (goodIn_r _ [17, 18, 19, 4] rfl (by decide +kernel)) ggX5_needs_X5_times
def dt_cX5_needs_0 : List (Nat × Nat × Nat × Nat) := [(0, 42, 0, 0), (1, 3, 0, 0), (2, 181, 2, 77), (5, 27, 0, 0), (6, 184, 2, 132), (9, 153, 2, 22), (12, 42, 0, 0), (13, 28, 0, 0), (14, 29, 0, 0), (15, 182, 2, 142), (18, 153, 2, 13), (21, 21, 1, 4), (23, 21, 1, 5), (25, 184, 2, 184), (28, 154, 2, 5), (31, 2, 0, 0), (32, 172, 0, 0), (33, 42, 0, 0), (34, 27, 0, 0), (35, 28, 0, 0)]
theorem da_cX5_needs_0 : fw dt_cX5_needs_0 0 cX5_needs.data.toList = true := by decide +kernel
theorem dX5_needs_0 : decode cX5_needs 0 = .ok (.aload_n 0, 1) := fo_42 (fw_get da_cX5_needs_0 0 rfl)
theorem dX5_needs_1 : decode cX5_needs 1 = .ok (.iconst 0, 1) := fo_3 (fw_get da_cX5_needs_0 1 rfl)
theorem dX5_needs_2 : decode cX5_needs 2 = .ok (.putfield 77, 3) := fo_181 (fw_get da_cX5_needs_0 2 rfl)
theorem dX5_needs_5 : decode cX5_needs 5 = .ok (.iload_n 1, 1) := fo_27 (fw_get da_cX5_needs_0 3 rfl)
theorem dX5_needs_6 : decode cX5_needs 6 = .ok (.invokestatic 132, 3) := fo_184 (fw_get da_cX5_needs_0 4 rfl)
theorem dX5_needs_9 : decode cX5_needs 9 = .ok (.ifCond .eq 22, 3) := fo_153 (fw_get da_cX5_needs_0 5 rfl) (by decide +kernel)
theorem dX5_needs_12 : decode cX5_needs 12 = .ok (.aload_n 0, 1) := fo_42 (fw_get da_cX5_needs_0 6 rfl)
theorem dX5_needs_13 : decode cX5_needs 13 = .ok (.iload_n 2, 1) := fo_28 (fw_get da_cX5_needs_0 7 rfl)
theorem dX5_needs_14 : decode cX5_needs 14 = .ok (.iload_n 3, 1) := fo_29 (fw_get da_cX5_needs_0 8 rfl)
theorem dX5_needs_15 : decode cX5_needs 15 = .ok (.invokevirtual 142, 3) := fo_182 (fw_get da_cX5_needs_0 9 rfl)
theorem dX5_needs_18 : decode cX5_needs 18 = .ok (.ifCond .eq 13, 3) := fo_153 (fw_get da_cX5_needs_0 10 rfl) (by decide +kernel)
theorem dX5_needs_21 : decode cX5_needs 21 = .ok (.iload 4, 2) := fo_21 (fw_get da_cX5_needs_0 11 rfl)
theorem dX5_needs_23 : decode cX5_needs 23 = .ok (.iload 5, 2) := fo_21 (fw_get da_cX5_needs_0 12 rfl)
theorem dX5_needs_25 : decode cX5_needs 25 = .ok (.invokestatic 184, 3) := fo_184 (fw_get da_cX5_needs_0 13 rfl)
theorem dX5_needs_28 : decode cX5_needs 28 = .ok (.ifCond .ne 5, 3) := fo_154 (fw_get da_cX5_needs_0 14 rfl) (by decide +kernel)
theorem dX5_needs_31 : decode cX5_needs 31 = .ok (.iconst (-1), 1) := fo_2 (fw_get da_cX5_needs_0 15 rfl)
theorem dX5_needs_32 : decode cX5_needs 32 = .ok (.ireturn, 1) := fo_172 (fw_get da_cX5_needs_0 16 rfl)
theorem dX5_needs_33 : decode cX5_needs 33 = .ok (.aload_n 0, 1) := fo_42 (fw_get da_cX5_needs_0 17 rfl)
theorem dX5_needs_34 : decode cX5_needs 34 = .ok (.iload_n 1, 1) := fo_27 (fw_get da_cX5_needs_0 18 rfl)
theorem dX5_needs_35 : decode cX5_needs 35 = .ok (.iload_n 2, 1) := fo_28 (fw_get da_cX5_needs_0 19 rfl)
def dt_cX5_needs_1 : List (Nat × Nat × Nat × Nat) := [(36, 29, 0, 0), (37, 182, 2, 149), (40, 54, 1, 6), (42, 3, 0, 0), (43, 54, 1, 7), (45, 21, 1, 6), (47, 21, 1, 7), (49, 96, 0, 0), (50, 29, 0, 0), (51, 28, 0, 0), (52, 100, 0, 0), (53, 163, 2, 29), (56, 21, 1, 6), (58, 21, 1, 7), (60, 96, 0, 0), (61, 21, 1, 5), (63, 104, 0, 0), (64, 21, 1, 4), (66, 29, 0, 0), (67, 28, 0, 0)]
theorem da_cX5_needs_1 : fw dt_cX5_needs_1 0 cX5_needs.data.toList = true := by decide +kernel
theorem dX5_needs_36 : decode cX5_needs 36 = .ok (.iload_n 3, 1) := fo_29 (fw_get da_cX5_needs_1 0 rfl)
theorem dX5_needs_37 : decode cX5_needs 37 = .ok (.invokevirtual 149, 3) := fo_182 (fw_get da_cX5_needs_1 1 rfl)
theorem dX5_needs_40 : decode cX5_needs 40 = .ok (.istore 6, 2) := fo_54 (fw_get da_cX5_needs_1 2 rfl)
theorem dX5_needs_42 : decode cX5_needs 42 = .ok (.iconst 0, 1) := fo_3 (fw_get da_cX5_needs_1 3 rfl)
theorem dX5_needs_43 : decode cX5_needs 43 = .ok (.istore 7, 2) := fo_54 (fw_get da_cX5_needs_1 4 rfl)
theorem dX5_needs_45 : decode cX5_needs 45 = .ok (.iload 6, 2) := fo_21 (fw_get da_cX5_needs_1 5 rfl)
theorem dX5_needs_47 : decode cX5_needs 47 = .ok (.iload 7, 2) := fo_21 (fw_get da_cX5_needs_1 6 rfl)
theorem dX5_needs_49 : decode cX5_needs 49 = .ok (.iadd, 1) := fo_96 (fw_get da_cX5_needs_1 7 rfl)
theorem dX5_needs_50 : decode cX5_needs 50 = .ok (.iload_n 3, 1) := fo_29 (fw_get da_cX5_needs_1 8 rfl)
theorem dX5_needs_51 : decode cX5_needs 51 = .ok (.iload_n 2, 1) := fo_28 (fw_get da_cX5_needs_1 9 rfl)
theorem dX5_needs_52 : decode cX5_needs 52 = .ok (.isub, 1) := fo_100 (fw_get da_cX5_needs_1 10 rfl)
theorem dX5_needs_53 : decode cX5_needs 53 = .ok (.if_icmp .gt 29, 3) := fo_163 (fw_get da_cX5_needs_1 11 rfl) (by decide +kernel)
theorem dX5_needs_56 : decode cX5_needs 56 = .ok (.iload 6, 2) := fo_21 (fw_get da_cX5_needs_1 12 rfl)
theorem dX5_needs_58 : decode cX5_needs 58 = .ok (.iload 7, 2) := fo_21 (fw_get da_cX5_needs_1 13 rfl)
theorem dX5_needs_60 : decode cX5_needs 60 = .ok (.iadd, 1) := fo_96 (fw_get da_cX5_needs_1 14 rfl)
theorem dX5_needs_61 : decode cX5_needs 61 = .ok (.iload 5, 2) := fo_21 (fw_get da_cX5_needs_1 15 rfl)
theorem dX5_needs_63 : decode cX5_needs 63 = .ok (.imul, 1) := fo_104 (fw_get da_cX5_needs_1 16 rfl)
theorem dX5_needs_64 : decode cX5_needs 64 = .ok (.iload 4, 2) := fo_21 (fw_get da_cX5_needs_1 17 rfl)
theorem dX5_needs_66 : decode cX5_needs 66 = .ok (.iload_n 3, 1) := fo_29 (fw_get da_cX5_needs_1 18 rfl)
theorem dX5_needs_67 : decode cX5_needs 67 = .ok (.iload_n 2, 1) := fo_28 (fw_get da_cX5_needs_1 19 rfl)
def dt_cX5_needs_2 : List (Nat × Nat × Nat × Nat) := [(68, 100, 0, 0), (69, 104, 0, 0), (70, 164, 2, 6), (73, 21, 1, 7), (75, 172, 0, 0), (76, 132, 2, 1793), (79, 167, 2, 65502), (82, 16, 1, 254), (84, 172, 0, 0)]
theorem da_cX5_needs_2 : fw dt_cX5_needs_2 0 cX5_needs.data.toList = true := by decide +kernel
theorem dX5_needs_68 : decode cX5_needs 68 = .ok (.isub, 1) := fo_100 (fw_get da_cX5_needs_2 0 rfl)
theorem dX5_needs_69 : decode cX5_needs 69 = .ok (.imul, 1) := fo_104 (fw_get da_cX5_needs_2 1 rfl)
theorem dX5_needs_70 : decode cX5_needs 70 = .ok (.if_icmp .le 6, 3) := fo_164 (fw_get da_cX5_needs_2 2 rfl) (by decide +kernel)
theorem dX5_needs_73 : decode cX5_needs 73 = .ok (.iload 7, 2) := fo_21 (fw_get da_cX5_needs_2 3 rfl)
theorem dX5_needs_75 : decode cX5_needs 75 = .ok (.ireturn, 1) := fo_172 (fw_get da_cX5_needs_2 4 rfl)
theorem dX5_needs_76 : decode cX5_needs 76 = .ok (.iinc 7 1, 3) := fo_132 (fw_get da_cX5_needs_2 5 rfl) rfl (by decide +kernel)
theorem dX5_needs_79 : decode cX5_needs 79 = .ok (.goto (-34), 3) := fo_167 (fw_get da_cX5_needs_2 6 rfl) (by decide +kernel)
theorem dX5_needs_82 : decode cX5_needs 82 = .ok (.bipush (-2), 2) := fo_16 (fw_get da_cX5_needs_2 7 rfl) (by decide +kernel)
theorem dX5_needs_84 : decode cX5_needs 84 = .ok (.ireturn, 1) := fo_172 (fw_get da_cX5_needs_2 8 rfl)


set_option maxHeartbeats 4000000 in
set_option maxRecDepth 100000 in
theorem c_X5_windowsOf (l : Launch) (dC : Nat → ClassId) (dI : Nat → Nat → Nat) (h0 : Nat) (g_row : Nat) (g_many : Nat) (g_loss : Nat) (g_less : Nat) (g_voteValue : Nat) (g_voteNumber : Nat) (g_allValue : Nat) (g_allNumber : Nat) (g_nodeL : Nat) (g_nodeR : Nat) (g_part : Nat) (g_wasMany : Nat) (g_wasLoss : Nat) (g_wasValue : Nat) (g_wasNumber : Nat) (g_path : Nat) (g_heavyValue : Nat) (g_heavyTimes : Nat) (g_fewest : Nat) (g_which : Nat) (g_met : Nat) (m_n : Int32) (m_slots : Int32) (m_thrown : Int32) (m_allMany : Int32) (m_nodes : Int32) (m_partMany : Int32) (m_pathMany : Int32) (m_heavyMany : Int32) (m_mostMet : Int32) (cyI : ClassId) (f : Nat → Int32) (p0 : Int32) (p1 : Int32) (p2 : Int32) (p3 : Int32) (a0 : 0 ≤ m_n.toInt) (a1 : m_n.toInt ≤ 160) (b0 : 1 ≤ p1.toInt) (b1 : p1.toInt ≤ m_n.toInt) : Met l yX5_windowsOf wsX5_windowsOf ({ frames := 1, cells := 0, slots := 0, locals := 45 }) (va_Pc [.ref h0, .int p0, .int p1, .int p2, .int p3] (fun U => va_P (dC, dI) vwCl [kx_5 h0 g_row m_n m_slots m_thrown g_many g_loss g_less g_voteValue g_voteNumber g_allValue g_allNumber m_allMany g_nodeL g_nodeR m_nodes g_part m_partMany g_wasMany g_wasLoss g_wasValue g_wasNumber g_path m_pathMany g_heavyValue g_heavyTimes m_heavyMany g_fewest g_which g_met m_mostMet, kx_a g_row cyI 160 f] U.heap ∧ va_K (dC, dI) vwCl [(cyI, .int)] U)) (vp_Si (fun r : Int32 => True)) 0 0 (fun _ => False) := by
  refine kx_stS (ws := wsX5_windowsOf) (cc := cX5_windowsOf) (maxL := 8) (ret := (some .int)) (by decide) rfl (Nat.le_of_ble_eq_true rfl) ?_
  intro p e s m below meth c ls hx hb hr hlocks hts hown hml hP hK hl
  have hown : s.vm.findClass RX5 = some m.cls := hown
  have hl : lv_has ls 8 [(0, .ref h0), (1, .int p0), (2, .int p1), (3, .int p2), (4, .int p3)] := hl
  have hf_84 := hts (.fieldLink RX5 84 "MajorityIndexModel" "n" "I") (List.mem_of_getElem? (i := 1) rfl)
  have hi_5 : ∀ w ∈ u_ws RX5 TX5 30, w ∈ wsX5_windowsOf := fun w h => List.mem_cons_of_mem _ (List.mem_append_right _ h)
  have hf_7 := hts (.fieldLink RX5 7 "MajorityIndexModel" "row" "[I") (List.mem_of_getElem? (i := 2) rfl)
  refine lv_iconst (v := 0) hx hb dX5_windowsOf_0 (by decide) ?_
  refine lv_istore (lv' := [(5, .int 0), (0, .ref h0), (1, .int p0), (2, .int p1), (3, .int p2), (4, .int p3)]) hx hb dX5_windowsOf_1 hl (by decide) rfl (fun ls hl => ?_)
  refine lv_aload_n hx hb dX5_windowsOf_3 rfl (lv_at hl 1 rfl) ?_
  refine lv_iload_n hx hb dX5_windowsOf_4 rfl (lv_at hl 2 rfl) ?_
  refine lv_iconst (v := 0) hx hb dX5_windowsOf_5 (by decide) ?_
  refine lv_iload_n hx hb dX5_windowsOf_6 rfl (lv_at hl 3 rfl) ?_
  refine lv_iconst (v := 1) hx hb dX5_windowsOf_7 (by decide) ?_
  refine lv_isub hx hb dX5_windowsOf_8 ?_
  refine lv_topi (fun y_1 ey_1 => ?_)
  have i_1 : y_1.toInt = p1.toInt - 1 := ki_sub ey_1 rfl rfl (om_182 b0) (om_183 a1 b1)
  have hPc := hP
  have hKc := hK
  have k_2 : (0 : Int32).toInt = 0 := rfl
  refine vp_callSi (W.runV (As := [.int p0, .int 0, .int y_1]) (rest := []) ⟨hx, hb, hml, hown, hts⟩ (c_X5_times l dC dI h0 g_row g_many g_loss g_less g_voteValue g_voteNumber g_allValue g_allNumber g_nodeL g_nodeR g_part g_wasMany g_wasLoss g_wasValue g_wasNumber g_path g_heavyValue g_heavyTimes g_fewest g_which g_met m_n m_slots m_thrown m_allMany m_nodes m_partMany m_pathMany m_heavyMany m_mostMet cyI f p0 0 y_1 om_35 (om_271 a1 b1 i_1)) (cwV 3 hts gX5_windowsOf_X5_times rfl rfl rfl (by decide +kernel) ⟨Nat.le_of_ble_eq_true rfl, Nat.le_of_ble_eq_true rfl⟩) ⟨fun a U g mk q => by obtain ⟨q0, qP, qK⟩ := q; exact ⟨q0, qP, va_K.moved (u := U) (U := U.calling g mk a) (Vm.Alike.refl U.vm) qK⟩, kx_rc5 hKc hPc (q0 := 0) rfl, fun U hU hW => ⟨rfl, by rw [hU]; exact hPc, va_K.moved hW.alike hKc⟩⟩ rfl rfl hl.1 rfl (lv_room (Nat.le_of_ble_eq_true rfl)) dX5_windowsOf_9 ⟨Nat.le_of_ble_eq_true rfl, Nat.le_of_ble_eq_true rfl⟩) (fun r_3 w_3 => ?_)
  have w_3 : r_3.toInt = (cnt f p0 (0 : Int32).toNatClampNeg (y_1.toInt - 0).toNat : Int) := w_3
  refine lv_istore (lv' := [(6, .int r_3), (5, .int 0), (0, .ref h0), (1, .int p0), (2, .int p1), (3, .int p2), (4, .int p3)]) hx hb dX5_windowsOf_12 hl (by decide) rfl (fun ls hl => ?_)
  refine lv_iconst (v := 0) hx hb dX5_windowsOf_14 (by decide) ?_
  refine lv_istore (lv' := [(7, .int 0), (6, .int r_3), (5, .int 0), (0, .ref h0), (1, .int p0), (2, .int p1), (3, .int p2), (4, .int p3)]) hx hb dX5_windowsOf_15 hl (by decide) rfl (fun ls hl => ?_)
  have LP1 : ∀ (n : Nat) (i : Int32) (sm : Int32) (of : Int32), (0 ≤ i.toInt) → (i.toInt ≤ m_n.toInt) → (m_n.toInt - i.toInt).toNat < n → ∀ (ls : Array Slot), lv_has ls 8 [(7, .int i), (6, .int of), (5, .int sm), (0, .ref h0), (1, .int p0), (2, .int p1), (3, .int p2), (4, .int p3)] → W p l e (headSpec wsX5_windowsOf ({ frames := 1, cells := 0, slots := 0, locals := 45 })).room s m ([.ref h0, .int p0, .int p1, .int p2, .int p3] : List Value).toArray below meth c s.heap [] 0 0 (MQ below (vp_Si (fun r : Int32 => True)) ([.ref h0, .int p0, .int p1, .int p2, .int p3] : List Value).toArray s 0 0 (fun _ => False)) (F0 m 17 ls []) := by
    intro n
    induction n with
    | zero => intro i sm of LP1_h0 LP1_h1 hn; exact absurd hn (Nat.not_lt_zero _)
    | succ n ih1 =>
      intro i sm of LP1_h0 LP1_h1 hn1 ls hl
      refine lv_iload hx hb dX5_windowsOf_17 (lv_at hl 0 rfl) ?_
      refine lv_iload_n hx hb dX5_windowsOf_19 rfl (lv_at hl 5 rfl) ?_
      refine lv_iadd hx hb dX5_windowsOf_20 ?_
      refine lv_topi (fun y_4 ey_4 => ?_)
      have i_4 : y_4.toInt = i.toInt + p1.toInt := ki_add ey_4 rfl rfl (om_272 b0 LP1_h0) (om_273 a1 b1 LP1_h1)
      refine lv_aload_n hx hb dX5_windowsOf_21 rfl (lv_at hl 3 rfl) ?_
      refine va_get (D := (dC, dI)) (ci := 5) (v := .int m_n) (C := RX5) (T := TX5) (N := 30) hx hb hts hi_5 hown hK hP 0 rfl rfl 1 (by decide) hf_84 (fun _ h9 => h9) rfl dX5_windowsOf_22 ?_
      refine lv_icmp_gt (tgt := 80) hx hb dX5_windowsOf_25 (by decide) (fun c_5 => ?_) (fun c_5 => ?_)
      · have i_5 : m_n.toInt < y_4.toInt := kc_lt c_5
        refine lv_iload hx hb dX5_windowsOf_80 (lv_at hl 2 rfl) ?_
        exact W.iret (v := sm) hx hb hr (hlocks := hlocks) (fun t ht hW => ⟨sm, rfl, trivial, ht⟩) (fun q hq => by cases hq) dX5_windowsOf_82
      · have i_5 : y_4.toInt ≤ m_n.toInt := kc_nlt c_5
        refine lv_aload_n hx hb dX5_windowsOf_28 rfl (lv_at hl 3 rfl) ?_
        refine va_get (D := (dC, dI)) (ci := 5) (v := .ref g_row) (C := RX5) (T := TX5) (N := 30) hx hb hts hi_5 hown hK hP 0 rfl rfl 0 (by decide) hf_7 (fun _ h9 => h9) rfl dX5_windowsOf_29 ?_
        refine lv_iload hx hb dX5_windowsOf_32 (lv_at hl 0 rfl) ?_
        refine lv_iload_n hx hb dX5_windowsOf_34 rfl (lv_at hl 5 rfl) ?_
        refine lv_iadd hx hb dX5_windowsOf_35 ?_
        refine lv_topi (fun y_6 ey_6 => ?_)
        have i_6 : y_6.toInt = i.toInt + p1.toInt := ki_add ey_6 rfl rfl (om_272 b0 LP1_h0) (om_274 a1 i_4 i_5)
        refine lv_iconst (v := 1) hx hb dX5_windowsOf_36 (by decide) ?_
        refine lv_isub hx hb dX5_windowsOf_37 ?_
        refine lv_topi (fun y_7 ey_7 => ?_)
        have i_7 : y_7.toInt = y_6.toInt - 1 := ki_sub ey_7 rfl rfl (om_275 b0 LP1_h0 i_6) (om_276 a1 i_4 i_5 i_6)
        refine va_iald hx hb hK hP 1 0 rfl rfl (ki_in (om_277 b0 LP1_h0 i_6 i_7) (om_278 a1 i_4 i_5 i_6 i_7)) dX5_windowsOf_38 ?_
        refine lv_topi (fun y_8 ey_8 => ?_)
        have j_8 : y_8.toInt = (f y_7.toNatClampNeg).toInt := congrArg Int32.toInt ey_8
        refine lv_iload_n hx hb dX5_windowsOf_39 rfl (lv_at hl 4 rfl) ?_
        refine lv_icmp_ne (tgt := 46) hx hb dX5_windowsOf_40 (by decide) (fun c_9 => ?_) (fun c_9 => ?_)
        · have i_9 : ¬ y_8.toInt = p0.toInt := kc_ne c_9
          refine lv_iload hx hb dX5_windowsOf_46 (lv_at hl 1 rfl) ?_
          refine lv_iload hx hb dX5_windowsOf_48 (lv_at hl 7 rfl) ?_
          refine lv_imul hx hb dX5_windowsOf_50 ?_
          refine lv_topi (fun y_10 ey_10 => ?_)
          refine lv_iload_n hx hb dX5_windowsOf_51 rfl (lv_at hl 6 rfl) ?_
          refine lv_iload_n hx hb dX5_windowsOf_52 rfl (lv_at hl 5 rfl) ?_
          refine lv_imul hx hb dX5_windowsOf_53 ?_
          refine lv_topi (fun y_11 ey_11 => ?_)
          refine lv_icmp_le (tgt := 60) hx hb dX5_windowsOf_54 (by decide) (fun c_12 => ?_) (fun c_12 => ?_)
          · have i_12 : y_10.toInt ≤ y_11.toInt := kc_le c_12
            refine lv_aload_n hx hb dX5_windowsOf_60 rfl (lv_at hl 3 rfl) ?_
            refine va_get (D := (dC, dI)) (ci := 5) (v := .ref g_row) (C := RX5) (T := TX5) (N := 30) hx hb hts hi_5 hown hK hP 0 rfl rfl 0 (by decide) hf_7 (fun _ h9 => h9) rfl dX5_windowsOf_61 ?_
            refine lv_iload hx hb dX5_windowsOf_64 (lv_at hl 0 rfl) ?_
            refine va_iald hx hb hK hP 1 0 rfl rfl (ki_in (om_10 LP1_h0) (om_279 a1 b0 i_4 i_5)) dX5_windowsOf_66 ?_
            refine lv_topi (fun y_13 ey_13 => ?_)
            have j_13 : y_13.toInt = (f i.toNatClampNeg).toInt := congrArg Int32.toInt ey_13
            refine lv_iload_n hx hb dX5_windowsOf_67 rfl (lv_at hl 4 rfl) ?_
            refine lv_icmp_ne (tgt := 74) hx hb dX5_windowsOf_68 (by decide) (fun c_14 => ?_) (fun c_14 => ?_)
            · have i_14 : ¬ y_13.toInt = p0.toInt := kc_ne c_14
              obtain ⟨x_15, ex_15⟩ : ∃ y : Int32, y = i + 1 := ⟨_, rfl⟩
              have i_15 : x_15.toInt = i.toInt + 1 := ki_add ex_15 rfl rfl (om_13 LP1_h0) (om_238 a1 LP1_h1)
              refine lv_iinc (v := x_15) (lv' := [(7, .int x_15), (6, .int of), (5, .int sm), (0, .ref h0), (1, .int p0), (2, .int p1), (3, .int p2), (4, .int p3)]) hx hb dX5_windowsOf_74 hl (k := 0) rfl (by rw [ex_15]; rfl) (by decide) rfl (fun ls hl => ?_)
              refine lv_goto (tgt := 17) hx hb dX5_windowsOf_77 (by decide) ?_
              exact ih1 x_15 sm of (om_34 LP1_h0 i_15) (om_280 b0 i_4 i_5 i_15) (om_mu hn1 (om_5 i_15) (om_281 b0 i_4 i_5)) ls (lv_sub hl [0, 1, 2, 3, 4, 5, 6, 7] rfl)
            · have i_14 : y_13.toInt = p0.toInt := kc_eq c_14
              obtain ⟨x_16, ex_16⟩ : ∃ y : Int32, y = of + (-1) := ⟨_, rfl⟩
              refine lv_iinc (v := x_16) (lv' := [(6, .int x_16), (7, .int i), (5, .int sm), (0, .ref h0), (1, .int p0), (2, .int p1), (3, .int p2), (4, .int p3)]) hx hb dX5_windowsOf_71 hl (k := 1) rfl (by rw [ex_16]; rfl) (by decide) rfl (fun ls hl => ?_)
              obtain ⟨x_17, ex_17⟩ : ∃ y : Int32, y = i + 1 := ⟨_, rfl⟩
              have i_17 : x_17.toInt = i.toInt + 1 := ki_add ex_17 rfl rfl (om_13 LP1_h0) (om_238 a1 LP1_h1)
              refine lv_iinc (v := x_17) (lv' := [(7, .int x_17), (6, .int x_16), (5, .int sm), (0, .ref h0), (1, .int p0), (2, .int p1), (3, .int p2), (4, .int p3)]) hx hb dX5_windowsOf_74 hl (k := 1) rfl (by rw [ex_17]; rfl) (by decide) rfl (fun ls hl => ?_)
              refine lv_goto (tgt := 17) hx hb dX5_windowsOf_77 (by decide) ?_
              exact ih1 x_17 sm x_16 (om_34 LP1_h0 i_17) (om_280 b0 i_4 i_5 i_17) (om_mu hn1 (om_5 i_17) (om_281 b0 i_4 i_5)) ls (lv_sub hl [0, 1, 2, 3, 4, 5, 6, 7] rfl)
          · have i_12 : y_11.toInt < y_10.toInt := kc_nle c_12
            obtain ⟨x_18, ex_18⟩ : ∃ y : Int32, y = sm + 1 := ⟨_, rfl⟩
            refine lv_iinc (v := x_18) (lv' := [(5, .int x_18), (7, .int i), (6, .int of), (0, .ref h0), (1, .int p0), (2, .int p1), (3, .int p2), (4, .int p3)]) hx hb dX5_windowsOf_57 hl (k := 2) rfl (by rw [ex_18]; rfl) (by decide) rfl (fun ls hl => ?_)
            refine lv_aload_n hx hb dX5_windowsOf_60 rfl (lv_at hl 3 rfl) ?_
            refine va_get (D := (dC, dI)) (ci := 5) (v := .ref g_row) (C := RX5) (T := TX5) (N := 30) hx hb hts hi_5 hown hK hP 0 rfl rfl 0 (by decide) hf_7 (fun _ h9 => h9) rfl dX5_windowsOf_61 ?_
            refine lv_iload hx hb dX5_windowsOf_64 (lv_at hl 1 rfl) ?_
            refine va_iald hx hb hK hP 1 0 rfl rfl (ki_in (om_10 LP1_h0) (om_279 a1 b0 i_4 i_5)) dX5_windowsOf_66 ?_
            refine lv_topi (fun y_19 ey_19 => ?_)
            have j_19 : y_19.toInt = (f i.toNatClampNeg).toInt := congrArg Int32.toInt ey_19
            refine lv_iload_n hx hb dX5_windowsOf_67 rfl (lv_at hl 4 rfl) ?_
            refine lv_icmp_ne (tgt := 74) hx hb dX5_windowsOf_68 (by decide) (fun c_20 => ?_) (fun c_20 => ?_)
            · have i_20 : ¬ y_19.toInt = p0.toInt := kc_ne c_20
              obtain ⟨x_21, ex_21⟩ : ∃ y : Int32, y = i + 1 := ⟨_, rfl⟩
              have i_21 : x_21.toInt = i.toInt + 1 := ki_add ex_21 rfl rfl (om_13 LP1_h0) (om_238 a1 LP1_h1)
              refine lv_iinc (v := x_21) (lv' := [(7, .int x_21), (5, .int x_18), (6, .int of), (0, .ref h0), (1, .int p0), (2, .int p1), (3, .int p2), (4, .int p3)]) hx hb dX5_windowsOf_74 hl (k := 1) rfl (by rw [ex_21]; rfl) (by decide) rfl (fun ls hl => ?_)
              refine lv_goto (tgt := 17) hx hb dX5_windowsOf_77 (by decide) ?_
              exact ih1 x_21 x_18 of (om_34 LP1_h0 i_21) (om_280 b0 i_4 i_5 i_21) (om_mu hn1 (om_5 i_21) (om_281 b0 i_4 i_5)) ls (lv_sub hl [0, 2, 1, 3, 4, 5, 6, 7] rfl)
            · have i_20 : y_19.toInt = p0.toInt := kc_eq c_20
              obtain ⟨x_22, ex_22⟩ : ∃ y : Int32, y = of + (-1) := ⟨_, rfl⟩
              refine lv_iinc (v := x_22) (lv' := [(6, .int x_22), (5, .int x_18), (7, .int i), (0, .ref h0), (1, .int p0), (2, .int p1), (3, .int p2), (4, .int p3)]) hx hb dX5_windowsOf_71 hl (k := 2) rfl (by rw [ex_22]; rfl) (by decide) rfl (fun ls hl => ?_)
              obtain ⟨x_23, ex_23⟩ : ∃ y : Int32, y = i + 1 := ⟨_, rfl⟩
              have i_23 : x_23.toInt = i.toInt + 1 := ki_add ex_23 rfl rfl (om_13 LP1_h0) (om_238 a1 LP1_h1)
              refine lv_iinc (v := x_23) (lv' := [(7, .int x_23), (6, .int x_22), (5, .int x_18), (0, .ref h0), (1, .int p0), (2, .int p1), (3, .int p2), (4, .int p3)]) hx hb dX5_windowsOf_74 hl (k := 2) rfl (by rw [ex_23]; rfl) (by decide) rfl (fun ls hl => ?_)
              refine lv_goto (tgt := 17) hx hb dX5_windowsOf_77 (by decide) ?_
              exact ih1 x_23 x_18 x_22 (om_34 LP1_h0 i_23) (om_280 b0 i_4 i_5 i_23) (om_mu hn1 (om_5 i_23) (om_281 b0 i_4 i_5)) ls (lv_sub hl [0, 1, 2, 3, 4, 5, 6, 7] rfl)
        · have i_9 : y_8.toInt = p0.toInt := kc_eq c_9
          obtain ⟨x_24, ex_24⟩ : ∃ y : Int32, y = of + 1 := ⟨_, rfl⟩
          refine lv_iinc (v := x_24) (lv' := [(6, .int x_24), (7, .int i), (5, .int sm), (0, .ref h0), (1, .int p0), (2, .int p1), (3, .int p2), (4, .int p3)]) hx hb dX5_windowsOf_43 hl (k := 1) rfl (by rw [ex_24]; rfl) (by decide) rfl (fun ls hl => ?_)
          refine lv_iload hx hb dX5_windowsOf_46 (lv_at hl 0 rfl) ?_
          refine lv_iload hx hb dX5_windowsOf_48 (lv_at hl 7 rfl) ?_
          refine lv_imul hx hb dX5_windowsOf_50 ?_
          refine lv_topi (fun y_25 ey_25 => ?_)
          refine lv_iload_n hx hb dX5_windowsOf_51 rfl (lv_at hl 6 rfl) ?_
          refine lv_iload_n hx hb dX5_windowsOf_52 rfl (lv_at hl 5 rfl) ?_
          refine lv_imul hx hb dX5_windowsOf_53 ?_
          refine lv_topi (fun y_26 ey_26 => ?_)
          refine lv_icmp_le (tgt := 60) hx hb dX5_windowsOf_54 (by decide) (fun c_27 => ?_) (fun c_27 => ?_)
          · have i_27 : y_25.toInt ≤ y_26.toInt := kc_le c_27
            refine lv_aload_n hx hb dX5_windowsOf_60 rfl (lv_at hl 3 rfl) ?_
            refine va_get (D := (dC, dI)) (ci := 5) (v := .ref g_row) (C := RX5) (T := TX5) (N := 30) hx hb hts hi_5 hown hK hP 0 rfl rfl 0 (by decide) hf_7 (fun _ h9 => h9) rfl dX5_windowsOf_61 ?_
            refine lv_iload hx hb dX5_windowsOf_64 (lv_at hl 1 rfl) ?_
            refine va_iald hx hb hK hP 1 0 rfl rfl (ki_in (om_10 LP1_h0) (om_279 a1 b0 i_4 i_5)) dX5_windowsOf_66 ?_
            refine lv_topi (fun y_28 ey_28 => ?_)
            have j_28 : y_28.toInt = (f i.toNatClampNeg).toInt := congrArg Int32.toInt ey_28
            refine lv_iload_n hx hb dX5_windowsOf_67 rfl (lv_at hl 4 rfl) ?_
            refine lv_icmp_ne (tgt := 74) hx hb dX5_windowsOf_68 (by decide) (fun c_29 => ?_) (fun c_29 => ?_)
            · have i_29 : ¬ y_28.toInt = p0.toInt := kc_ne c_29
              obtain ⟨x_30, ex_30⟩ : ∃ y : Int32, y = i + 1 := ⟨_, rfl⟩
              have i_30 : x_30.toInt = i.toInt + 1 := ki_add ex_30 rfl rfl (om_13 LP1_h0) (om_238 a1 LP1_h1)
              refine lv_iinc (v := x_30) (lv' := [(7, .int x_30), (6, .int x_24), (5, .int sm), (0, .ref h0), (1, .int p0), (2, .int p1), (3, .int p2), (4, .int p3)]) hx hb dX5_windowsOf_74 hl (k := 1) rfl (by rw [ex_30]; rfl) (by decide) rfl (fun ls hl => ?_)
              refine lv_goto (tgt := 17) hx hb dX5_windowsOf_77 (by decide) ?_
              exact ih1 x_30 sm x_24 (om_34 LP1_h0 i_30) (om_280 b0 i_4 i_5 i_30) (om_mu hn1 (om_5 i_30) (om_281 b0 i_4 i_5)) ls (lv_sub hl [0, 1, 2, 3, 4, 5, 6, 7] rfl)
            · have i_29 : y_28.toInt = p0.toInt := kc_eq c_29
              obtain ⟨x_31, ex_31⟩ : ∃ y : Int32, y = x_24 + (-1) := ⟨_, rfl⟩
              refine lv_iinc (v := x_31) (lv' := [(6, .int x_31), (7, .int i), (5, .int sm), (0, .ref h0), (1, .int p0), (2, .int p1), (3, .int p2), (4, .int p3)]) hx hb dX5_windowsOf_71 hl (k := 0) rfl (by rw [ex_31]; rfl) (by decide) rfl (fun ls hl => ?_)
              obtain ⟨x_32, ex_32⟩ : ∃ y : Int32, y = i + 1 := ⟨_, rfl⟩
              have i_32 : x_32.toInt = i.toInt + 1 := ki_add ex_32 rfl rfl (om_13 LP1_h0) (om_238 a1 LP1_h1)
              refine lv_iinc (v := x_32) (lv' := [(7, .int x_32), (6, .int x_31), (5, .int sm), (0, .ref h0), (1, .int p0), (2, .int p1), (3, .int p2), (4, .int p3)]) hx hb dX5_windowsOf_74 hl (k := 1) rfl (by rw [ex_32]; rfl) (by decide) rfl (fun ls hl => ?_)
              refine lv_goto (tgt := 17) hx hb dX5_windowsOf_77 (by decide) ?_
              exact ih1 x_32 sm x_31 (om_34 LP1_h0 i_32) (om_280 b0 i_4 i_5 i_32) (om_mu hn1 (om_5 i_32) (om_281 b0 i_4 i_5)) ls (lv_sub hl [0, 1, 2, 3, 4, 5, 6, 7] rfl)
          · have i_27 : y_26.toInt < y_25.toInt := kc_nle c_27
            obtain ⟨x_33, ex_33⟩ : ∃ y : Int32, y = sm + 1 := ⟨_, rfl⟩
            refine lv_iinc (v := x_33) (lv' := [(5, .int x_33), (6, .int x_24), (7, .int i), (0, .ref h0), (1, .int p0), (2, .int p1), (3, .int p2), (4, .int p3)]) hx hb dX5_windowsOf_57 hl (k := 2) rfl (by rw [ex_33]; rfl) (by decide) rfl (fun ls hl => ?_)
            refine lv_aload_n hx hb dX5_windowsOf_60 rfl (lv_at hl 3 rfl) ?_
            refine va_get (D := (dC, dI)) (ci := 5) (v := .ref g_row) (C := RX5) (T := TX5) (N := 30) hx hb hts hi_5 hown hK hP 0 rfl rfl 0 (by decide) hf_7 (fun _ h9 => h9) rfl dX5_windowsOf_61 ?_
            refine lv_iload hx hb dX5_windowsOf_64 (lv_at hl 2 rfl) ?_
            refine va_iald hx hb hK hP 1 0 rfl rfl (ki_in (om_10 LP1_h0) (om_279 a1 b0 i_4 i_5)) dX5_windowsOf_66 ?_
            refine lv_topi (fun y_34 ey_34 => ?_)
            have j_34 : y_34.toInt = (f i.toNatClampNeg).toInt := congrArg Int32.toInt ey_34
            refine lv_iload_n hx hb dX5_windowsOf_67 rfl (lv_at hl 4 rfl) ?_
            refine lv_icmp_ne (tgt := 74) hx hb dX5_windowsOf_68 (by decide) (fun c_35 => ?_) (fun c_35 => ?_)
            · have i_35 : ¬ y_34.toInt = p0.toInt := kc_ne c_35
              obtain ⟨x_36, ex_36⟩ : ∃ y : Int32, y = i + 1 := ⟨_, rfl⟩
              have i_36 : x_36.toInt = i.toInt + 1 := ki_add ex_36 rfl rfl (om_13 LP1_h0) (om_238 a1 LP1_h1)
              refine lv_iinc (v := x_36) (lv' := [(7, .int x_36), (5, .int x_33), (6, .int x_24), (0, .ref h0), (1, .int p0), (2, .int p1), (3, .int p2), (4, .int p3)]) hx hb dX5_windowsOf_74 hl (k := 2) rfl (by rw [ex_36]; rfl) (by decide) rfl (fun ls hl => ?_)
              refine lv_goto (tgt := 17) hx hb dX5_windowsOf_77 (by decide) ?_
              exact ih1 x_36 x_33 x_24 (om_34 LP1_h0 i_36) (om_280 b0 i_4 i_5 i_36) (om_mu hn1 (om_5 i_36) (om_281 b0 i_4 i_5)) ls (lv_sub hl [0, 2, 1, 3, 4, 5, 6, 7] rfl)
            · have i_35 : y_34.toInt = p0.toInt := kc_eq c_35
              obtain ⟨x_37, ex_37⟩ : ∃ y : Int32, y = x_24 + (-1) := ⟨_, rfl⟩
              refine lv_iinc (v := x_37) (lv' := [(6, .int x_37), (5, .int x_33), (7, .int i), (0, .ref h0), (1, .int p0), (2, .int p1), (3, .int p2), (4, .int p3)]) hx hb dX5_windowsOf_71 hl (k := 1) rfl (by rw [ex_37]; rfl) (by decide) rfl (fun ls hl => ?_)
              obtain ⟨x_38, ex_38⟩ : ∃ y : Int32, y = i + 1 := ⟨_, rfl⟩
              have i_38 : x_38.toInt = i.toInt + 1 := ki_add ex_38 rfl rfl (om_13 LP1_h0) (om_238 a1 LP1_h1)
              refine lv_iinc (v := x_38) (lv' := [(7, .int x_38), (6, .int x_37), (5, .int x_33), (0, .ref h0), (1, .int p0), (2, .int p1), (3, .int p2), (4, .int p3)]) hx hb dX5_windowsOf_74 hl (k := 2) rfl (by rw [ex_38]; rfl) (by decide) rfl (fun ls hl => ?_)
              refine lv_goto (tgt := 17) hx hb dX5_windowsOf_77 (by decide) ?_
              exact ih1 x_38 x_33 x_37 (om_34 LP1_h0 i_38) (om_280 b0 i_4 i_5 i_38) (om_mu hn1 (om_5 i_38) (om_281 b0 i_4 i_5)) ls (lv_sub hl [0, 1, 2, 3, 4, 5, 6, 7] rfl)
  have k_39 : (0 : Int32).toInt = 0 := rfl
  have k_40 : (0 : Int32).toInt = 0 := rfl
  exact LP1 ((m_n.toInt - 0 : Int).toNat + 1) 0 0 r_3 om_35 (om_10 a0) (Nat.lt_succ_self _) ls (lv_sub hl [0, 1, 2, 3, 4, 5, 6, 7] rfl)

set_option maxHeartbeats 4000000 in
set_option maxRecDepth 100000 in
theorem c_X5_anyWindows (l : Launch) (dC : Nat → ClassId) (dI : Nat → Nat → Nat) (h0 : Nat) (g_row : Nat) (g_many : Nat) (g_loss : Nat) (g_less : Nat) (g_voteValue : Nat) (g_voteNumber : Nat) (g_allValue : Nat) (g_allNumber : Nat) (g_nodeL : Nat) (g_nodeR : Nat) (g_part : Nat) (g_wasMany : Nat) (g_wasLoss : Nat) (g_wasValue : Nat) (g_wasNumber : Nat) (g_path : Nat) (g_heavyValue : Nat) (g_heavyTimes : Nat) (g_fewest : Nat) (g_which : Nat) (g_met : Nat) (m_n : Int32) (m_slots : Int32) (m_thrown : Int32) (m_allMany : Int32) (m_nodes : Int32) (m_partMany : Int32) (m_pathMany : Int32) (m_heavyMany : Int32) (m_mostMet : Int32) (cyI : ClassId) (f : Nat → Int32) (p0 : Int32) (p1 : Int32) (p2 : Int32) (a0 : 0 ≤ m_n.toInt) (a1 : m_n.toInt ≤ 160) (b0 : 1 ≤ p0.toInt) (b1 : p0.toInt ≤ m_n.toInt) : Met l yX5_anyWindows wsX5_anyWindows ({ frames := 1, cells := 0, slots := 0, locals := 45 }) (va_Pc [.ref h0, .int p0, .int p1, .int p2] (fun U => va_P (dC, dI) vwCl [kx_5 h0 g_row m_n m_slots m_thrown g_many g_loss g_less g_voteValue g_voteNumber g_allValue g_allNumber m_allMany g_nodeL g_nodeR m_nodes g_part m_partMany g_wasMany g_wasLoss g_wasValue g_wasNumber g_path m_pathMany g_heavyValue g_heavyTimes m_heavyMany g_fewest g_which g_met m_mostMet, kx_a g_row cyI 160 f] U.heap ∧ va_K (dC, dI) vwCl [(cyI, .int)] U)) (vp_Si (fun r : Int32 => True)) 0 0 (fun _ => False) := by
  refine kx_stS (ws := wsX5_anyWindows) (cc := cX5_anyWindows) (maxL := 8) (ret := (some .int)) (by decide) rfl (Nat.le_of_ble_eq_true rfl) ?_
  intro p e s m below meth c ls hx hb hr hlocks hts hown hml hP hK hl
  have hown : s.vm.findClass RX5 = some m.cls := hown
  have hl : lv_has ls 8 [(0, .ref h0), (1, .int p0), (2, .int p1), (3, .int p2)] := hl
  have hf_84 := hts (.fieldLink RX5 84 "MajorityIndexModel" "n" "I") (List.mem_of_getElem? (i := 1) rfl)
  have hi_5 : ∀ w ∈ u_ws RX5 TX5 30, w ∈ wsX5_anyWindows := fun w h => List.mem_cons_of_mem _ (List.mem_append_right _ h)
  have hf_7 := hts (.fieldLink RX5 7 "MajorityIndexModel" "row" "[I") (List.mem_of_getElem? (i := 2) rfl)
  refine lv_iconst (v := 0) hx hb dX5_anyWindows_0 (by decide) ?_
  refine lv_istore (lv' := [(4, .int 0), (0, .ref h0), (1, .int p0), (2, .int p1), (3, .int p2)]) hx hb dX5_anyWindows_1 hl (by decide) rfl (fun ls hl => ?_)
  refine lv_iconst (v := 0) hx hb dX5_anyWindows_3 (by decide) ?_
  refine lv_istore (lv' := [(5, .int 0), (4, .int 0), (0, .ref h0), (1, .int p0), (2, .int p1), (3, .int p2)]) hx hb dX5_anyWindows_4 hl (by decide) rfl (fun ls hl => ?_)
  have LP1 : ∀ (n : Nat) (i : Int32) (sm : Int32), (0 ≤ i.toInt) → (i.toInt ≤ m_n.toInt) → (m_n.toInt - i.toInt).toNat < n → ∀ (ls : Array Slot), lv_has ls 8 [(5, .int i), (4, .int sm), (0, .ref h0), (1, .int p0), (2, .int p1), (3, .int p2)] → W p l e (headSpec wsX5_anyWindows ({ frames := 1, cells := 0, slots := 0, locals := 45 })).room s m ([.ref h0, .int p0, .int p1, .int p2] : List Value).toArray below meth c s.heap [] 0 0 (MQ below (vp_Si (fun r : Int32 => True)) ([.ref h0, .int p0, .int p1, .int p2] : List Value).toArray s 0 0 (fun _ => False)) (F0 m 6 ls []) := by
    intro n
    induction n with
    | zero => intro i sm LP1_h0 LP1_h1 hn; exact absurd hn (Nat.not_lt_zero _)
    | succ n ih1 =>
      intro i sm LP1_h0 LP1_h1 hn1 ls hl
      refine lv_iload hx hb dX5_anyWindows_6 (lv_at hl 0 rfl) ?_
      refine lv_iload_n hx hb dX5_anyWindows_8 rfl (lv_at hl 3 rfl) ?_
      refine lv_iadd hx hb dX5_anyWindows_9 ?_
      refine lv_topi (fun y_1 ey_1 => ?_)
      have i_1 : y_1.toInt = i.toInt + p0.toInt := ki_add ey_1 rfl rfl (om_272 b0 LP1_h0) (om_273 a1 b1 LP1_h1)
      refine lv_aload_n hx hb dX5_anyWindows_10 rfl (lv_at hl 2 rfl) ?_
      refine va_get (D := (dC, dI)) (ci := 5) (v := .int m_n) (C := RX5) (T := TX5) (N := 30) hx hb hts hi_5 hown hK hP 0 rfl rfl 1 (by decide) hf_84 (fun _ h9 => h9) rfl dX5_anyWindows_11 ?_
      refine lv_icmp_gt (tgt := 90) hx hb dX5_anyWindows_14 (by decide) (fun c_2 => ?_) (fun c_2 => ?_)
      · have i_2 : m_n.toInt < y_1.toInt := kc_lt c_2
        refine lv_iload hx hb dX5_anyWindows_90 (lv_at hl 1 rfl) ?_
        exact W.iret (v := sm) hx hb hr (hlocks := hlocks) (fun t ht hW => ⟨sm, rfl, trivial, ht⟩) (fun q hq => by cases hq) dX5_anyWindows_92
      · have i_2 : y_1.toInt ≤ m_n.toInt := kc_nlt c_2
        refine lv_iconst (v := 0) hx hb dX5_anyWindows_17 (by decide) ?_
        refine lv_istore (lv' := [(6, .int 0), (5, .int i), (4, .int sm), (0, .ref h0), (1, .int p0), (2, .int p1), (3, .int p2)]) hx hb dX5_anyWindows_18 hl (by decide) rfl (fun ls hl => ?_)
        refine lv_iload hx hb dX5_anyWindows_20 (lv_at hl 1 rfl) ?_
        refine lv_istore (lv' := [(7, .int i), (6, .int 0), (5, .int i), (4, .int sm), (0, .ref h0), (1, .int p0), (2, .int p1), (3, .int p2)]) hx hb dX5_anyWindows_22 hl (by decide) rfl (fun ls hl => ?_)
        have LP2 : ∀ (n : Nat) (j : Int32) (is : Int32), (i.toInt ≤ j.toInt) → (j.toInt ≤ i.toInt + p0.toInt) → (i.toInt + p0.toInt - j.toInt).toNat < n → ∀ (ls : Array Slot), lv_has ls 8 [(7, .int j), (6, .int is), (5, .int i), (4, .int sm), (0, .ref h0), (1, .int p0), (2, .int p1), (3, .int p2)] → W p l e (headSpec wsX5_anyWindows ({ frames := 1, cells := 0, slots := 0, locals := 45 })).room s m ([.ref h0, .int p0, .int p1, .int p2] : List Value).toArray below meth c s.heap [] 0 0 (MQ below (vp_Si (fun r : Int32 => True)) ([.ref h0, .int p0, .int p1, .int p2] : List Value).toArray s 0 0 (fun _ => False)) (F0 m 24 ls []) := by
          intro n
          induction n with
          | zero => intro j is LP2_h0 LP2_h1 hn; exact absurd hn (Nat.not_lt_zero _)
          | succ n ih2 =>
            intro j is LP2_h0 LP2_h1 hn2 ls hl
            refine lv_iload hx hb dX5_anyWindows_24 (lv_at hl 0 rfl) ?_
            refine lv_iload hx hb dX5_anyWindows_26 (lv_at hl 2 rfl) ?_
            refine lv_iload_n hx hb dX5_anyWindows_28 rfl (lv_at hl 5 rfl) ?_
            refine lv_iadd hx hb dX5_anyWindows_29 ?_
            refine lv_topi (fun y_3 ey_3 => ?_)
            have i_3 : y_3.toInt = i.toInt + p0.toInt := ki_add ey_3 rfl rfl (om_272 b0 LP1_h0) (om_274 a1 i_1 i_2)
            refine lv_icmp_ge (tgt := 76) hx hb dX5_anyWindows_30 (by decide) (fun c_4 => ?_) (fun c_4 => ?_)
            · have i_4 : y_3.toInt ≤ j.toInt := kc_le c_4
              refine lv_iload hx hb dX5_anyWindows_76 (lv_at hl 1 rfl) ?_
              refine lv_if_eq (tgt := 84) hx hb dX5_anyWindows_78 (by decide) (fun c_5 => ?_) (fun c_5 => ?_)
              · have i_5 : is.toInt = 0 := kc_eq c_5
                obtain ⟨x_6, ex_6⟩ : ∃ y : Int32, y = i + 1 := ⟨_, rfl⟩
                have i_6 : x_6.toInt = i.toInt + 1 := ki_add ex_6 rfl rfl (om_13 LP1_h0) (om_238 a1 LP1_h1)
                refine lv_iinc (v := x_6) (lv' := [(5, .int x_6), (7, .int j), (6, .int is), (4, .int sm), (0, .ref h0), (1, .int p0), (2, .int p1), (3, .int p2)]) hx hb dX5_anyWindows_84 hl (k := 2) rfl (by rw [ex_6]; rfl) (by decide) rfl (fun ls hl => ?_)
                refine lv_goto (tgt := 6) hx hb dX5_anyWindows_87 (by decide) ?_
                exact ih1 x_6 sm (om_34 LP1_h0 i_6) (om_280 b0 i_1 i_2 i_6) (om_mu hn1 (om_5 i_6) (om_281 b0 i_1 i_2)) ls (lv_sub hl [0, 3, 4, 5, 6, 7] rfl)
              · have i_5 : ¬ is.toInt = 0 := kc_ne c_5
                obtain ⟨x_7, ex_7⟩ : ∃ y : Int32, y = sm + 1 := ⟨_, rfl⟩
                refine lv_iinc (v := x_7) (lv' := [(4, .int x_7), (7, .int j), (6, .int is), (5, .int i), (0, .ref h0), (1, .int p0), (2, .int p1), (3, .int p2)]) hx hb dX5_anyWindows_81 hl (k := 3) rfl (by rw [ex_7]; rfl) (by decide) rfl (fun ls hl => ?_)
                obtain ⟨x_8, ex_8⟩ : ∃ y : Int32, y = i + 1 := ⟨_, rfl⟩
                have i_8 : x_8.toInt = i.toInt + 1 := ki_add ex_8 rfl rfl (om_13 LP1_h0) (om_238 a1 LP1_h1)
                refine lv_iinc (v := x_8) (lv' := [(5, .int x_8), (4, .int x_7), (7, .int j), (6, .int is), (0, .ref h0), (1, .int p0), (2, .int p1), (3, .int p2)]) hx hb dX5_anyWindows_84 hl (k := 3) rfl (by rw [ex_8]; rfl) (by decide) rfl (fun ls hl => ?_)
                refine lv_goto (tgt := 6) hx hb dX5_anyWindows_87 (by decide) ?_
                exact ih1 x_8 x_7 (om_34 LP1_h0 i_8) (om_280 b0 i_1 i_2 i_8) (om_mu hn1 (om_5 i_8) (om_281 b0 i_1 i_2)) ls (lv_sub hl [0, 1, 4, 5, 6, 7] rfl)
            · have i_4 : j.toInt < y_3.toInt := kc_nle c_4
              refine lv_iload hx hb dX5_anyWindows_33 (lv_at hl 1 rfl) ?_
              refine lv_if_ne (tgt := 76) hx hb dX5_anyWindows_35 (by decide) (fun c_9 => ?_) (fun c_9 => ?_)
              · have i_9 : ¬ is.toInt = 0 := kc_ne c_9
                refine lv_iload hx hb dX5_anyWindows_76 (lv_at hl 1 rfl) ?_
                refine lv_if_eq (tgt := 84) hx hb dX5_anyWindows_78 (by decide) (fun c_10 => ?_) (fun c_10 => ?_)
                · have i_10 : is.toInt = 0 := kc_eq c_10
                  obtain ⟨x_11, ex_11⟩ : ∃ y : Int32, y = i + 1 := ⟨_, rfl⟩
                  have i_11 : x_11.toInt = i.toInt + 1 := ki_add ex_11 rfl rfl (om_13 LP1_h0) (om_238 a1 LP1_h1)
                  refine lv_iinc (v := x_11) (lv' := [(5, .int x_11), (7, .int j), (6, .int is), (4, .int sm), (0, .ref h0), (1, .int p0), (2, .int p1), (3, .int p2)]) hx hb dX5_anyWindows_84 hl (k := 2) rfl (by rw [ex_11]; rfl) (by decide) rfl (fun ls hl => ?_)
                  refine lv_goto (tgt := 6) hx hb dX5_anyWindows_87 (by decide) ?_
                  exact ih1 x_11 sm (om_34 LP1_h0 i_11) (om_280 b0 i_1 i_2 i_11) (om_mu hn1 (om_5 i_11) (om_281 b0 i_1 i_2)) ls (lv_sub hl [0, 3, 4, 5, 6, 7] rfl)
                · have i_10 : ¬ is.toInt = 0 := kc_ne c_10
                  obtain ⟨x_12, ex_12⟩ : ∃ y : Int32, y = sm + 1 := ⟨_, rfl⟩
                  refine lv_iinc (v := x_12) (lv' := [(4, .int x_12), (7, .int j), (6, .int is), (5, .int i), (0, .ref h0), (1, .int p0), (2, .int p1), (3, .int p2)]) hx hb dX5_anyWindows_81 hl (k := 3) rfl (by rw [ex_12]; rfl) (by decide) rfl (fun ls hl => ?_)
                  obtain ⟨x_13, ex_13⟩ : ∃ y : Int32, y = i + 1 := ⟨_, rfl⟩
                  have i_13 : x_13.toInt = i.toInt + 1 := ki_add ex_13 rfl rfl (om_13 LP1_h0) (om_238 a1 LP1_h1)
                  refine lv_iinc (v := x_13) (lv' := [(5, .int x_13), (4, .int x_12), (7, .int j), (6, .int is), (0, .ref h0), (1, .int p0), (2, .int p1), (3, .int p2)]) hx hb dX5_anyWindows_84 hl (k := 3) rfl (by rw [ex_13]; rfl) (by decide) rfl (fun ls hl => ?_)
                  refine lv_goto (tgt := 6) hx hb dX5_anyWindows_87 (by decide) ?_
                  exact ih1 x_13 x_12 (om_34 LP1_h0 i_13) (om_280 b0 i_1 i_2 i_13) (om_mu hn1 (om_5 i_13) (om_281 b0 i_1 i_2)) ls (lv_sub hl [0, 1, 4, 5, 6, 7] rfl)
              · have i_9 : is.toInt = 0 := kc_eq c_9
                refine lv_aload_n hx hb dX5_anyWindows_38 rfl (lv_at hl 4 rfl) ?_
                refine lv_aload_n hx hb dX5_anyWindows_39 rfl (lv_at hl 4 rfl) ?_
                refine va_get (D := (dC, dI)) (ci := 5) (v := .ref g_row) (C := RX5) (T := TX5) (N := 30) hx hb hts hi_5 hown hK hP 0 rfl rfl 0 (by decide) hf_7 (fun _ h9 => h9) rfl dX5_anyWindows_40 ?_
                refine lv_iload hx hb dX5_anyWindows_43 (lv_at hl 0 rfl) ?_
                refine va_iald hx hb hK hP 1 0 rfl rfl (ki_in (om_0 LP1_h0 LP2_h0) (om_282 a1 i_1 i_2 i_3 i_4)) dX5_anyWindows_45 ?_
                refine lv_topi (fun y_14 ey_14 => ?_)
                have j_14 : y_14.toInt = (f j.toNatClampNeg).toInt := congrArg Int32.toInt ey_14
                refine lv_iload hx hb dX5_anyWindows_46 (lv_at hl 2 rfl) ?_
                refine lv_iload hx hb dX5_anyWindows_48 (lv_at hl 2 rfl) ?_
                refine lv_iload_n hx hb dX5_anyWindows_50 rfl (lv_at hl 5 rfl) ?_
                refine lv_iadd hx hb dX5_anyWindows_51 ?_
                refine lv_topi (fun y_15 ey_15 => ?_)
                have i_15 : y_15.toInt = i.toInt + p0.toInt := ki_add ey_15 rfl rfl (om_272 b0 LP1_h0) (om_274 a1 i_1 i_2)
                have hPc := hP
                have hKc := hK
                refine vp_callSi (W.runV (As := [.int y_14, .int i, .int y_15]) (rest := []) ⟨hx, hb, hml, hown, hts⟩ (c_X5_times l dC dI h0 g_row g_many g_loss g_less g_voteValue g_voteNumber g_allValue g_allNumber g_nodeL g_nodeR g_part g_wasMany g_wasLoss g_wasValue g_wasNumber g_path g_heavyValue g_heavyTimes g_fewest g_which g_met m_n m_slots m_thrown m_allMany m_nodes m_partMany m_pathMany m_heavyMany m_mostMet cyI f y_14 i y_15 LP1_h0 (om_283 a1 i_1 i_2 i_15)) (cwV 3 hts gX5_anyWindows_X5_times rfl rfl rfl (by decide +kernel) ⟨Nat.le_of_ble_eq_true rfl, Nat.le_of_ble_eq_true rfl⟩) ⟨fun a U g mk q => by obtain ⟨q0, qP, qK⟩ := q; exact ⟨q0, qP, va_K.moved (u := U) (U := U.calling g mk a) (Vm.Alike.refl U.vm) qK⟩, kx_rc5 hKc hPc (q0 := 0) rfl, fun U hU hW => ⟨rfl, by rw [hU]; exact hPc, va_K.moved hW.alike hKc⟩⟩ rfl rfl hl.1 rfl (lv_room (Nat.le_of_ble_eq_true rfl)) dX5_anyWindows_52 ⟨Nat.le_of_ble_eq_true rfl, Nat.le_of_ble_eq_true rfl⟩) (fun r_16 w_16 => ?_)
                have w_16 : r_16.toInt = (cnt f y_14 i.toNatClampNeg (y_15.toInt - i.toInt).toNat : Int) := w_16
                refine lv_iload_n hx hb dX5_anyWindows_55 rfl (lv_at hl 7 rfl) ?_
                refine lv_imul hx hb dX5_anyWindows_56 ?_
                refine lv_topi (fun y_17 ey_17 => ?_)
                refine lv_iload_n hx hb dX5_anyWindows_57 rfl (lv_at hl 6 rfl) ?_
                refine lv_iload_n hx hb dX5_anyWindows_58 rfl (lv_at hl 5 rfl) ?_
                refine lv_imul hx hb dX5_anyWindows_59 ?_
                refine lv_topi (fun y_18 ey_18 => ?_)
                refine lv_icmp_le (tgt := 67) hx hb dX5_anyWindows_60 (by decide) (fun c_19 => ?_) (fun c_19 => ?_)
                · have i_19 : y_17.toInt ≤ y_18.toInt := kc_le c_19
                  refine lv_iconst (v := 0) hx hb dX5_anyWindows_67 (by decide) ?_
                  refine lv_istore (lv' := [(6, .int 0), (7, .int j), (5, .int i), (4, .int sm), (0, .ref h0), (1, .int p0), (2, .int p1), (3, .int p2)]) hx hb dX5_anyWindows_68 hl (by decide) rfl (fun ls hl => ?_)
                  obtain ⟨x_20, ex_20⟩ : ∃ y : Int32, y = j + 1 := ⟨_, rfl⟩
                  have i_20 : x_20.toInt = j.toInt + 1 := ki_add ex_20 rfl rfl (om_2 LP1_h0 LP2_h0) (om_284 a1 i_1 i_2 LP2_h1)
                  refine lv_iinc (v := x_20) (lv' := [(7, .int x_20), (6, .int 0), (5, .int i), (4, .int sm), (0, .ref h0), (1, .int p0), (2, .int p1), (3, .int p2)]) hx hb dX5_anyWindows_70 hl (k := 1) rfl (by rw [ex_20]; rfl) (by decide) rfl (fun ls hl => ?_)
                  refine lv_goto (tgt := 24) hx hb dX5_anyWindows_73 (by decide) ?_
                  have k_21 : (0 : Int32).toInt = 0 := rfl
                  exact ih2 x_20 0 (om_4 LP2_h0 i_20) (om_285 i_3 i_4 i_20) (om_mu hn2 (om_286 i_20) (om_287 i_3 i_4)) ls (lv_sub hl [0, 1, 2, 3, 4, 5, 6, 7] rfl)
                · have i_19 : y_18.toInt < y_17.toInt := kc_nle c_19
                  refine lv_iconst (v := 1) hx hb dX5_anyWindows_63 (by decide) ?_
                  refine lv_goto (tgt := 68) hx hb dX5_anyWindows_64 (by decide) ?_
                  refine lv_istore (lv' := [(6, .int 1), (7, .int j), (5, .int i), (4, .int sm), (0, .ref h0), (1, .int p0), (2, .int p1), (3, .int p2)]) hx hb dX5_anyWindows_68 hl (by decide) rfl (fun ls hl => ?_)
                  obtain ⟨x_22, ex_22⟩ : ∃ y : Int32, y = j + 1 := ⟨_, rfl⟩
                  have i_22 : x_22.toInt = j.toInt + 1 := ki_add ex_22 rfl rfl (om_2 LP1_h0 LP2_h0) (om_284 a1 i_1 i_2 LP2_h1)
                  refine lv_iinc (v := x_22) (lv' := [(7, .int x_22), (6, .int 1), (5, .int i), (4, .int sm), (0, .ref h0), (1, .int p0), (2, .int p1), (3, .int p2)]) hx hb dX5_anyWindows_70 hl (k := 1) rfl (by rw [ex_22]; rfl) (by decide) rfl (fun ls hl => ?_)
                  refine lv_goto (tgt := 24) hx hb dX5_anyWindows_73 (by decide) ?_
                  have k_23 : (1 : Int32).toInt = 1 := rfl
                  exact ih2 x_22 1 (om_4 LP2_h0 i_22) (om_285 i_3 i_4 i_22) (om_mu hn2 (om_286 i_22) (om_287 i_3 i_4)) ls (lv_sub hl [0, 1, 2, 3, 4, 5, 6, 7] rfl)
        have k_24 : (0 : Int32).toInt = 0 := rfl
        exact LP2 ((i.toInt + p0.toInt - i.toInt : Int).toNat + 1) i 0 om_7 (om_288 b0) (Nat.lt_succ_self _) ls (lv_sub hl [0, 1, 2, 3, 4, 5, 6, 7] rfl)
  have k_25 : (0 : Int32).toInt = 0 := rfl
  have k_26 : (0 : Int32).toInt = 0 := rfl
  exact LP1 ((m_n.toInt - 0 : Int).toNat + 1) 0 0 om_35 (om_10 a0) (Nat.lt_succ_self _) ls (lv_sub hl [0, 1, 2, 3, 4, 5] rfl)

set_option maxHeartbeats 4000000 in
set_option maxRecDepth 100000 in
theorem c_X5_windows (l : Launch) (dC : Nat → ClassId) (dI : Nat → Nat → Nat) (h0 : Nat) (g_row : Nat) (g_many : Nat) (g_loss : Nat) (g_less : Nat) (g_voteValue : Nat) (g_voteNumber : Nat) (g_allValue : Nat) (g_allNumber : Nat) (g_nodeL : Nat) (g_nodeR : Nat) (g_part : Nat) (g_wasMany : Nat) (g_wasLoss : Nat) (g_wasValue : Nat) (g_wasNumber : Nat) (g_path : Nat) (g_heavyValue : Nat) (g_heavyTimes : Nat) (g_fewest : Nat) (g_which : Nat) (g_met : Nat) (m_n : Int32) (m_slots : Int32) (m_thrown : Int32) (m_allMany : Int32) (m_nodes : Int32) (m_partMany : Int32) (m_pathMany : Int32) (m_heavyMany : Int32) (m_mostMet : Int32) (cyI : ClassId) (f : Nat → Int32) (p0 : Int32) (p1 : Int32) (p2 : Int32) (p3 : Int32) (sz : Nat) (a0 : 0 ≤ m_n.toInt) (a1 : m_n.toInt ≤ 160) : kx_MQ l (dC, dI) yX5_windows wsX5_windows ({ frames := 2, cells := 0, slots := 0, locals := 90 }) [.ref h0, .int p0, .int p1, .int p2, .int p3] [kx_5 h0 g_row m_n m_slots m_thrown g_many g_loss g_less g_voteValue g_voteNumber g_allValue g_allNumber m_allMany g_nodeL g_nodeR m_nodes g_part m_partMany g_wasMany g_wasLoss g_wasValue g_wasNumber g_path m_pathMany g_heavyValue g_heavyTimes m_heavyMany g_fewest g_which g_met m_mostMet, kx_a g_row cyI 160 f] [(cyI, .int)] sz (fun A => va_Qi (fun (r : Int32) (_ : Unit) => True) (fun (_ : Unit) (t : State) => va_P (dC, dI) vwCl [kx_5 h0 g_row m_n m_slots 0 g_many g_loss g_less g_voteValue g_voteNumber g_allValue g_allNumber m_allMany g_nodeL g_nodeR m_nodes g_part m_partMany g_wasMany g_wasLoss g_wasValue g_wasNumber g_path m_pathMany g_heavyValue g_heavyTimes m_heavyMany g_fewest g_which g_met m_mostMet, kx_a g_row cyI 160 f] t.heap ∧ va_K (dC, dI) vwCl [(cyI, .int)] t ∧ va_D A [kx_5 h0 g_row m_n m_slots 0 g_many g_loss g_less g_voteValue g_voteNumber g_allValue g_allNumber m_allMany g_nodeL g_nodeR m_nodes g_part m_partMany g_wasMany g_wasLoss g_wasValue g_wasNumber g_path m_pathMany g_heavyValue g_heavyTimes m_heavyMany g_fewest g_which g_met m_mostMet, kx_a g_row cyI 160 f]) A) := by
  refine kx_stQ (ws := wsX5_windows) (cc := cX5_windows) (maxL := 9) (ret := (some .int)) (by decide) rfl (Nat.le_of_ble_eq_true rfl) ?_
  intro p e s m below meth c A ls hx hb hr hlocks hts hown hml hA hS hP hK hD hl
  have hown : s.vm.findClass RX5 = some m.cls := hown
  have hl : lv_has ls 9 [(0, .ref h0), (1, .int p0), (2, .int p1), (3, .int p2), (4, .int p3)] := hl
  have hf_77 := hts (.fieldLink RX5 77 "MajorityIndexModel" "thrown" "I") (List.mem_of_getElem? (i := 1) rfl)
  have hi_5 : ∀ w ∈ u_ws RX5 TX5 30, w ∈ wsX5_windows := fun w h => List.mem_cons_of_mem _ (List.mem_append_right _ h)
  have hf_84 := hts (.fieldLink RX5 84 "MajorityIndexModel" "n" "I") (List.mem_of_getElem? (i := 2) rfl)
  have hk_148 := hts (.constant RX5 148 (-40000)) (List.mem_of_getElem? (i := 3) rfl)
  have hf_7 := hts (.fieldLink RX5 7 "MajorityIndexModel" "row" "[I") (List.mem_of_getElem? (i := 4) rfl)
  refine lv_aload_n hx hb dX5_windows_0 rfl (lv_at hl 0 rfl) ?_
  refine lv_iconst (v := 0) hx hb dX5_windows_1 (by decide) ?_
  refine va_put (D := (dC, dI)) (ci := 5) (v := .int 0) (ty := .int) (C := RX5) (T := TX5) (N := 30) hx hb hts hi_5 tyX5 tyX5_ok nmX5 hown hK hP hD hS 0 rfl rfl 3 (by decide) hf_77 (fun _ h9 => h9) rfl (by decide +kernel) rfl rfl (Nat.le_of_ble_eq_true rfl) dX5_windows_2 (fun H locs hP hD hS => ?_)
  obtain ⟨hP, hD⟩ := kx_re (w2 := [kx_5 h0 g_row m_n m_slots 0 g_many g_loss g_less g_voteValue g_voteNumber g_allValue g_allNumber m_allMany g_nodeL g_nodeR m_nodes g_part m_partMany g_wasMany g_wasLoss g_wasValue g_wasNumber g_path m_pathMany g_heavyValue g_heavyTimes m_heavyMany g_fewest g_which g_met m_mostMet, kx_a g_row cyI 160 f]) hP hD rfl
  refine lv_iload_n hx hb dX5_windows_5 rfl (lv_at hl 1 rfl) ?_
  refine lv_iconst (v := 1) hx hb dX5_windows_6 (by decide) ?_
  refine lv_aload_n hx hb dX5_windows_7 rfl (lv_at hl 0 rfl) ?_
  refine va_get (D := (dC, dI)) (ci := 5) (v := .int m_n) (C := RX5) (T := TX5) (N := 30) hx hb hts hi_5 hown hK hP 0 rfl rfl 1 (by decide) hf_84 (fun _ h9 => h9) rfl dX5_windows_8 ?_
  have hPc := hP.sub (ws' := []) [] rfl
  have hKc := hK.sub (tys' := []) [] rfl
  refine vp_callSi (W.runS (As := [.int p0, .int 1, .int m_n]) (rest := []) ⟨hx, hb, hml, hown, hts⟩ (c_X5_within l dC dI p0 1 m_n) (va_cwS 3 hts gX5_windows_X5_within rfl rfl rfl (by decide +kernel) ⟨Nat.le_of_ble_eq_true rfl, Nat.le_of_ble_eq_true rfl⟩) ⟨fun a U g mk q => by obtain ⟨q0, qP, qK⟩ := q; exact ⟨q0, qP, va_K.moved (u := U) (U := U.calling g mk a) (Vm.Alike.refl U.vm) qK⟩, fun U hU hW => ⟨rfl, by rw [hU]; exact hPc, va_K.moved hW.alike hKc⟩⟩ rfl rfl hl.1 rfl (lv_room (Nat.le_of_ble_eq_true rfl)) dX5_windows_11 ⟨Nat.le_of_ble_eq_true rfl, Nat.le_of_ble_eq_true rfl⟩) (fun r_1 w_1 => ?_)
  rcases w_1 with ⟨rfl, w_1⟩ | ⟨rfl, w_1⟩
  · have w_1 : (1 ≤ p0.toInt ∧ p0.toInt ≤ m_n.toInt) := w_1
    refine lv_if_eq (tgt := 35) hx hb dX5_windows_14 (by decide) (fun c_2 => ?_) (fun c_2 => ?_)
    · exact absurd c_2 (by decide)
    · refine lv_iload_n hx hb dX5_windows_17 rfl (lv_at hl 2 rfl) ?_
      refine lv_iload_n hx hb dX5_windows_18 rfl (lv_at hl 3 rfl) ?_
      have hPc := hP.sub (ws' := []) [] rfl
      have hKc := hK.sub (tys' := []) [] rfl
      refine vp_callSi (W.runS (As := [.int p1, .int p2]) (rest := []) ⟨hx, hb, hml, hown, hts⟩ (c_X5_isShare l dC dI p1 p2) (va_cwS 2 hts gX5_windows_X5_isShare rfl rfl rfl (by decide +kernel) ⟨Nat.le_of_ble_eq_true rfl, Nat.le_of_ble_eq_true rfl⟩) ⟨fun a U g mk q => by obtain ⟨q0, qP, qK⟩ := q; exact ⟨q0, qP, va_K.moved (u := U) (U := U.calling g mk a) (Vm.Alike.refl U.vm) qK⟩, fun U hU hW => ⟨rfl, by rw [hU]; exact hPc, va_K.moved hW.alike hKc⟩⟩ rfl rfl hl.1 rfl (lv_room (Nat.le_of_ble_eq_true rfl)) dX5_windows_19 ⟨Nat.le_of_ble_eq_true rfl, Nat.le_of_ble_eq_true rfl⟩) (fun r_3 w_3 => ?_)
      rcases w_3 with ⟨rfl, w_3⟩ | ⟨rfl, w_3⟩
      · have w_3 : (1 ≤ p1.toInt ∧ p1.toInt ≤ p2.toInt ∧ p2.toInt ≤ 999) := w_3
        refine lv_if_eq (tgt := 35) hx hb dX5_windows_22 (by decide) (fun c_4 => ?_) (fun c_4 => ?_)
        · exact absurd c_4 (by decide)
        · refine lv_iload hx hb dX5_windows_25 (lv_at hl 4 rfl) ?_
          refine lv_iconst (v := 0) hx hb dX5_windows_27 (by decide) ?_
          refine lv_iconst (v := 2) hx hb dX5_windows_28 (by decide) ?_
          have hPc := hP.sub (ws' := []) [] rfl
          have hKc := hK.sub (tys' := []) [] rfl
          refine vp_callSi (W.runS (As := [.int p3, .int 0, .int 2]) (rest := []) ⟨hx, hb, hml, hown, hts⟩ (c_X5_within l dC dI p3 0 2) (va_cwS 3 hts gX5_windows_X5_within rfl rfl rfl (by decide +kernel) ⟨Nat.le_of_ble_eq_true rfl, Nat.le_of_ble_eq_true rfl⟩) ⟨fun a U g mk q => by obtain ⟨q0, qP, qK⟩ := q; exact ⟨q0, qP, va_K.moved (u := U) (U := U.calling g mk a) (Vm.Alike.refl U.vm) qK⟩, fun U hU hW => ⟨rfl, by rw [hU]; exact hPc, va_K.moved hW.alike hKc⟩⟩ rfl rfl hl.1 rfl (lv_room (Nat.le_of_ble_eq_true rfl)) dX5_windows_29 ⟨Nat.le_of_ble_eq_true rfl, Nat.le_of_ble_eq_true rfl⟩) (fun r_5 w_5 => ?_)
          rcases w_5 with ⟨rfl, w_5⟩ | ⟨rfl, w_5⟩
          · have w_5 : (0 ≤ p3.toInt ∧ p3.toInt ≤ 2) := w_5
            refine lv_if_ne (tgt := 48) hx hb dX5_windows_32 (by decide) (fun c_6 => ?_) (fun c_6 => ?_)
            · refine lv_iload hx hb dX5_windows_48 (lv_at hl 4 rfl) ?_
              refine lv_if_ne (tgt := 61) hx hb dX5_windows_50 (by decide) (fun c_7 => ?_) (fun c_7 => ?_)
              · have i_7 : ¬ p3.toInt = 0 := kc_ne c_7
                refine lv_ldc (v := (-40000)) hx hb hown hk_148 dX5_windows_61 ?_
                refine lv_istore (lv' := [(5, .int (-40000)), (0, .ref h0), (1, .int p0), (2, .int p1), (3, .int p2), (4, .int p3)]) hx hb dX5_windows_63 hl (by decide) rfl (fun ls hl => ?_)
                refine lv_iconst (v := 0) hx hb dX5_windows_65 (by decide) ?_
                refine lv_istore (lv' := [(6, .int 0), (5, .int (-40000)), (0, .ref h0), (1, .int p0), (2, .int p1), (3, .int p2), (4, .int p3)]) hx hb dX5_windows_66 hl (by decide) rfl (fun ls hl => ?_)
                refine lv_iconst (v := 0) hx hb dX5_windows_68 (by decide) ?_
                refine lv_istore (lv' := [(7, .int 0), (6, .int 0), (5, .int (-40000)), (0, .ref h0), (1, .int p0), (2, .int p1), (3, .int p2), (4, .int p3)]) hx hb dX5_windows_69 hl (by decide) rfl (fun ls hl => ?_)
                have LP1 : ∀ (n : Nat) (i : Int32) (best : Int32) (most : Int32), (0 ≤ i.toInt) → (m_n.toInt - i.toInt).toNat < n → ∀ (H : Heap) (locs : List Loc), va_P (dC, dI) vwCl [kx_5 h0 g_row m_n m_slots 0 g_many g_loss g_less g_voteValue g_voteNumber g_allValue g_allNumber m_allMany g_nodeL g_nodeR m_nodes g_part m_partMany g_wasMany g_wasLoss g_wasValue g_wasNumber g_path m_pathMany g_heavyValue g_heavyTimes m_heavyMany g_fewest g_which g_met m_mostMet, kx_a g_row cyI 160 f] H → va_D A [kx_5 h0 g_row m_n m_slots 0 g_many g_loss g_less g_voteValue g_voteNumber g_allValue g_allNumber m_allMany g_nodeL g_nodeR m_nodes g_part m_partMany g_wasMany g_wasLoss g_wasValue g_wasNumber g_path m_pathMany g_heavyValue g_heavyTimes m_heavyMany g_fewest g_which g_met m_mostMet, kx_a g_row cyI 160 f] → va_S A s.heap H locs → ∀ (ls : Array Slot), lv_has ls 9 [(7, .int i), (6, .int most), (5, .int best), (0, .ref h0), (1, .int p0), (2, .int p1), (3, .int p2), (4, .int p3)] → W p l e (headSpec wsX5_windows ({ frames := 2, cells := 0, slots := 0, locals := 90 })).room s m ([.ref h0, .int p0, .int p1, .int p2, .int p3] : List Value).toArray below meth c H locs 0 0 (MQ below (va_Qi (fun (r : Int32) (_ : Unit) => True) (fun (_ : Unit) (t : State) => va_P (dC, dI) vwCl [kx_5 h0 g_row m_n m_slots 0 g_many g_loss g_less g_voteValue g_voteNumber g_allValue g_allNumber m_allMany g_nodeL g_nodeR m_nodes g_part m_partMany g_wasMany g_wasLoss g_wasValue g_wasNumber g_path m_pathMany g_heavyValue g_heavyTimes m_heavyMany g_fewest g_which g_met m_mostMet, kx_a g_row cyI 160 f] t.heap ∧ va_K (dC, dI) vwCl [(cyI, .int)] t ∧ va_D A [kx_5 h0 g_row m_n m_slots 0 g_many g_loss g_less g_voteValue g_voteNumber g_allValue g_allNumber m_allMany g_nodeL g_nodeR m_nodes g_part m_partMany g_wasMany g_wasLoss g_wasValue g_wasNumber g_path m_pathMany g_heavyValue g_heavyTimes m_heavyMany g_fewest g_which g_met m_mostMet, kx_a g_row cyI 160 f]) A) ([.ref h0, .int p0, .int p1, .int p2, .int p3] : List Value).toArray s 0 0 A) (F0 m 71 ls []) := by
                  intro n
                  induction n with
                  | zero => intro i best most LP1_h0 hn; exact absurd hn (Nat.not_lt_zero _)
                  | succ n ih1 =>
                    intro i best most LP1_h0 hn1 H locs hP hD hS ls hl
                    refine lv_iload hx hb dX5_windows_71 (lv_at hl 0 rfl) ?_
                    refine lv_aload_n hx hb dX5_windows_73 rfl (lv_at hl 3 rfl) ?_
                    refine va_get (D := (dC, dI)) (ci := 5) (v := .int m_n) (C := RX5) (T := TX5) (N := 30) hx hb hts hi_5 hown hK hP 0 rfl rfl 1 (by decide) hf_84 (fun _ h9 => h9) rfl dX5_windows_74 ?_
                    refine lv_icmp_ge (tgt := 169) hx hb dX5_windows_77 (by decide) (fun c_8 => ?_) (fun c_8 => ?_)
                    · have i_8 : m_n.toInt ≤ i.toInt := kc_le c_8
                      refine lv_iload hx hb dX5_windows_169 (lv_at hl 7 rfl) ?_
                      refine lv_iconst (v := 1) hx hb dX5_windows_171 (by decide) ?_
                      refine lv_icmp_ne (tgt := 180) hx hb dX5_windows_172 (by decide) (fun c_9 => ?_) (fun c_9 => ?_)
                      · have i_9 : ¬ p3.toInt = 1 := kc_ne c_9
                        refine lv_iload hx hb dX5_windows_180 (lv_at hl 1 rfl) ?_
                        have hP9 := hP
                        have hD9 := hD
                        have hK9 := hK
                        exact W.iret (v := most) hx hb hr (hlocks := hlocks) (fun t ht hW => ⟨⟨most, (), rfl, trivial, by rw [ht]; exact hP9, va_K.moved hW.alike hK9, hD9⟩, hS.F ht⟩) hS.2.2 dX5_windows_182
                      · have i_9 : p3.toInt = 1 := kc_eq c_9
                        refine lv_iload hx hb dX5_windows_175 (lv_at hl 2 rfl) ?_
                        refine lv_goto (tgt := 182) hx hb dX5_windows_177 (by decide) ?_
                        have hP9 := hP
                        have hD9 := hD
                        have hK9 := hK
                        exact W.iret (v := best) hx hb hr (hlocks := hlocks) (fun t ht hW => ⟨⟨best, (), rfl, trivial, by rw [ht]; exact hP9, va_K.moved hW.alike hK9, hD9⟩, hS.F ht⟩) hS.2.2 dX5_windows_182
                    · have i_8 : i.toInt < m_n.toInt := kc_nle c_8
                      refine lv_aload_n hx hb dX5_windows_80 rfl (lv_at hl 3 rfl) ?_
                      refine lv_aload_n hx hb dX5_windows_81 rfl (lv_at hl 3 rfl) ?_
                      refine va_get (D := (dC, dI)) (ci := 5) (v := .ref g_row) (C := RX5) (T := TX5) (N := 30) hx hb hts hi_5 hown hK hP 0 rfl rfl 0 (by decide) hf_7 (fun _ h9 => h9) rfl dX5_windows_82 ?_
                      refine lv_iload hx hb dX5_windows_85 (lv_at hl 0 rfl) ?_
                      refine va_iald hx hb hK hP 1 0 rfl rfl (ki_in (om_10 LP1_h0) (om_1 a1 i_8)) dX5_windows_87 ?_
                      refine lv_topi (fun y_10 ey_10 => ?_)
                      have j_10 : y_10.toInt = (f i.toNatClampNeg).toInt := congrArg Int32.toInt ey_10
                      refine lv_iconst (v := 0) hx hb dX5_windows_88 (by decide) ?_
                      refine lv_iload hx hb dX5_windows_89 (lv_at hl 0 rfl) ?_
                      have hPc := hP
                      have hKc := hK
                      have k_11 : (0 : Int32).toInt = 0 := rfl
                      refine vp_callSi (W.runV (As := [.int y_10, .int 0, .int i]) (rest := []) ⟨hx, hb, hml, hown, hts⟩ (c_X5_times l dC dI h0 g_row g_many g_loss g_less g_voteValue g_voteNumber g_allValue g_allNumber g_nodeL g_nodeR g_part g_wasMany g_wasLoss g_wasValue g_wasNumber g_path g_heavyValue g_heavyTimes g_fewest g_which g_met m_n m_slots 0 m_allMany m_nodes m_partMany m_pathMany m_heavyMany m_mostMet cyI f y_10 0 i om_35 (om_202 a1 i_8)) (cwV 3 hts gX5_windows_X5_times rfl rfl rfl (by decide +kernel) ⟨Nat.le_of_ble_eq_true rfl, Nat.le_of_ble_eq_true rfl⟩) ⟨fun a U g mk q => by obtain ⟨q0, qP, qK⟩ := q; exact ⟨q0, qP, va_K.moved (u := U) (U := U.calling g mk a) (Vm.Alike.refl U.vm) qK⟩, kx_rc5 hKc hPc (q0 := 0) rfl, fun U hU hW => ⟨rfl, by rw [hU]; exact hPc, va_K.moved hW.alike hKc⟩⟩ rfl rfl hl.1 rfl (lv_room (Nat.le_of_ble_eq_true rfl)) dX5_windows_91 ⟨Nat.le_of_ble_eq_true rfl, Nat.le_of_ble_eq_true rfl⟩) (fun r_12 w_12 => ?_)
                      have w_12 : r_12.toInt = (cnt f y_10 (0 : Int32).toNatClampNeg (i.toInt - 0).toNat : Int) := w_12
                      refine lv_if_le (tgt := 100) hx hb dX5_windows_94 (by decide) (fun c_13 => ?_) (fun c_13 => ?_)
                      · have i_13 : r_12.toInt ≤ 0 := kc_le c_13
                        refine lv_aload_n hx hb dX5_windows_100 rfl (lv_at hl 3 rfl) ?_
                        refine lv_aload_n hx hb dX5_windows_101 rfl (lv_at hl 3 rfl) ?_
                        refine va_get (D := (dC, dI)) (ci := 5) (v := .ref g_row) (C := RX5) (T := TX5) (N := 30) hx hb hts hi_5 hown hK hP 0 rfl rfl 0 (by decide) hf_7 (fun _ h9 => h9) rfl dX5_windows_102 ?_
                        refine lv_iload hx hb dX5_windows_105 (lv_at hl 0 rfl) ?_
                        refine va_iald hx hb hK hP 1 0 rfl rfl (ki_in (om_10 LP1_h0) (om_1 a1 i_8)) dX5_windows_107 ?_
                        refine lv_topi (fun y_14 ey_14 => ?_)
                        have j_14 : y_14.toInt = (f i.toNatClampNeg).toInt := congrArg Int32.toInt ey_14
                        refine lv_iload_n hx hb dX5_windows_108 rfl (lv_at hl 4 rfl) ?_
                        refine lv_iload_n hx hb dX5_windows_109 rfl (lv_at hl 5 rfl) ?_
                        refine lv_iload_n hx hb dX5_windows_110 rfl (lv_at hl 6 rfl) ?_
                        have hPc := hP
                        have hKc := hK
                        refine vp_callSi (W.runV (As := [.int y_14, .int p0, .int p1, .int p2]) (rest := []) ⟨hx, hb, hml, hown, hts⟩ (c_X5_windowsOf l dC dI h0 g_row g_many g_loss g_less g_voteValue g_voteNumber g_allValue g_allNumber g_nodeL g_nodeR g_part g_wasMany g_wasLoss g_wasValue g_wasNumber g_path g_heavyValue g_heavyTimes g_fewest g_which g_met m_n m_slots 0 m_allMany m_nodes m_partMany m_pathMany m_heavyMany m_mostMet cyI f y_14 p0 p1 p2 a0 a1 (om_151 w_1.1) (om_9 w_1.2)) (cwV 4 hts gX5_windows_X5_windowsOf rfl rfl rfl (by decide +kernel) ⟨Nat.le_of_ble_eq_true rfl, Nat.le_of_ble_eq_true rfl⟩) ⟨fun a U g mk q => by obtain ⟨q0, qP, qK⟩ := q; exact ⟨q0, qP, va_K.moved (u := U) (U := U.calling g mk a) (Vm.Alike.refl U.vm) qK⟩, kx_rc5 hKc hPc (q0 := 0) rfl, fun U hU hW => ⟨rfl, by rw [hU]; exact hPc, va_K.moved hW.alike hKc⟩⟩ rfl rfl hl.1 rfl (lv_room (Nat.le_of_ble_eq_true rfl)) dX5_windows_111 ⟨Nat.le_of_ble_eq_true rfl, Nat.le_of_ble_eq_true rfl⟩) (fun r_15 w_15 => ?_)
                        refine lv_istore (lv' := [(8, .int r_15), (7, .int i), (6, .int most), (5, .int best), (0, .ref h0), (1, .int p0), (2, .int p1), (3, .int p2), (4, .int p3)]) hx hb dX5_windows_114 hl (by decide) rfl (fun ls hl => ?_)
                        refine lv_iload hx hb dX5_windows_116 (lv_at hl 0 rfl) ?_
                        refine lv_iload hx hb dX5_windows_118 (lv_at hl 2 rfl) ?_
                        refine lv_icmp_lt (tgt := 163) hx hb dX5_windows_120 (by decide) (fun c_16 => ?_) (fun c_16 => ?_)
                        · have i_16 : r_15.toInt < most.toInt := kc_lt c_16
                          obtain ⟨x_17, ex_17⟩ : ∃ y : Int32, y = i + 1 := ⟨_, rfl⟩
                          have i_17 : x_17.toInt = i.toInt + 1 := ki_add ex_17 rfl rfl (om_13 LP1_h0) (om_3 a1 i_8)
                          refine lv_iinc (v := x_17) (lv' := [(7, .int x_17), (8, .int r_15), (6, .int most), (5, .int best), (0, .ref h0), (1, .int p0), (2, .int p1), (3, .int p2), (4, .int p3)]) hx hb dX5_windows_163 hl (k := 1) rfl (by rw [ex_17]; rfl) (by decide) rfl (fun ls hl => ?_)
                          refine lv_goto (tgt := 71) hx hb dX5_windows_166 (by decide) ?_
                          exact ih1 x_17 best most (om_34 LP1_h0 i_17) (om_mu hn1 (om_5 i_17) (om_6 i_8)) _ _ hP hD hS ls (lv_sub hl [0, 2, 3, 4, 5, 6, 7, 8] rfl)
                        · have i_16 : most.toInt ≤ r_15.toInt := kc_nlt c_16
                          refine lv_iload hx hb dX5_windows_123 (lv_at hl 0 rfl) ?_
                          refine lv_if_eq (tgt := 163) hx hb dX5_windows_125 (by decide) (fun c_18 => ?_) (fun c_18 => ?_)
                          · have i_18 : r_15.toInt = 0 := kc_eq c_18
                            obtain ⟨x_19, ex_19⟩ : ∃ y : Int32, y = i + 1 := ⟨_, rfl⟩
                            have i_19 : x_19.toInt = i.toInt + 1 := ki_add ex_19 rfl rfl (om_13 LP1_h0) (om_3 a1 i_8)
                            refine lv_iinc (v := x_19) (lv' := [(7, .int x_19), (8, .int r_15), (6, .int most), (5, .int best), (0, .ref h0), (1, .int p0), (2, .int p1), (3, .int p2), (4, .int p3)]) hx hb dX5_windows_163 hl (k := 1) rfl (by rw [ex_19]; rfl) (by decide) rfl (fun ls hl => ?_)
                            refine lv_goto (tgt := 71) hx hb dX5_windows_166 (by decide) ?_
                            exact ih1 x_19 best most (om_34 LP1_h0 i_19) (om_mu hn1 (om_5 i_19) (om_6 i_8)) _ _ hP hD hS ls (lv_sub hl [0, 2, 3, 4, 5, 6, 7, 8] rfl)
                          · have i_18 : ¬ r_15.toInt = 0 := kc_ne c_18
                            refine lv_iload hx hb dX5_windows_128 (lv_at hl 0 rfl) ?_
                            refine lv_iload hx hb dX5_windows_130 (lv_at hl 2 rfl) ?_
                            refine lv_icmp_ne (tgt := 150) hx hb dX5_windows_132 (by decide) (fun c_20 => ?_) (fun c_20 => ?_)
                            · have i_20 : ¬ r_15.toInt = most.toInt := kc_ne c_20
                              refine lv_aload_n hx hb dX5_windows_150 rfl (lv_at hl 4 rfl) ?_
                              refine va_get (D := (dC, dI)) (ci := 5) (v := .ref g_row) (C := RX5) (T := TX5) (N := 30) hx hb hts hi_5 hown hK hP 0 rfl rfl 0 (by decide) hf_7 (fun _ h9 => h9) rfl dX5_windows_151 ?_
                              refine lv_iload hx hb dX5_windows_154 (lv_at hl 1 rfl) ?_
                              refine va_iald hx hb hK hP 1 0 rfl rfl (ki_in (om_10 LP1_h0) (om_1 a1 i_8)) dX5_windows_156 ?_
                              refine lv_topi (fun y_21 ey_21 => ?_)
                              have j_21 : y_21.toInt = (f i.toNatClampNeg).toInt := congrArg Int32.toInt ey_21
                              refine lv_istore (lv' := [(5, .int y_21), (8, .int r_15), (7, .int i), (6, .int most), (0, .ref h0), (1, .int p0), (2, .int p1), (3, .int p2), (4, .int p3)]) hx hb dX5_windows_157 hl (by decide) rfl (fun ls hl => ?_)
                              refine lv_iload hx hb dX5_windows_159 (lv_at hl 1 rfl) ?_
                              refine lv_istore (lv' := [(6, .int r_15), (5, .int y_21), (8, .int r_15), (7, .int i), (0, .ref h0), (1, .int p0), (2, .int p1), (3, .int p2), (4, .int p3)]) hx hb dX5_windows_161 hl (by decide) rfl (fun ls hl => ?_)
                              obtain ⟨x_22, ex_22⟩ : ∃ y : Int32, y = i + 1 := ⟨_, rfl⟩
                              have i_22 : x_22.toInt = i.toInt + 1 := ki_add ex_22 rfl rfl (om_13 LP1_h0) (om_3 a1 i_8)
                              refine lv_iinc (v := x_22) (lv' := [(7, .int x_22), (6, .int r_15), (5, .int y_21), (8, .int r_15), (0, .ref h0), (1, .int p0), (2, .int p1), (3, .int p2), (4, .int p3)]) hx hb dX5_windows_163 hl (k := 3) rfl (by rw [ex_22]; rfl) (by decide) rfl (fun ls hl => ?_)
                              refine lv_goto (tgt := 71) hx hb dX5_windows_166 (by decide) ?_
                              exact ih1 x_22 y_21 r_15 (om_34 LP1_h0 i_22) (om_mu hn1 (om_5 i_22) (om_6 i_8)) _ _ hP hD hS ls (lv_sub hl [0, 1, 2, 4, 5, 6, 7, 8] rfl)
                            · have i_20 : r_15.toInt = most.toInt := kc_eq c_20
                              refine lv_aload_n hx hb dX5_windows_135 rfl (lv_at hl 4 rfl) ?_
                              refine va_get (D := (dC, dI)) (ci := 5) (v := .ref g_row) (C := RX5) (T := TX5) (N := 30) hx hb hts hi_5 hown hK hP 0 rfl rfl 0 (by decide) hf_7 (fun _ h9 => h9) rfl dX5_windows_136 ?_
                              refine lv_iload hx hb dX5_windows_139 (lv_at hl 1 rfl) ?_
                              refine va_iald hx hb hK hP 1 0 rfl rfl (ki_in (om_10 LP1_h0) (om_1 a1 i_8)) dX5_windows_141 ?_
                              refine lv_topi (fun y_23 ey_23 => ?_)
                              have j_23 : y_23.toInt = (f i.toNatClampNeg).toInt := congrArg Int32.toInt ey_23
                              refine lv_iload hx hb dX5_windows_142 (lv_at hl 3 rfl) ?_
                              refine lv_icmp_le (tgt := 150) hx hb dX5_windows_144 (by decide) (fun c_24 => ?_) (fun c_24 => ?_)
                              · have i_24 : y_23.toInt ≤ best.toInt := kc_le c_24
                                refine lv_aload_n hx hb dX5_windows_150 rfl (lv_at hl 4 rfl) ?_
                                refine va_get (D := (dC, dI)) (ci := 5) (v := .ref g_row) (C := RX5) (T := TX5) (N := 30) hx hb hts hi_5 hown hK hP 0 rfl rfl 0 (by decide) hf_7 (fun _ h9 => h9) rfl dX5_windows_151 ?_
                                refine lv_iload hx hb dX5_windows_154 (lv_at hl 1 rfl) ?_
                                refine va_iald hx hb hK hP 1 0 rfl rfl (ki_in (om_10 LP1_h0) (om_1 a1 i_8)) dX5_windows_156 ?_
                                refine lv_topi (fun y_25 ey_25 => ?_)
                                have j_25 : y_25.toInt = (f i.toNatClampNeg).toInt := congrArg Int32.toInt ey_25
                                refine lv_istore (lv' := [(5, .int y_25), (8, .int r_15), (7, .int i), (6, .int most), (0, .ref h0), (1, .int p0), (2, .int p1), (3, .int p2), (4, .int p3)]) hx hb dX5_windows_157 hl (by decide) rfl (fun ls hl => ?_)
                                refine lv_iload hx hb dX5_windows_159 (lv_at hl 1 rfl) ?_
                                refine lv_istore (lv' := [(6, .int r_15), (5, .int y_25), (8, .int r_15), (7, .int i), (0, .ref h0), (1, .int p0), (2, .int p1), (3, .int p2), (4, .int p3)]) hx hb dX5_windows_161 hl (by decide) rfl (fun ls hl => ?_)
                                obtain ⟨x_26, ex_26⟩ : ∃ y : Int32, y = i + 1 := ⟨_, rfl⟩
                                have i_26 : x_26.toInt = i.toInt + 1 := ki_add ex_26 rfl rfl (om_13 LP1_h0) (om_3 a1 i_8)
                                refine lv_iinc (v := x_26) (lv' := [(7, .int x_26), (6, .int r_15), (5, .int y_25), (8, .int r_15), (0, .ref h0), (1, .int p0), (2, .int p1), (3, .int p2), (4, .int p3)]) hx hb dX5_windows_163 hl (k := 3) rfl (by rw [ex_26]; rfl) (by decide) rfl (fun ls hl => ?_)
                                refine lv_goto (tgt := 71) hx hb dX5_windows_166 (by decide) ?_
                                exact ih1 x_26 y_25 r_15 (om_34 LP1_h0 i_26) (om_mu hn1 (om_5 i_26) (om_6 i_8)) _ _ hP hD hS ls (lv_sub hl [0, 1, 2, 4, 5, 6, 7, 8] rfl)
                              · have i_24 : best.toInt < y_23.toInt := kc_nle c_24
                                refine lv_goto (tgt := 163) hx hb dX5_windows_147 (by decide) ?_
                                obtain ⟨x_27, ex_27⟩ : ∃ y : Int32, y = i + 1 := ⟨_, rfl⟩
                                have i_27 : x_27.toInt = i.toInt + 1 := ki_add ex_27 rfl rfl (om_13 LP1_h0) (om_3 a1 i_8)
                                refine lv_iinc (v := x_27) (lv' := [(7, .int x_27), (8, .int r_15), (6, .int most), (5, .int best), (0, .ref h0), (1, .int p0), (2, .int p1), (3, .int p2), (4, .int p3)]) hx hb dX5_windows_163 hl (k := 1) rfl (by rw [ex_27]; rfl) (by decide) rfl (fun ls hl => ?_)
                                refine lv_goto (tgt := 71) hx hb dX5_windows_166 (by decide) ?_
                                exact ih1 x_27 best most (om_34 LP1_h0 i_27) (om_mu hn1 (om_5 i_27) (om_6 i_8)) _ _ hP hD hS ls (lv_sub hl [0, 2, 3, 4, 5, 6, 7, 8] rfl)
                      · have i_13 : 0 < r_12.toInt := kc_nle c_13
                        refine lv_goto (tgt := 163) hx hb dX5_windows_97 (by decide) ?_
                        obtain ⟨x_28, ex_28⟩ : ∃ y : Int32, y = i + 1 := ⟨_, rfl⟩
                        have i_28 : x_28.toInt = i.toInt + 1 := ki_add ex_28 rfl rfl (om_13 LP1_h0) (om_3 a1 i_8)
                        refine lv_iinc (v := x_28) (lv' := [(7, .int x_28), (6, .int most), (5, .int best), (0, .ref h0), (1, .int p0), (2, .int p1), (3, .int p2), (4, .int p3)]) hx hb dX5_windows_163 hl (k := 0) rfl (by rw [ex_28]; rfl) (by decide) rfl (fun ls hl => ?_)
                        refine lv_goto (tgt := 71) hx hb dX5_windows_166 (by decide) ?_
                        exact ih1 x_28 best most (om_34 LP1_h0 i_28) (om_mu hn1 (om_5 i_28) (om_6 i_8)) _ _ hP hD hS ls (lv_sub hl [0, 1, 2, 3, 4, 5, 6, 7] rfl)
                have k_29 : (0 : Int32).toInt = 0 := rfl
                have k_30 : ((-40000) : Int32).toInt = -40000 := rfl
                have k_31 : (0 : Int32).toInt = 0 := rfl
                exact LP1 ((m_n.toInt - 0 : Int).toNat + 1) 0 (-40000) 0 om_35 (Nat.lt_succ_self _) _ _ hP hD hS ls (lv_sub hl [0, 1, 2, 3, 4, 5, 6, 7] rfl)
              · have i_7 : p3.toInt = 0 := kc_eq c_7
                refine lv_aload_n hx hb dX5_windows_53 rfl (lv_at hl 0 rfl) ?_
                refine lv_iload_n hx hb dX5_windows_54 rfl (lv_at hl 1 rfl) ?_
                refine lv_iload_n hx hb dX5_windows_55 rfl (lv_at hl 2 rfl) ?_
                refine lv_iload_n hx hb dX5_windows_56 rfl (lv_at hl 3 rfl) ?_
                have hPc := hP
                have hKc := hK
                refine vp_callSi (W.runV (As := [.int p0, .int p1, .int p2]) (rest := []) ⟨hx, hb, hml, hown, hts⟩ (c_X5_anyWindows l dC dI h0 g_row g_many g_loss g_less g_voteValue g_voteNumber g_allValue g_allNumber g_nodeL g_nodeR g_part g_wasMany g_wasLoss g_wasValue g_wasNumber g_path g_heavyValue g_heavyTimes g_fewest g_which g_met m_n m_slots 0 m_allMany m_nodes m_partMany m_pathMany m_heavyMany m_mostMet cyI f p0 p1 p2 a0 a1 (om_151 w_1.1) (om_9 w_1.2)) (cwV 3 hts gX5_windows_X5_anyWindows rfl rfl rfl (by decide +kernel) ⟨Nat.le_of_ble_eq_true rfl, Nat.le_of_ble_eq_true rfl⟩) ⟨fun a U g mk q => by obtain ⟨q0, qP, qK⟩ := q; exact ⟨q0, qP, va_K.moved (u := U) (U := U.calling g mk a) (Vm.Alike.refl U.vm) qK⟩, kx_rc5 hKc hPc (q0 := 0) rfl, fun U hU hW => ⟨rfl, by rw [hU]; exact hPc, va_K.moved hW.alike hKc⟩⟩ rfl rfl hl.1 rfl (lv_room (Nat.le_of_ble_eq_true rfl)) dX5_windows_57 ⟨Nat.le_of_ble_eq_true rfl, Nat.le_of_ble_eq_true rfl⟩) (fun r_32 w_32 => ?_)
                have hP9 := hP
                have hD9 := hD
                have hK9 := hK
                exact W.iret (v := r_32) hx hb hr (hlocks := hlocks) (fun t ht hW => ⟨⟨r_32, (), rfl, trivial, by rw [ht]; exact hP9, va_K.moved hW.alike hK9, hD9⟩, hS.F ht⟩) hS.2.2 dX5_windows_60
            · exact absurd c_6 (by decide)
          · have w_5 : (p3.toInt < 0 ∨ 2 < p3.toInt) := w_5
            refine lv_if_ne (tgt := 48) hx hb dX5_windows_32 (by decide) (fun c_33 => ?_) (fun c_33 => ?_)
            · exact absurd c_33 (by decide)
            · refine lv_iload hx hb dX5_windows_35 (lv_at hl 4 rfl) ?_
              refine lv_iconst (v := 1) hx hb dX5_windows_37 (by decide) ?_
              refine lv_icmp_ne (tgt := 46) hx hb dX5_windows_38 (by decide) (fun c_34 => ?_) (fun c_34 => ?_)
              · have i_34 : ¬ p3.toInt = 1 := kc_ne c_34
                refine lv_iconst (v := (-1)) hx hb dX5_windows_46 (by decide) ?_
                have hP9 := hP
                have hD9 := hD
                have hK9 := hK
                exact W.iret (v := (-1)) hx hb hr (hlocks := hlocks) (fun t ht hW => ⟨⟨(-1), (), rfl, trivial, by rw [ht]; exact hP9, va_K.moved hW.alike hK9, hD9⟩, hS.F ht⟩) hS.2.2 dX5_windows_47
              · have i_34 : p3.toInt = 1 := kc_eq c_34
                exfalso; omega
      · have w_3 : (p1.toInt < 1 ∨ p2.toInt < p1.toInt ∨ 999 < p2.toInt) := w_3
        refine lv_if_eq (tgt := 35) hx hb dX5_windows_22 (by decide) (fun c_35 => ?_) (fun c_35 => ?_)
        · refine lv_iload hx hb dX5_windows_35 (lv_at hl 4 rfl) ?_
          refine lv_iconst (v := 1) hx hb dX5_windows_37 (by decide) ?_
          refine lv_icmp_ne (tgt := 46) hx hb dX5_windows_38 (by decide) (fun c_36 => ?_) (fun c_36 => ?_)
          · have i_36 : ¬ p3.toInt = 1 := kc_ne c_36
            refine lv_iconst (v := (-1)) hx hb dX5_windows_46 (by decide) ?_
            have hP9 := hP
            have hD9 := hD
            have hK9 := hK
            exact W.iret (v := (-1)) hx hb hr (hlocks := hlocks) (fun t ht hW => ⟨⟨(-1), (), rfl, trivial, by rw [ht]; exact hP9, va_K.moved hW.alike hK9, hD9⟩, hS.F ht⟩) hS.2.2 dX5_windows_47
          · have i_36 : p3.toInt = 1 := kc_eq c_36
            refine lv_ldc (v := (-40000)) hx hb hown hk_148 dX5_windows_41 ?_
            refine lv_goto (tgt := 47) hx hb dX5_windows_43 (by decide) ?_
            have hP9 := hP
            have hD9 := hD
            have hK9 := hK
            exact W.iret (v := (-40000)) hx hb hr (hlocks := hlocks) (fun t ht hW => ⟨⟨(-40000), (), rfl, trivial, by rw [ht]; exact hP9, va_K.moved hW.alike hK9, hD9⟩, hS.F ht⟩) hS.2.2 dX5_windows_47
        · exact absurd c_35 (by decide)
  · have w_1 : (p0.toInt < 1 ∨ m_n.toInt < p0.toInt) := w_1
    refine lv_if_eq (tgt := 35) hx hb dX5_windows_14 (by decide) (fun c_37 => ?_) (fun c_37 => ?_)
    · refine lv_iload hx hb dX5_windows_35 (lv_at hl 4 rfl) ?_
      refine lv_iconst (v := 1) hx hb dX5_windows_37 (by decide) ?_
      refine lv_icmp_ne (tgt := 46) hx hb dX5_windows_38 (by decide) (fun c_38 => ?_) (fun c_38 => ?_)
      · have i_38 : ¬ p3.toInt = 1 := kc_ne c_38
        refine lv_iconst (v := (-1)) hx hb dX5_windows_46 (by decide) ?_
        have hP9 := hP
        have hD9 := hD
        have hK9 := hK
        exact W.iret (v := (-1)) hx hb hr (hlocks := hlocks) (fun t ht hW => ⟨⟨(-1), (), rfl, trivial, by rw [ht]; exact hP9, va_K.moved hW.alike hK9, hD9⟩, hS.F ht⟩) hS.2.2 dX5_windows_47
      · have i_38 : p3.toInt = 1 := kc_eq c_38
        refine lv_ldc (v := (-40000)) hx hb hown hk_148 dX5_windows_41 ?_
        refine lv_goto (tgt := 47) hx hb dX5_windows_43 (by decide) ?_
        have hP9 := hP
        have hD9 := hD
        have hK9 := hK
        exact W.iret (v := (-40000)) hx hb hr (hlocks := hlocks) (fun t ht hW => ⟨⟨(-40000), (), rfl, trivial, by rw [ht]; exact hP9, va_K.moved hW.alike hK9, hD9⟩, hS.F ht⟩) hS.2.2 dX5_windows_47
    · exact absurd c_37 (by decide)

set_option maxHeartbeats 4000000 in
set_option maxRecDepth 100000 in
theorem c_X5_needs (l : Launch) (dC : Nat → ClassId) (dI : Nat → Nat → Nat) (h0 : Nat) (g_row : Nat) (g_many : Nat) (g_loss : Nat) (g_less : Nat) (g_voteValue : Nat) (g_voteNumber : Nat) (g_allValue : Nat) (g_allNumber : Nat) (g_nodeL : Nat) (g_nodeR : Nat) (g_part : Nat) (g_wasMany : Nat) (g_wasLoss : Nat) (g_wasValue : Nat) (g_wasNumber : Nat) (g_path : Nat) (g_heavyValue : Nat) (g_heavyTimes : Nat) (g_fewest : Nat) (g_which : Nat) (g_met : Nat) (m_n : Int32) (m_slots : Int32) (m_thrown : Int32) (m_allMany : Int32) (m_nodes : Int32) (m_partMany : Int32) (m_pathMany : Int32) (m_heavyMany : Int32) (m_mostMet : Int32) (cyI : ClassId) (f : Nat → Int32) (p0 : Int32) (p1 : Int32) (p2 : Int32) (p3 : Int32) (p4 : Int32) (sz : Nat) (a0 : 0 ≤ m_n.toInt) (a1 : m_n.toInt ≤ 160) : kx_MQ l (dC, dI) yX5_needs wsX5_needs ({ frames := 2, cells := 0, slots := 0, locals := 90 }) [.ref h0, .int p0, .int p1, .int p2, .int p3, .int p4] [kx_5 h0 g_row m_n m_slots m_thrown g_many g_loss g_less g_voteValue g_voteNumber g_allValue g_allNumber m_allMany g_nodeL g_nodeR m_nodes g_part m_partMany g_wasMany g_wasLoss g_wasValue g_wasNumber g_path m_pathMany g_heavyValue g_heavyTimes m_heavyMany g_fewest g_which g_met m_mostMet, kx_a g_row cyI 160 f] [(cyI, .int)] sz (fun A => va_Qi (fun (r : Int32) (_ : Unit) => True) (fun (_ : Unit) (t : State) => va_P (dC, dI) vwCl [kx_5 h0 g_row m_n m_slots 0 g_many g_loss g_less g_voteValue g_voteNumber g_allValue g_allNumber m_allMany g_nodeL g_nodeR m_nodes g_part m_partMany g_wasMany g_wasLoss g_wasValue g_wasNumber g_path m_pathMany g_heavyValue g_heavyTimes m_heavyMany g_fewest g_which g_met m_mostMet, kx_a g_row cyI 160 f] t.heap ∧ va_K (dC, dI) vwCl [(cyI, .int)] t ∧ va_D A [kx_5 h0 g_row m_n m_slots 0 g_many g_loss g_less g_voteValue g_voteNumber g_allValue g_allNumber m_allMany g_nodeL g_nodeR m_nodes g_part m_partMany g_wasMany g_wasLoss g_wasValue g_wasNumber g_path m_pathMany g_heavyValue g_heavyTimes m_heavyMany g_fewest g_which g_met m_mostMet, kx_a g_row cyI 160 f]) A) := by
  refine kx_stQ (ws := wsX5_needs) (cc := cX5_needs) (maxL := 8) (ret := (some .int)) (by decide) rfl (Nat.le_of_ble_eq_true rfl) ?_
  intro p e s m below meth c A ls hx hb hr hlocks hts hown hml hA hS hP hK hD hl
  have hown : s.vm.findClass RX5 = some m.cls := hown
  have hl : lv_has ls 8 [(0, .ref h0), (1, .int p0), (2, .int p1), (3, .int p2), (4, .int p3), (5, .int p4)] := hl
  have hf_77 := hts (.fieldLink RX5 77 "MajorityIndexModel" "thrown" "I") (List.mem_of_getElem? (i := 1) rfl)
  have hi_5 : ∀ w ∈ u_ws RX5 TX5 30, w ∈ wsX5_needs := fun w h => List.mem_cons_of_mem _ (List.mem_append_right _ h)
  refine lv_aload_n hx hb dX5_needs_0 rfl (lv_at hl 0 rfl) ?_
  refine lv_iconst (v := 0) hx hb dX5_needs_1 (by decide) ?_
  refine va_put (D := (dC, dI)) (ci := 5) (v := .int 0) (ty := .int) (C := RX5) (T := TX5) (N := 30) hx hb hts hi_5 tyX5 tyX5_ok nmX5 hown hK hP hD hS 0 rfl rfl 3 (by decide) hf_77 (fun _ h9 => h9) rfl (by decide +kernel) rfl rfl (Nat.le_of_ble_eq_true rfl) dX5_needs_2 (fun H locs hP hD hS => ?_)
  obtain ⟨hP, hD⟩ := kx_re (w2 := [kx_5 h0 g_row m_n m_slots 0 g_many g_loss g_less g_voteValue g_voteNumber g_allValue g_allNumber m_allMany g_nodeL g_nodeR m_nodes g_part m_partMany g_wasMany g_wasLoss g_wasValue g_wasNumber g_path m_pathMany g_heavyValue g_heavyTimes m_heavyMany g_fewest g_which g_met m_mostMet, kx_a g_row cyI 160 f]) hP hD rfl
  refine lv_iload_n hx hb dX5_needs_5 rfl (lv_at hl 1 rfl) ?_
  have hPc := hP.sub (ws' := []) [] rfl
  have hKc := hK.sub (tys' := []) [] rfl
  refine vp_callSi (W.runS (As := [.int p0]) (rest := []) ⟨hx, hb, hml, hown, hts⟩ (c_X5_isValue l dC dI p0) (va_cwS 1 hts gX5_needs_X5_isValue rfl rfl rfl (by decide +kernel) ⟨Nat.le_of_ble_eq_true rfl, Nat.le_of_ble_eq_true rfl⟩) ⟨fun a U g mk q => by obtain ⟨q0, qP, qK⟩ := q; exact ⟨q0, qP, va_K.moved (u := U) (U := U.calling g mk a) (Vm.Alike.refl U.vm) qK⟩, fun U hU hW => ⟨rfl, by rw [hU]; exact hPc, va_K.moved hW.alike hKc⟩⟩ rfl rfl hl.1 rfl (lv_room (Nat.le_of_ble_eq_true rfl)) dX5_needs_6 ⟨Nat.le_of_ble_eq_true rfl, Nat.le_of_ble_eq_true rfl⟩) (fun r_1 w_1 => ?_)
  rcases w_1 with ⟨rfl, w_1⟩ | ⟨rfl, w_1⟩
  · have w_1 : (-32768 ≤ p0.toInt ∧ p0.toInt ≤ 32767) := w_1
    refine lv_if_eq (tgt := 31) hx hb dX5_needs_9 (by decide) (fun c_2 => ?_) (fun c_2 => ?_)
    · exact absurd c_2 (by decide)
    · refine lv_aload_n hx hb dX5_needs_12 rfl (lv_at hl 0 rfl) ?_
      refine lv_iload_n hx hb dX5_needs_13 rfl (lv_at hl 2 rfl) ?_
      refine lv_iload_n hx hb dX5_needs_14 rfl (lv_at hl 3 rfl) ?_
      have hPc := hP.sub (ws' := [kx_5 h0 g_row m_n m_slots 0 g_many g_loss g_less g_voteValue g_voteNumber g_allValue g_allNumber m_allMany g_nodeL g_nodeR m_nodes g_part m_partMany g_wasMany g_wasLoss g_wasValue g_wasNumber g_path m_pathMany g_heavyValue g_heavyTimes m_heavyMany g_fewest g_which g_met m_mostMet]) [0] rfl
      have hKc := hK.sub (tys' := []) [] rfl
      refine vp_callSi (W.runV (As := [.int p1, .int p2]) (rest := []) ⟨hx, hb, hml, hown, hts⟩ (c_X5_isRange l dC dI h0 g_row g_many g_loss g_less g_voteValue g_voteNumber g_allValue g_allNumber g_nodeL g_nodeR g_part g_wasMany g_wasLoss g_wasValue g_wasNumber g_path g_heavyValue g_heavyTimes g_fewest g_which g_met m_n m_slots 0 m_allMany m_nodes m_partMany m_pathMany m_heavyMany m_mostMet p1 p2) (cwV 2 hts gX5_needs_X5_isRange rfl rfl rfl (by decide +kernel) ⟨Nat.le_of_ble_eq_true rfl, Nat.le_of_ble_eq_true rfl⟩) ⟨fun a U g mk q => by obtain ⟨q0, qP, qK⟩ := q; exact ⟨q0, qP, va_K.moved (u := U) (U := U.calling g mk a) (Vm.Alike.refl U.vm) qK⟩, kx_rc5 hKc hPc (q0 := 0) rfl, fun U hU hW => ⟨rfl, by rw [hU]; exact hPc, va_K.moved hW.alike hKc⟩⟩ rfl rfl hl.1 rfl (lv_room (Nat.le_of_ble_eq_true rfl)) dX5_needs_15 ⟨Nat.le_of_ble_eq_true rfl, Nat.le_of_ble_eq_true rfl⟩) (fun r_3 w_3 => ?_)
      rcases w_3 with ⟨rfl, w_3⟩ | ⟨rfl, w_3⟩
      · have w_3 : (0 ≤ p1.toInt ∧ p1.toInt < p2.toInt ∧ p2.toInt ≤ m_n.toInt) := w_3
        refine lv_if_eq (tgt := 31) hx hb dX5_needs_18 (by decide) (fun c_4 => ?_) (fun c_4 => ?_)
        · exact absurd c_4 (by decide)
        · refine lv_iload hx hb dX5_needs_21 (lv_at hl 4 rfl) ?_
          refine lv_iload hx hb dX5_needs_23 (lv_at hl 5 rfl) ?_
          have hPc := hP.sub (ws' := []) [] rfl
          have hKc := hK.sub (tys' := []) [] rfl
          refine vp_callSi (W.runS (As := [.int p3, .int p4]) (rest := []) ⟨hx, hb, hml, hown, hts⟩ (c_X5_isShare l dC dI p3 p4) (va_cwS 2 hts gX5_needs_X5_isShare rfl rfl rfl (by decide +kernel) ⟨Nat.le_of_ble_eq_true rfl, Nat.le_of_ble_eq_true rfl⟩) ⟨fun a U g mk q => by obtain ⟨q0, qP, qK⟩ := q; exact ⟨q0, qP, va_K.moved (u := U) (U := U.calling g mk a) (Vm.Alike.refl U.vm) qK⟩, fun U hU hW => ⟨rfl, by rw [hU]; exact hPc, va_K.moved hW.alike hKc⟩⟩ rfl rfl hl.1 rfl (lv_room (Nat.le_of_ble_eq_true rfl)) dX5_needs_25 ⟨Nat.le_of_ble_eq_true rfl, Nat.le_of_ble_eq_true rfl⟩) (fun r_5 w_5 => ?_)
          rcases w_5 with ⟨rfl, w_5⟩ | ⟨rfl, w_5⟩
          · have w_5 : (1 ≤ p3.toInt ∧ p3.toInt ≤ p4.toInt ∧ p4.toInt ≤ 999) := w_5
            refine lv_if_ne (tgt := 33) hx hb dX5_needs_28 (by decide) (fun c_6 => ?_) (fun c_6 => ?_)
            · refine lv_aload_n hx hb dX5_needs_33 rfl (lv_at hl 0 rfl) ?_
              refine lv_iload_n hx hb dX5_needs_34 rfl (lv_at hl 1 rfl) ?_
              refine lv_iload_n hx hb dX5_needs_35 rfl (lv_at hl 2 rfl) ?_
              refine lv_iload_n hx hb dX5_needs_36 rfl (lv_at hl 3 rfl) ?_
              have hPc := hP
              have hKc := hK
              refine vp_callSi (W.runV (As := [.int p0, .int p1, .int p2]) (rest := []) ⟨hx, hb, hml, hown, hts⟩ (c_X5_times l dC dI h0 g_row g_many g_loss g_less g_voteValue g_voteNumber g_allValue g_allNumber g_nodeL g_nodeR g_part g_wasMany g_wasLoss g_wasValue g_wasNumber g_path g_heavyValue g_heavyTimes g_fewest g_which g_met m_n m_slots 0 m_allMany m_nodes m_partMany m_pathMany m_heavyMany m_mostMet cyI f p0 p1 p2 (om_10 w_3.1) (om_167 a1 w_3.2.2)) (cwV 3 hts gX5_needs_X5_times rfl rfl rfl (by decide +kernel) ⟨Nat.le_of_ble_eq_true rfl, Nat.le_of_ble_eq_true rfl⟩) ⟨fun a U g mk q => by obtain ⟨q0, qP, qK⟩ := q; exact ⟨q0, qP, va_K.moved (u := U) (U := U.calling g mk a) (Vm.Alike.refl U.vm) qK⟩, kx_rc5 hKc hPc (q0 := 0) rfl, fun U hU hW => ⟨rfl, by rw [hU]; exact hPc, va_K.moved hW.alike hKc⟩⟩ rfl rfl hl.1 rfl (lv_room (Nat.le_of_ble_eq_true rfl)) dX5_needs_37 ⟨Nat.le_of_ble_eq_true rfl, Nat.le_of_ble_eq_true rfl⟩) (fun r_7 w_7 => ?_)
              have w_7 : r_7.toInt = (cnt f p0 p1.toNatClampNeg (p2.toInt - p1.toInt).toNat : Int) := w_7
              have hle := cnt_le f p0 p1.toNatClampNeg (p2.toInt - p1.toInt).toNat
              refine lv_istore (lv' := [(6, .int r_7), (0, .ref h0), (1, .int p0), (2, .int p1), (3, .int p2), (4, .int p3), (5, .int p4)]) hx hb dX5_needs_40 hl (by decide) rfl (fun ls hl => ?_)
              refine lv_iconst (v := 0) hx hb dX5_needs_42 (by decide) ?_
              refine lv_istore (lv' := [(7, .int 0), (6, .int r_7), (0, .ref h0), (1, .int p0), (2, .int p1), (3, .int p2), (4, .int p3), (5, .int p4)]) hx hb dX5_needs_43 hl (by decide) rfl (fun ls hl => ?_)
              have LP1 : ∀ (n : Nat) (i : Int32), (0 ≤ i.toInt) → (i.toInt ≤ p2.toInt - p1.toInt + 1) → (p2.toInt - p1.toInt + 1 - i.toInt).toNat < n → ∀ (H : Heap) (locs : List Loc), va_P (dC, dI) vwCl [kx_5 h0 g_row m_n m_slots 0 g_many g_loss g_less g_voteValue g_voteNumber g_allValue g_allNumber m_allMany g_nodeL g_nodeR m_nodes g_part m_partMany g_wasMany g_wasLoss g_wasValue g_wasNumber g_path m_pathMany g_heavyValue g_heavyTimes m_heavyMany g_fewest g_which g_met m_mostMet, kx_a g_row cyI 160 f] H → va_D A [kx_5 h0 g_row m_n m_slots 0 g_many g_loss g_less g_voteValue g_voteNumber g_allValue g_allNumber m_allMany g_nodeL g_nodeR m_nodes g_part m_partMany g_wasMany g_wasLoss g_wasValue g_wasNumber g_path m_pathMany g_heavyValue g_heavyTimes m_heavyMany g_fewest g_which g_met m_mostMet, kx_a g_row cyI 160 f] → va_S A s.heap H locs → ∀ (ls : Array Slot), lv_has ls 8 [(7, .int i), (6, .int r_7), (0, .ref h0), (1, .int p0), (2, .int p1), (3, .int p2), (4, .int p3), (5, .int p4)] → W p l e (headSpec wsX5_needs ({ frames := 2, cells := 0, slots := 0, locals := 90 })).room s m ([.ref h0, .int p0, .int p1, .int p2, .int p3, .int p4] : List Value).toArray below meth c H locs 0 0 (MQ below (va_Qi (fun (r : Int32) (_ : Unit) => True) (fun (_ : Unit) (t : State) => va_P (dC, dI) vwCl [kx_5 h0 g_row m_n m_slots 0 g_many g_loss g_less g_voteValue g_voteNumber g_allValue g_allNumber m_allMany g_nodeL g_nodeR m_nodes g_part m_partMany g_wasMany g_wasLoss g_wasValue g_wasNumber g_path m_pathMany g_heavyValue g_heavyTimes m_heavyMany g_fewest g_which g_met m_mostMet, kx_a g_row cyI 160 f] t.heap ∧ va_K (dC, dI) vwCl [(cyI, .int)] t ∧ va_D A [kx_5 h0 g_row m_n m_slots 0 g_many g_loss g_less g_voteValue g_voteNumber g_allValue g_allNumber m_allMany g_nodeL g_nodeR m_nodes g_part m_partMany g_wasMany g_wasLoss g_wasValue g_wasNumber g_path m_pathMany g_heavyValue g_heavyTimes m_heavyMany g_fewest g_which g_met m_mostMet, kx_a g_row cyI 160 f]) A) ([.ref h0, .int p0, .int p1, .int p2, .int p3, .int p4] : List Value).toArray s 0 0 A) (F0 m 45 ls []) := by
                intro n
                induction n with
                | zero => intro i LP1_h0 LP1_h1 hn; exact absurd hn (Nat.not_lt_zero _)
                | succ n ih1 =>
                  intro i LP1_h0 LP1_h1 hn1 H locs hP hD hS ls hl
                  refine lv_iload hx hb dX5_needs_45 (lv_at hl 1 rfl) ?_
                  refine lv_iload hx hb dX5_needs_47 (lv_at hl 0 rfl) ?_
                  refine lv_iadd hx hb dX5_needs_49 ?_
                  refine lv_topi (fun y_8 ey_8 => ?_)
                  have i_8 : y_8.toInt = r_7.toInt + i.toInt := ki_add ey_8 rfl rfl (by omega) (by omega)
                  refine lv_iload_n hx hb dX5_needs_50 rfl (lv_at hl 5 rfl) ?_
                  refine lv_iload_n hx hb dX5_needs_51 rfl (lv_at hl 4 rfl) ?_
                  refine lv_isub hx hb dX5_needs_52 ?_
                  refine lv_topi (fun y_9 ey_9 => ?_)
                  have i_9 : y_9.toInt = p2.toInt - p1.toInt := ki_sub ey_9 rfl rfl (om_168 w_3.2.1) (om_169 a1 w_3.1 w_3.2.2)
                  refine lv_icmp_gt (tgt := 82) hx hb dX5_needs_53 (by decide) (fun c_10 => ?_) (fun c_10 => ?_)
                  · have i_10 : y_9.toInt < y_8.toInt := kc_lt c_10
                    refine lv_bipush (v := (-2)) hx hb dX5_needs_82 (by decide) ?_
                    have hP9 := hP
                    have hD9 := hD
                    have hK9 := hK
                    exact W.iret (v := (-2)) hx hb hr (hlocks := hlocks) (fun t ht hW => ⟨⟨(-2), (), rfl, trivial, by rw [ht]; exact hP9, va_K.moved hW.alike hK9, hD9⟩, hS.F ht⟩) hS.2.2 dX5_needs_84
                  · have i_10 : y_8.toInt ≤ y_9.toInt := kc_nlt c_10
                    refine lv_iload hx hb dX5_needs_56 (lv_at hl 1 rfl) ?_
                    refine lv_iload hx hb dX5_needs_58 (lv_at hl 0 rfl) ?_
                    refine lv_iadd hx hb dX5_needs_60 ?_
                    refine lv_topi (fun y_11 ey_11 => ?_)
                    have i_11 : y_11.toInt = r_7.toInt + i.toInt := ki_add ey_11 rfl rfl (by omega) (om_289 a1 w_3.1 w_3.2.2 i_8 i_9 i_10)
                    refine lv_iload hx hb dX5_needs_61 (lv_at hl 7 rfl) ?_
                    refine lv_imul hx hb dX5_needs_63 ?_
                    refine lv_topi (fun y_12 ey_12 => ?_)
                    refine lv_iload hx hb dX5_needs_64 (lv_at hl 6 rfl) ?_
                    refine lv_iload_n hx hb dX5_needs_66 rfl (lv_at hl 5 rfl) ?_
                    refine lv_iload_n hx hb dX5_needs_67 rfl (lv_at hl 4 rfl) ?_
                    refine lv_isub hx hb dX5_needs_68 ?_
                    refine lv_topi (fun y_13 ey_13 => ?_)
                    have i_13 : y_13.toInt = p2.toInt - p1.toInt := ki_sub ey_13 rfl rfl (om_168 w_3.2.1) (om_169 a1 w_3.1 w_3.2.2)
                    refine lv_imul hx hb dX5_needs_69 ?_
                    refine lv_topi (fun y_14 ey_14 => ?_)
                    refine lv_icmp_le (tgt := 76) hx hb dX5_needs_70 (by decide) (fun c_15 => ?_) (fun c_15 => ?_)
                    · have i_15 : y_12.toInt ≤ y_14.toInt := kc_le c_15
                      obtain ⟨x_16, ex_16⟩ : ∃ y : Int32, y = i + 1 := ⟨_, rfl⟩
                      have i_16 : x_16.toInt = i.toInt + 1 := ki_add ex_16 rfl rfl (om_13 LP1_h0) (om_290 a1 w_3.1 w_3.2.2 LP1_h1)
                      refine lv_iinc (v := x_16) (lv' := [(7, .int x_16), (6, .int r_7), (0, .ref h0), (1, .int p0), (2, .int p1), (3, .int p2), (4, .int p3), (5, .int p4)]) hx hb dX5_needs_76 hl (k := 0) rfl (by rw [ex_16]; rfl) (by decide) rfl (fun ls hl => ?_)
                      refine lv_goto (tgt := 45) hx hb dX5_needs_79 (by decide) ?_
                      exact ih1 x_16 (om_34 LP1_h0 i_16) (by omega) (by omega) _ _ hP hD hS ls (lv_sub hl [0, 1, 2, 3, 4, 5, 6, 7] rfl)
                    · have i_15 : y_14.toInt < y_12.toInt := kc_nle c_15
                      refine lv_iload hx hb dX5_needs_73 (lv_at hl 0 rfl) ?_
                      have hP9 := hP
                      have hD9 := hD
                      have hK9 := hK
                      exact W.iret (v := i) hx hb hr (hlocks := hlocks) (fun t ht hW => ⟨⟨i, (), rfl, trivial, by rw [ht]; exact hP9, va_K.moved hW.alike hK9, hD9⟩, hS.F ht⟩) hS.2.2 dX5_needs_75
              have k_17 : (0 : Int32).toInt = 0 := rfl
              exact LP1 ((p2.toInt - p1.toInt + 1 - 0 : Int).toNat + 1) 0 om_35 (om_292 w_3.2.1) (Nat.lt_succ_self _) _ _ hP hD hS ls (lv_sub hl [0, 1, 2, 3, 4, 5, 6, 7] rfl)
            · exact absurd c_6 (by decide)
          · have w_5 : (p3.toInt < 1 ∨ p4.toInt < p3.toInt ∨ 999 < p4.toInt) := w_5
            refine lv_if_ne (tgt := 33) hx hb dX5_needs_28 (by decide) (fun c_18 => ?_) (fun c_18 => ?_)
            · exact absurd c_18 (by decide)
            · refine lv_iconst (v := (-1)) hx hb dX5_needs_31 (by decide) ?_
              have hP9 := hP
              have hD9 := hD
              have hK9 := hK
              exact W.iret (v := (-1)) hx hb hr (hlocks := hlocks) (fun t ht hW => ⟨⟨(-1), (), rfl, trivial, by rw [ht]; exact hP9, va_K.moved hW.alike hK9, hD9⟩, hS.F ht⟩) hS.2.2 dX5_needs_32
      · have w_3 : (p1.toInt < 0 ∨ p2.toInt ≤ p1.toInt ∨ m_n.toInt < p2.toInt) := w_3
        refine lv_if_eq (tgt := 31) hx hb dX5_needs_18 (by decide) (fun c_19 => ?_) (fun c_19 => ?_)
        · refine lv_iconst (v := (-1)) hx hb dX5_needs_31 (by decide) ?_
          have hP9 := hP
          have hD9 := hD
          have hK9 := hK
          exact W.iret (v := (-1)) hx hb hr (hlocks := hlocks) (fun t ht hW => ⟨⟨(-1), (), rfl, trivial, by rw [ht]; exact hP9, va_K.moved hW.alike hK9, hD9⟩, hS.F ht⟩) hS.2.2 dX5_needs_32
        · exact absurd c_19 (by decide)
  · have w_1 : (p0.toInt < -32768 ∨ 32767 < p0.toInt) := w_1
    refine lv_if_eq (tgt := 31) hx hb dX5_needs_9 (by decide) (fun c_20 => ?_) (fun c_20 => ?_)
    · refine lv_iconst (v := (-1)) hx hb dX5_needs_31 (by decide) ?_
      have hP9 := hP
      have hD9 := hD
      have hK9 := hK
      exact W.iret (v := (-1)) hx hb hr (hlocks := hlocks) (fun t ht hW => ⟨⟨(-1), (), rfl, trivial, by rw [ht]; exact hP9, va_K.moved hW.alike hK9, hD9⟩, hS.F ht⟩) hS.2.2 dX5_needs_32
    · exact absurd c_20 (by decide)



theorem upd_at (f : Nat → Int32) (k : Nat) (x : Int32) : upd f k x k = x := by
  unfold upd; rw [if_pos rfl]
theorem upd_ne {f : Nat → Int32} {k j : Nat} {x : Int32} (h : ¬ j = k) : upd f k x j = f j := by
  unfold upd; rw [if_neg h]
def mj_lea (V N : Nat → Int32) (i j : Nat) : Prop := (N j).toInt < (N i).toInt ∨ ((N i).toInt = (N j).toInt ∧ (V i).toInt ≤ (V j).toInt)
def mj_vs (V N : Nat → Int32) (o m : Nat) (μ : Int32 → Int) : Prop :=
  (∀ j : Nat, j < m → (N (o + j)).toInt = μ (V (o + j)) ∧ 0 < μ (V (o + j))) ∧
  (∀ i j : Nat, i < m → j < m → V (o + i) = V (o + j) → i = j) ∧
  (∀ v : Int32, ¬ μ v = 0 → ∃ j : Nat, j < m ∧ V (o + j) = v)
def mj_srt (V N : Nat → Int32) (o m : Nat) : Prop := ∀ i j : Nat, i < j → j < m → mj_lea V N (o + i) (o + j)
def mj_addR (V N : Nat → Int32) (m : Nat) (v n : Int32) (V2 N2 : Nat → Int32) (m2 : Nat) : Prop :=
  (∃ k : Nat, k < m ∧ V k = v ∧ V2 = V ∧ N2 = upd N k (N k + n) ∧ m2 = m) ∨
  ((∀ k : Nat, k < m → ¬ V k = v) ∧ V2 = upd V m v ∧ N2 = upd N m n ∧ m2 = m + 1)
theorem mj_vs_congr {V N : Nat → Int32} {o m : Nat} {μ μ2 : Int32 → Int} (h : mj_vs V N o m μ) (e : ∀ v, μ v = μ2 v) : mj_vs V N o m μ2 := by
  have : μ = μ2 := funext e
  subst this
  exact h
theorem mj_vs_zero (V N : Nat → Int32) (o : Nat) : mj_vs V N o 0 (fun _ => 0) :=
  ⟨fun j h => absurd h (Nat.not_lt_zero j), fun i j h => absurd h (Nat.not_lt_zero i), fun v h => absurd rfl h⟩
theorem mj_vs_nn {V N : Nat → Int32} {o m : Nat} {μ : Int32 → Int} (h : mj_vs V N o m μ) (v : Int32) : 0 ≤ μ v := by
  by_cases h0 : μ v = 0
  · omega
  · obtain ⟨j, hj, rfl⟩ := h.2.2 v h0
    have := (h.1 j hj).2
    omega
theorem mj_vs_add {V N V2 N2 : Nat → Int32} {m m2 : Nat} {μ : Int32 → Int} {v n : Int32} (h : mj_vs V N 0 m μ) (hn : 0 < n.toInt) (hb : μ v + n.toInt ≤ 2147483647) (ha : mj_addR V N m v n V2 N2 m2) : mj_vs V2 N2 0 m2 (fun w => μ w + (if w = v then n.toInt else 0)) := by
  obtain ⟨h1, h2, h3⟩ := h
  simp only [Nat.zero_add] at h1 h2 h3
  rcases ha with ⟨k, hk, hv, e1, e2, e3⟩ | ⟨hno, e1, e2, e3⟩
  · subst e1; subst e2; subst e3
    have hk1 := h1 k hk
    rw [hv] at hk1
    have hs : (N k + n).toInt = (N k).toInt + n.toInt := ki_add rfl rfl rfl (by omega) (by omega)
    refine ⟨?_, ?_, ?_⟩
    · intro j hj
      simp only [Nat.zero_add]
      by_cases hjk : j = k
      · subst hjk
        rw [upd_at, hs, if_pos hv, hv]
        omega
      · have hne : ¬ V2 j = v := fun e => hjk (h2 j k hj hk (e.trans hv.symm))
        rw [upd_ne hjk, if_neg hne]
        have := h1 j hj
        omega
    · intro i j hi hj e
      simp only [Nat.zero_add] at e
      exact h2 i j hi hj e
    · intro w hw
      simp only [Nat.zero_add]
      by_cases hwv : w = v
      · exact ⟨k, hk, hv.trans hwv.symm⟩
      · exact h3 w (fun e => hw (by simp only [if_neg hwv]; omega))
  · subst e1; subst e2; subst e3
    have hz : μ v = 0 := by
      by_cases h0 : μ v = 0
      · exact h0
      · obtain ⟨j, hj, e⟩ := h3 v h0
        exact absurd e (hno j hj)
    refine ⟨?_, ?_, ?_⟩
    · intro j hj
      simp only [Nat.zero_add]
      by_cases hjm : j = m
      · subst hjm
        rw [upd_at, upd_at, if_pos rfl]
        omega
      · have hj2 : j < m := by omega
        rw [upd_ne hjm, upd_ne hjm, if_neg (hno j hj2)]
        have := h1 j hj2
        omega
    · intro i j hi hj e
      simp only [Nat.zero_add] at e
      by_cases him : i = m
      · by_cases hjm : j = m
        · omega
        · subst him
          rw [upd_at, upd_ne hjm] at e
          exact absurd e.symm (hno j (by omega))
      · by_cases hjm : j = m
        · subst hjm
          rw [upd_at, upd_ne him] at e
          exact absurd e (hno i (by omega))
        · rw [upd_ne him, upd_ne hjm] at e
          exact h2 i j (by omega) (by omega) e
    · intro w hw
      simp only [Nat.zero_add]
      by_cases hwv : w = v
      · exact ⟨m, by omega, by rw [upd_at]; exact hwv.symm⟩
      · obtain ⟨j, hj, e⟩ := h3 w (fun e => hw (by simp only [if_neg hwv]; omega))
        exact ⟨j, by omega, by rw [upd_ne (by omega)]; exact e⟩
def mj_pm (V N : Nat → Int32) (o : Nat) : Nat → Int32 → Int
  | 0, _ => 0
  | i + 1, v => mj_pm V N o i v + (if v = V (o + i) then (N (o + i)).toInt else 0)
theorem mj_pm_eq {V N : Nat → Int32} {o m : Nat} {μ : Int32 → Int} (h : mj_vs V N o m μ) (v : Int32) : ∀ i : Nat, i ≤ m → ((∃ j : Nat, j < i ∧ V (o + j) = v) → mj_pm V N o i v = μ v) ∧ ((¬ ∃ j : Nat, j < i ∧ V (o + j) = v) → mj_pm V N o i v = 0)
  | 0, _ => ⟨fun ⟨j, hj, _⟩ => absurd hj (Nat.not_lt_zero j), fun _ => rfl⟩
  | i + 1, hi => by
    have ih := mj_pm_eq h v i (by omega)
    by_cases hv : v = V (o + i)
    · have hno : ¬ ∃ j : Nat, j < i ∧ V (o + j) = v := fun ⟨j, hj, e⟩ => by
        have := h.2.1 j i (by omega) (by omega) (e.trans hv)
        omega
      have h0 := ih.2 hno
      refine ⟨fun _ => ?_, fun hn => absurd ⟨i, Nat.lt_succ_self i, hv.symm⟩ hn⟩
      simp only [mj_pm]
      rw [h0, if_pos hv, (h.1 i (by omega)).1, hv]
      omega
    · refine ⟨fun ⟨j, hj, e⟩ => ?_, fun hn => ?_⟩
      · have hji : j < i := by
          rcases Nat.lt_or_eq_of_le (Nat.le_of_lt_succ hj) with h9 | h9
          · exact h9
          · subst h9
            exact absurd e.symm hv
        simp only [mj_pm]
        rw [ih.1 ⟨j, hji, e⟩, if_neg hv]
        omega
      · simp only [mj_pm]
        rw [ih.2 (fun ⟨j, hj, e⟩ => hn ⟨j, by omega, e⟩), if_neg hv]
        omega
theorem mj_pm_new {V N : Nat → Int32} {o m i : Nat} {μ : Int32 → Int} (h : mj_vs V N o m μ) (hi : i < m) : mj_pm V N o i (V (o + i)) = 0 :=
  (mj_pm_eq h _ i (by omega)).2 (fun ⟨j, hj, e⟩ => by have := h.2.1 j i (by omega) hi e; omega)
theorem mj_pm_full {V N : Nat → Int32} {o m : Nat} {μ : Int32 → Int} (h : mj_vs V N o m μ) (v : Int32) : mj_pm V N o m v = μ v := by
  have hq := mj_pm_eq h v m (Nat.le_refl m)
  by_cases h0 : ∃ j : Nat, j < m ∧ V (o + j) = v
  · exact hq.1 h0
  · rw [hq.2 h0]
    by_cases h1 : μ v = 0
    · exact h1.symm
    · exact absurd (h.2.2 v h1) h0
theorem mj_step {V N gv gn gv2 gn2 : Nat → Int32} {o m i q q2 am am2 : Nat} {μ ν : Int32 → Int} {v n : Int32} (h : mj_vs V N o m μ) (hi : i < m) (hq : q = o + i) (hq2 : q2 = o + i) (ev : v = V q) (en : n = N q2) (hb : ν (V (o + i)) + μ (V (o + i)) ≤ 2147483647) (hg : mj_vs gv gn 0 am (fun w => ν w + mj_pm V N o i w)) (ha : mj_addR gv gn am v n gv2 gn2 am2) : mj_vs gv2 gn2 0 am2 (fun w => ν w + mj_pm V N o (i + 1) w) := by
  subst hq; subst hq2; subst ev; subst en
  have h1 := h.1 i hi
  have h0 := mj_pm_new h hi
  refine mj_vs_congr (mj_vs_add hg (by omega) (by simp only [h0]; omega) ha) (fun w => ?_)
  simp only [mj_pm]
  omega
theorem mj_lea_trans {V N : Nat → Int32} {i j k : Nat} (h : mj_lea V N i j) (h2 : mj_lea V N j k) : mj_lea V N i k := by
  unfold mj_lea at *
  omega
def mj_ex (f : Nat → Int32) (i k : Nat) : Nat → Int32 := upd (upd f i (f k)) k (f i)
theorem mj_ex_i {f : Nat → Int32} {i k : Nat} : mj_ex f i k i = f k := by
  unfold mj_ex
  by_cases h : i = k
  · subst h; rw [upd_at]
  · rw [upd_ne h, upd_at]
theorem mj_ex_k {f : Nat → Int32} {i k : Nat} : mj_ex f i k k = f i := by
  unfold mj_ex
  rw [upd_at]
theorem mj_ex_o {f : Nat → Int32} {i k j : Nat} (h1 : ¬ j = i) (h2 : ¬ j = k) : mj_ex f i k j = f j := by
  unfold mj_ex
  rw [upd_ne h2, upd_ne h1]
/-- where an exchange takes a place from -/
def mj_sw (i k j : Nat) : Nat := if j = i then k else if j = k then i else j
theorem mj_ex_sw (f : Nat → Int32) (i k j : Nat) : mj_ex f i k j = f (mj_sw i k j) := by
  unfold mj_sw
  by_cases h1 : j = i
  · subst h1; rw [if_pos rfl, mj_ex_i]
  · by_cases h2 : j = k
    · subst h2; rw [if_neg h1, if_pos rfl, mj_ex_k]
    · rw [if_neg h1, if_neg h2, mj_ex_o h1 h2]
theorem mj_sw_lt {i k j m : Nat} (hi : i < m) (hk : k < m) (hj : j < m) : mj_sw i k j < m := by
  unfold mj_sw
  split
  · exact hk
  · split
    · exact hi
    · exact hj
theorem mj_sw_sw (i k j : Nat) : mj_sw i k (mj_sw i k j) = j := by
  unfold mj_sw
  by_cases h1 : j = i
  · subst h1
    rw [if_pos rfl]
    by_cases h : k = j
    · rw [if_pos h, h]
    · rw [if_neg h, if_pos rfl]
  · by_cases h2 : j = k
    · subst h2
      rw [if_neg h1, if_pos rfl, if_pos rfl]
    · rw [if_neg h1, if_neg h2, if_neg h1, if_neg h2]
theorem mj_vs_ex {V N : Nat → Int32} {m i k : Nat} {μ : Int32 → Int} (hi : i < m) (hk : k < m) (h : mj_vs V N 0 m μ) : mj_vs (mj_ex V i k) (mj_ex N i k) 0 m μ := by
  obtain ⟨h1, h2, h3⟩ := h
  simp only [Nat.zero_add] at h1 h2 h3
  refine ⟨?_, ?_, ?_⟩
  · intro j hj
    simp only [Nat.zero_add, mj_ex_sw]
    exact h1 _ (mj_sw_lt hi hk hj)
  · intro a b ha hb e
    simp only [Nat.zero_add, mj_ex_sw] at e
    have := h2 _ _ (mj_sw_lt hi hk ha) (mj_sw_lt hi hk hb) e
    rw [← mj_sw_sw i k a, this, mj_sw_sw]
  · intro v hv
    obtain ⟨j, hj, e⟩ := h3 v hv
    refine ⟨mj_sw i k j, mj_sw_lt hi hk hj, ?_⟩
    simp only [Nat.zero_add, mj_ex_sw, mj_sw_sw]
    exact e
/-- the sort by exchanges: all before i are ahead of all behind them, i is ahead of all up to k -/
def mj_so (V N : Nat → Int32) (m i k : Nat) : Prop := (∀ x y : Nat, x < i → x < y → y < m → mj_lea V N x y) ∧ (∀ y : Nat, i < y → y < k → mj_lea V N i y)
theorem mj_so_next {V N : Nat → Int32} {m i k : Nat} (h : mj_so V N m i k) (hk : m ≤ k) : mj_so V N m (i + 1) (i + 2) := by
  refine ⟨fun x y hx hxy hy => ?_, fun y h1 h2 => by omega⟩
  rcases Nat.lt_or_eq_of_le (Nat.le_of_lt_succ hx) with h9 | h9
  · exact h.1 x y h9 hxy hy
  · subst h9
    exact h.2 y hxy (by omega)
theorem mj_so_keep {V N : Nat → Int32} {m i k : Nat} (h : mj_so V N m i k) (hl : mj_lea V N i k) : mj_so V N m i (k + 1) := by
  refine ⟨h.1, fun y h1 h2 => ?_⟩
  rcases Nat.lt_or_eq_of_le (Nat.le_of_lt_succ h2) with h9 | h9
  · exact h.2 y h1 h9
  · subst h9; exact hl
theorem mj_so_swap {V N : Nat → Int32} {m i k : Nat} (hik : i < k) (hk : k < m) (h : mj_so V N m i k) (hl : mj_lea V N k i) : mj_so (mj_ex V i k) (mj_ex N i k) m i (k + 1) := by
  have e : ∀ x y : Nat, mj_lea (mj_ex V i k) (mj_ex N i k) x y ↔ mj_lea V N (mj_sw i k x) (mj_sw i k y) := fun x y => by
    unfold mj_lea
    simp only [mj_ex_sw]
  have si : mj_sw i k i = k := by unfold mj_sw; rw [if_pos rfl]
  have sk : mj_sw i k k = i := by unfold mj_sw; rw [if_neg (by omega), if_pos rfl]
  have so : ∀ y : Nat, ¬ y = i → ¬ y = k → mj_sw i k y = y := fun y h1 h2 => by unfold mj_sw; rw [if_neg h1, if_neg h2]
  refine ⟨fun x y hx hxy hy => (e x y).mpr ?_, fun y h1 h2 => (e i y).mpr ?_⟩
  · rw [so x (by omega) (by omega)]
    by_cases hyi : y = i
    · subst hyi; rw [si]; exact h.1 x k hx (by omega) hk
    · by_cases hyk : y = k
      · subst hyk; rw [sk]; exact h.1 x i hx hx (by omega)
      · rw [so y hyi hyk]; exact h.1 x y hx hxy hy
  · rw [si]
    by_cases hyk : y = k
    · subst hyk; rw [sk]; exact hl
    · rw [so y (by omega) hyk]; exact mj_lea_trans hl (h.2 y h1 (by omega))
theorem mj_so_end {V N : Nat → Int32} {m i k : Nat} (h : mj_so V N m i k) (hi : m ≤ i) : mj_srt V N 0 m := by
  intro x y hxy hy
  rw [Nat.zero_add, Nat.zero_add]
  exact h.1 x y (by omega) hxy hy
/-- two summaries together, by slots K -/
def mj_tog (K : Nat) (μa μb μ : Int32 → Int) (c : Int32) : Prop := ∃ (V N : Nat → Int32) (m : Nat), mj_vs V N 0 m (fun v => μa v + μb v) ∧ mj_srt V N 0 m ∧ ((m ≤ K ∧ c.toInt = 0) ∨ (K < m ∧ c = N K)) ∧ ∀ v, μ v = if c.toInt < μa v + μb v then μa v + μb v - c.toInt else 0
def mj_wr (K : Nat) (V N : Nat → Int32) (c : Int) (o lf k : Nat) (vv vn wv wn : Nat → Int32) : Prop :=
  lf ≤ k ∧ lf ≤ K ∧ (∀ j : Nat, j < lf → wv (o + j) = V j ∧ (wn (o + j)).toInt = (N j).toInt - c ∧ c < (N j).toInt) ∧ (∀ j : Nat, lf ≤ j → j < k → (N j).toInt ≤ c) ∧ (∀ q : Nat, (q < o ∨ o + 6 ≤ q) → wv q = vv q ∧ wn q = vn q)
theorem mj_wr_0 (K : Nat) (V N : Nat → Int32) (c : Int) (o : Nat) (vv vn : Nat → Int32) : mj_wr K V N c o 0 0 vv vn vv vn :=
  ⟨Nat.le_refl 0, Nat.zero_le K, fun j h => absurd h (Nat.not_lt_zero j), fun j _ h => absurd h (Nat.not_lt_zero j), fun q _ => ⟨rfl, rfl⟩⟩
theorem mj_wr_skip {K : Nat} {V N vv vn wv wn : Nat → Int32} {c : Int} {o lf k k2 : Nat} (h : mj_wr K V N c o lf k vv vn wv wn) (hk : (N k).toInt ≤ c) (e : k2 = k + 1) : mj_wr K V N c o lf k2 vv vn wv wn := by
  subst e
  obtain ⟨h1, h2, h3, h4, h5⟩ := h
  refine ⟨by omega, h2, h3, fun j ha hb => ?_, h5⟩
  rcases Nat.lt_or_eq_of_le (Nat.le_of_lt_succ hb) with h9 | h9
  · exact h4 j ha h9
  · subst h9; exact hk
theorem mj_wr_put {V N vv vn wv wn : Nat → Int32} {c : Int} {o lf k k2 lf2 q q2 m K : Nat} {x y : Int32} (h : mj_wr K V N c o lf k vv vn wv wn) (hs : mj_srt V N 0 m) (hkm : k < m) (hk : c < (N k).toInt) (hK : K < m → c = (N K).toInt) (hK6 : K ≤ 6) (ex : x = V k) (ey : y.toInt = (N k).toInt - c) (e2 : k2 = k + 1) (el : lf2 = lf + 1) (eq : q = o + lf) (eq2 : q2 = o + lf) : mj_wr K V N c o lf2 k2 vv vn (upd wv q x) (upd wn q2 y) := by
  obtain ⟨h1, h2, h3, h4, h5⟩ := h
  have hlk : lf = k := by
    rcases Nat.lt_or_eq_of_le h1 with h9 | h9
    · have a := h4 lf (Nat.le_refl lf) h9
      have b := hs lf k h9 hkm
      unfold mj_lea at b
      simp only [Nat.zero_add] at b
      omega
    · exact h9
  have hk6 : k < K := by
    rcases Nat.lt_or_ge k K with h9 | h9
    · omega
    · rcases Nat.lt_or_ge K m with h8 | h8
      · have a := hK h8
        rcases Nat.lt_or_eq_of_le h9 with h7 | h7
        · have b := hs K k h7 hkm
          unfold mj_lea at b
          simp only [Nat.zero_add] at b
          omega
        · subst h7; omega
      · omega
  subst hlk; subst e2; subst el; subst eq; subst eq2; subst ex
  refine ⟨Nat.le_refl _, by omega, fun j hj => ?_, fun j ha hb => by omega, fun q hq => ?_⟩
  · by_cases hjl : j = lf
    · subst hjl
      rw [upd_at, upd_at]
      exact ⟨rfl, ey, hk⟩
    · rw [upd_ne (by omega), upd_ne (by omega)]
      exact h3 j (by omega)
  · rw [upd_ne (by omega), upd_ne (by omega)]
    exact h5 q hq
theorem mj_wr_end {K : Nat} {V N vv vn wv wn : Nat → Int32} {c : Int} {o lf k m : Nat} {μ : Int32 → Int} (h : mj_wr K V N c o lf k vv vn wv wn) (hk : k = m) (hv : mj_vs V N 0 m μ) (hs : mj_srt V N 0 m) (hc : 0 ≤ c) : mj_vs wv wn o lf (fun v => if c < μ v then μ v - c else 0) ∧ mj_srt wv wn o lf := by
  subst hk
  obtain ⟨h1, h2, h3, h4, h5⟩ := h
  obtain ⟨a1, a2, a3⟩ := hv
  simp only [Nat.zero_add] at a1 a2 a3
  refine ⟨⟨?_, ?_, ?_⟩, ?_⟩
  · intro j hj
    have x := h3 j hj
    have y := a1 j (by omega)
    dsimp only
    rw [x.1, if_pos (by omega)]
    omega
  · intro i j hi hj e
    rw [(h3 i hi).1, (h3 j hj).1] at e
    exact a2 i j (by omega) (by omega) e
  · intro v hv
    dsimp only at hv
    by_cases hcv : c < μ v
    · obtain ⟨j, hj, e⟩ := a3 v (by omega)
      have y := a1 j hj
      rw [e] at y
      have hjl : j < lf := by
        rcases Nat.lt_or_ge j lf with h9 | h9
        · exact h9
        · have := h4 j h9 hj
          omega
      exact ⟨j, hjl, by rw [(h3 j hjl).1]; exact e⟩
    · exact absurd (if_neg hcv) hv
  · intro i j hij hj
    have x := h3 i (by omega)
    have y := h3 j hj
    have z := hs i j hij (by omega)
    unfold mj_lea at z ⊢
    simp only [Nat.zero_add] at z
    rw [x.1, y.1]
    omega

def mj_z : Int32 → Int := fun _ => 0
theorem mj_vs_start {V N V2 N2 : Nat → Int32} {o m i : Nat} (hm : m = 0) (hi : i = 0) : mj_vs V N 0 m (fun w => mj_z w + mj_pm V2 N2 o i w) := by
  subst hm; subst hi
  exact mj_vs_congr (mj_vs_zero V N 0) (fun w => rfl)
theorem mj_next {V N V2 N2 gv gn : Nat → Int32} {o m o2 i j am : Nat} {μ : Int32 → Int} (h : mj_vs gv gn 0 am (fun w => mj_z w + mj_pm V N o i w)) (va : mj_vs V N o m μ) (e : i = m) (e2 : j = 0) : mj_vs gv gn 0 am (fun w => μ w + mj_pm V2 N2 o2 j w) := by
  subst e; subst e2
  refine mj_vs_congr h (fun w => ?_)
  rw [mj_pm_full va]
  show (0 : Int) + μ w = μ w + 0
  omega
theorem mj_done {V N gv gn : Nat → Int32} {o m i am : Nat} {μ ν : Int32 → Int} (h : mj_vs gv gn 0 am (fun w => ν w + mj_pm V N o i w)) (vb : mj_vs V N o m μ) (e : i = m) : mj_vs gv gn 0 am (fun w => ν w + μ w) := by
  subst e
  exact mj_vs_congr h (fun w => by rw [mj_pm_full vb])
theorem mj_hb1 {μa μb : Int32 → Int} (bd : ∀ v : Int32, μa v + μb v ≤ 1000000) (hn : ∀ v : Int32, 0 ≤ μb v) (v : Int32) : mj_z v + μa v ≤ 2147483647 := by
  have h1 := bd v
  have h2 := hn v
  show (0 : Int) + μa v ≤ 2147483647
  omega
theorem mj_hb2 {μa μb : Int32 → Int} (bd : ∀ v : Int32, μa v + μb v ≤ 1000000) (v : Int32) : μa v + μb v ≤ 2147483647 := by
  have h1 := bd v
  omega
theorem mj_bd {V N : Nat → Int32} {m : Nat} {μ : Int32 → Int} {B : Int} (h : mj_vs V N 0 m μ) (hb : ∀ v : Int32, μ v ≤ B) (j : Nat) (hj : j < m) : 0 < (N j).toInt ∧ (N j).toInt ≤ B := by
  have h1 := h.1 j hj
  simp only [Nat.zero_add] at h1
  have := hb (V j)
  omega
theorem mj_so_0 (V N : Nat → Int32) {m i k : Nat} (hi : i = 0) (hk : k ≤ 1) : mj_so V N m i k :=
  ⟨fun x y hx => absurd hx (by omega), fun y h1 h2 => absurd h1 (by omega)⟩
theorem mj_tog_nn {K : Nat} {μa μb μ : Int32 → Int} {c : Int32} (h : mj_tog K μa μb μ c) : 0 ≤ c.toInt := by
  obtain ⟨V, N, m, hv, hs, hc, -⟩ := h
  rcases hc with ⟨-, e⟩ | ⟨hk, e⟩
  · omega
  · have := hv.1 K hk
    simp only [Nat.zero_add] at this
    rw [e]
    omega
theorem mj_tog_le {K : Nat} {μa μb μ : Int32 → Int} {c : Int32} (h : mj_tog K μa μb μ c) (ha : ∀ v, 0 ≤ μa v) (hb : ∀ v, 0 ≤ μb v) (v : Int32) : 0 ≤ μ v ∧ μ v ≤ μa v + μb v := by
  have hc := mj_tog_nn h
  obtain ⟨V, N, m, -, -, -, e⟩ := h
  have h1 := ha v
  have h2 := hb v
  rw [e v]
  split <;> omega
theorem mj_vs_seg {V N V2 N2 : Nat → Int32} {o m : Nat} {μ : Int32 → Int} (h : mj_vs V N o m μ) (e : ∀ j : Nat, j < m → V2 (o + j) = V (o + j) ∧ N2 (o + j) = N (o + j)) : mj_vs V2 N2 o m μ := by
  obtain ⟨h1, h2, h3⟩ := h
  refine ⟨fun j hj => ?_, fun i j hi hj q => ?_, fun v hv => ?_⟩
  · rw [(e j hj).1, (e j hj).2]; exact h1 j hj
  · rw [(e i hi).1, (e j hj).1] at q; exact h2 i j hi hj q
  · obtain ⟨j, hj, q⟩ := h3 v hv
    exact ⟨j, hj, by rw [(e j hj).1]; exact q⟩
theorem mj_srt_seg {V N V2 N2 : Nat → Int32} {o m : Nat} (h : mj_srt V N o m) (e : ∀ j : Nat, j < m → V2 (o + j) = V (o + j) ∧ N2 (o + j) = N (o + j)) : mj_srt V2 N2 o m := by
  intro i j hij hj
  have := h i j hij hj
  unfold mj_lea at this ⊢
  rw [(e i (by omega)).1, (e i (by omega)).2, (e j hj).1, (e j hj).2]
  exact this

def mj_cp (vv vn wv wn : Nat → Int32) (a b k : Nat) : Prop := (∀ j : Nat, j < k → wv (6 * b + j) = vv (6 * a + j) ∧ wn (6 * b + j) = vn (6 * a + j)) ∧ (∀ q : Nat, (q < 6 * b ∨ 6 * b + k ≤ q) → wv q = vv q ∧ wn q = vn q)
theorem mj_cp_0 (vv vn : Nat → Int32) (a b : Nat) {k : Nat} (hk : k = 0) : mj_cp vv vn vv vn a b k := ⟨fun j h => absurd h (by omega), fun q _ => ⟨rfl, rfl⟩⟩
theorem mj_cp_step {vv vn wv wn : Nat → Int32} {a b k k2 q1 q2 q3 q4 : Nat} {x y : Int32} (h : mj_cp vv vn wv wn a b k) (hk : k < 6) (e1 : q1 = 6 * b + k) (e2 : q2 = 6 * a + k) (e3 : q3 = 6 * b + k) (e4 : q4 = 6 * a + k) (ex : x = wv q2) (ey : y = wn q4) (ek : k2 = k + 1) : mj_cp vv vn (upd wv q1 x) (upd wn q3 y) a b k2 := by
  subst e1; subst e2; subst e3; subst e4; subst ex; subst ey; subst ek
  have r := h.2 (6 * a + k) (by omega)
  refine ⟨fun j hj => ?_, fun q hq => ?_⟩
  · by_cases e : j = k
    · subst e
      rw [upd_at, upd_at]
      exact r
    · rw [upd_ne (by omega), upd_ne (by omega)]
      exact h.1 j (by omega)
  · rw [upd_ne (by omega), upd_ne (by omega)]
    exact h.2 q (by omega)
/-! the parts of a range: how many of the nodes before k are, where the next one begins -/
def mj_pb (nl nr : Nat → Int32) (l r : Int) : Nat → Int
  | 0 => l
  | k + 1 => if (nl k).toInt = mj_pb nl nr l r k ∧ (nr k).toInt ≤ r then (nr k).toInt else mj_pb nl nr l r k
def mj_isp (nl nr : Nat → Int32) (l r : Int) (k : Nat) : Prop := (nl k).toInt = mj_pb nl nr l r k ∧ (nr k).toInt ≤ r
def mj_pq (nl nr : Nat → Int32) (l r : Int) : Nat → Nat
  | 0 => 0
  | k + 1 => mj_pq nl nr l r k + (if (nl k).toInt = mj_pb nl nr l r k ∧ (nr k).toInt ≤ r then 1 else 0)
/-- the first of these lie in gp -/
def mj_pa (nl nr : Nat → Int32) (l r : Int) (gp : Nat → Int32) (k : Nat) : Prop := ∀ j : Nat, j < k → mj_isp nl nr l r j → (gp (mj_pq nl nr l r j)).toInt = (j : Int)
theorem mj_pq_le (nl nr : Nat → Int32) (l r : Int) : ∀ k : Nat, mj_pq nl nr l r k ≤ k
  | 0 => Nat.le_refl 0
  | k + 1 => by
    have := mj_pq_le nl nr l r k
    simp only [mj_pq]
    split <;> omega
theorem mj_pq_mono (nl nr : Nat → Int32) (l r : Int) (a : Nat) : ∀ b : Nat, a ≤ b → mj_pq nl nr l r a ≤ mj_pq nl nr l r b
  | 0, h => by
    obtain rfl : a = 0 := by omega
    exact Nat.le_refl _
  | b + 1, h => by
    rcases Nat.lt_or_eq_of_le h with h9 | h9
    · have := mj_pq_mono nl nr l r a b (by omega)
      simp only [mj_pq]
      omega
    · subst h9; exact Nat.le_refl _
theorem mj_pa_0 (nl nr : Nat → Int32) (l r : Int) (gp : Nat → Int32) {k : Nat} (hk : k = 0) : mj_pa nl nr l r gp k := fun j h => absurd h (by omega)
theorem mj_pa_skip {nl nr gp : Nat → Int32} {l r : Int} {k k2 : Nat} (h : mj_pa nl nr l r gp k) (hn : ¬ mj_isp nl nr l r k) (e : k2 = k + 1) : mj_pa nl nr l r gp k2 ∧ mj_pb nl nr l r k2 = mj_pb nl nr l r k ∧ mj_pq nl nr l r k2 = mj_pq nl nr l r k := by
  subst e
  refine ⟨fun j hj hp => ?_, ?_, ?_⟩
  · rcases Nat.lt_or_eq_of_le (Nat.le_of_lt_succ hj) with h9 | h9
    · exact h j h9 hp
    · subst h9; exact absurd hp hn
  · simp only [mj_pb]; exact if_neg hn
  · simp only [mj_pq]; rw [if_neg (show ¬ ((nl k).toInt = mj_pb nl nr l r k ∧ (nr k).toInt ≤ r) from hn)]; omega
theorem mj_pa_put {nl nr gp : Nat → Int32} {l r : Int} {k k2 q : Nat} {x : Int32} (h : mj_pa nl nr l r gp k) (hp : mj_isp nl nr l r k) (e : k2 = k + 1) (eq : q = mj_pq nl nr l r k) (ex : x.toInt = (k : Int)) : mj_pa nl nr l r (upd gp q x) k2 ∧ mj_pb nl nr l r k2 = (nr k).toInt ∧ mj_pq nl nr l r k2 = mj_pq nl nr l r k + 1 := by
  subst e; subst eq
  refine ⟨fun j hj hpj => ?_, ?_, ?_⟩
  · rcases Nat.lt_or_eq_of_le (Nat.le_of_lt_succ hj) with h9 | h9
    · have hlt : mj_pq nl nr l r j < mj_pq nl nr l r k := by
        have := mj_pq_mono nl nr l r (j + 1) k (by omega)
        have h2 : mj_pq nl nr l r (j + 1) = mj_pq nl nr l r j + 1 := by
          simp only [mj_pq]; rw [if_pos (show (nl j).toInt = mj_pb nl nr l r j ∧ (nr j).toInt ≤ r from hpj)]
        omega
      rw [upd_ne (by omega)]
      exact h j h9 hpj
    · subst h9
      rw [upd_at]; exact ex
  · simp only [mj_pb]; exact if_pos hp
  · simp only [mj_pq]; rw [if_pos (show (nl k).toInt = mj_pb nl nr l r k ∧ (nr k).toInt ≤ r from hp)]



/-! the tree in its seven arrays -/
def mj_one (v : Int32) : Int32 → Int := fun w => if w = v then 1 else 0
def mj_nd (K : Nat) (nl nr fm fl fe vv vn : Nat → Int32) (a : Nat) (l r : Nat) (μ : Int32 → Int) (L c : Int32) : Prop :=
  (nl a).toInt = (l : Int) ∧ (nr a).toInt = (r : Int) ∧ 0 ≤ (fm a).toInt ∧ (fm a).toInt ≤ 6 ∧ (fm a).toInt ≤ (K : Int) ∧ fl a = L ∧ fe a = c ∧ mj_vs vv vn (6 * a) (fm a).toNatClampNeg μ ∧ mj_srt vv vn (6 * a) (fm a).toNatClampNeg
def mj_T (K : Nat) (f nl nr fm fl fe vv vn : Nat → Int32) : Nat → Nat → Nat → Nat → (Int32 → Int) → Int32 → Int32 → Prop
  | 0, a, l, r, μ, L, c => r = l + 1 ∧ μ = mj_one (f l) ∧ L = 0 ∧ c = 0 ∧ mj_nd K nl nr fm fl fe vv vn a l r μ L c
  | d + 1, a, l, r, μ, L, c => (r = l + 1 ∧ μ = mj_one (f l) ∧ L = 0 ∧ c = 0 ∧ mj_nd K nl nr fm fl fe vv vn a l r μ L c) ∨
    (l + 2 ≤ r ∧ mj_nd K nl nr fm fl fe vv vn a l r μ L c ∧ ∃ (μa : Int32 → Int) (La ca : Int32) (μb : Int32 → Int) (Lb cb : Int32), mj_T K f nl nr fm fl fe vv vn d (a + 1) l ((l + r) / 2) μa La ca ∧ mj_T K f nl nr fm fl fe vv vn d (a + 2 * ((l + r) / 2 - l)) ((l + r) / 2) r μb Lb cb ∧ mj_tog K μa μb μ c ∧ L = La + Lb + c)
def mj_S (K : Nat) (f nl nr fm fl fe vv vn : Nat → Int32) (d a l r : Nat) : Prop := ∃ (μ : Int32 → Int) (L c : Int32), mj_T K f nl nr fm fl fe vv vn d a l r μ L c
def mj_ag (a b : Nat) (nl nr fm fl fe vv vn nl2 nr2 fm2 fl2 fe2 vv2 vn2 : Nat → Int32) : Prop :=
  (∀ k : Nat, a ≤ k → k < b → nl2 k = nl k ∧ nr2 k = nr k ∧ fm2 k = fm k ∧ fl2 k = fl k ∧ fe2 k = fe k) ∧ (∀ q : Nat, 6 * a ≤ q → q < 6 * b → vv2 q = vv q ∧ vn2 q = vn q)
theorem mj_ag_sub {a b a2 b2 : Nat} {nl nr fm fl fe vv vn nl2 nr2 fm2 fl2 fe2 vv2 vn2 : Nat → Int32} (h : mj_ag a b nl nr fm fl fe vv vn nl2 nr2 fm2 fl2 fe2 vv2 vn2) (h1 : a ≤ a2) (h2 : b2 ≤ b) : mj_ag a2 b2 nl nr fm fl fe vv vn nl2 nr2 fm2 fl2 fe2 vv2 vn2 :=
  ⟨fun k x y => h.1 k (by omega) (by omega), fun q x y => h.2 q (by omega) (by omega)⟩
theorem mj_ag_trans {a b : Nat} {nl nr fm fl fe vv vn nl1 nr1 fm1 fl1 fe1 vv1 vn1 nl2 nr2 fm2 fl2 fe2 vv2 vn2 : Nat → Int32} (h : mj_ag a b nl nr fm fl fe vv vn nl1 nr1 fm1 fl1 fe1 vv1 vn1) (h2 : mj_ag a b nl1 nr1 fm1 fl1 fe1 vv1 vn1 nl2 nr2 fm2 fl2 fe2 vv2 vn2) : mj_ag a b nl nr fm fl fe vv vn nl2 nr2 fm2 fl2 fe2 vv2 vn2 := by
  refine ⟨fun k x y => ?_, fun q x y => ?_⟩
  · obtain ⟨a1, a2, a3, a4, a5⟩ := h.1 k x y
    obtain ⟨b1, b2, b3, b4, b5⟩ := h2.1 k x y
    exact ⟨b1.trans a1, b2.trans a2, b3.trans a3, b4.trans a4, b5.trans a5⟩
  · obtain ⟨a1, a2⟩ := h.2 q x y
    obtain ⟨b1, b2⟩ := h2.2 q x y
    exact ⟨b1.trans a1, b2.trans a2⟩
theorem mj_nd_ag {K : Nat} {nl nr fm fl fe vv vn nl2 nr2 fm2 fl2 fe2 vv2 vn2 : Nat → Int32} {a b l r : Nat} {μ : Int32 → Int} {L c : Int32} (h : mj_nd K nl nr fm fl fe vv vn a l r μ L c) (hab : a < b) (g : mj_ag a b nl nr fm fl fe vv vn nl2 nr2 fm2 fl2 fe2 vv2 vn2) : mj_nd K nl2 nr2 fm2 fl2 fe2 vv2 vn2 a l r μ L c := by
  obtain ⟨h1, h2, h3, h4, h4', h5, h6, h7, h8⟩ := h
  obtain ⟨e1, e2, e3, e4, e5⟩ := g.1 a (Nat.le_refl a) hab
  unfold mj_nd
  rw [e1, e2, e3, e4, e5]
  have hn := ki_nat (fm a) rfl h3
  have hq : ∀ j : Nat, j < (fm a).toNatClampNeg → vv2 (6 * a + j) = vv (6 * a + j) ∧ vn2 (6 * a + j) = vn (6 * a + j) := fun j hj => g.2 _ (by omega) (by omega)
  exact ⟨h1, h2, h3, h4, h4', h5, h6, mj_vs_seg h7 hq, mj_srt_seg h8 hq⟩
theorem mj_T_lt {K : Nat} {f nl nr fm fl fe vv vn : Nat → Int32} {d a l r : Nat} {μ : Int32 → Int} {L c : Int32} (h : mj_T K f nl nr fm fl fe vv vn d a l r μ L c) : l < r := by
  cases d with
  | zero => have := h.1; omega
  | succ d =>
    rcases h with h | h
    · have := h.1; omega
    · have := h.1; omega
theorem mj_T_nd {K : Nat} {f nl nr fm fl fe vv vn : Nat → Int32} {d a l r : Nat} {μ : Int32 → Int} {L c : Int32} (h : mj_T K f nl nr fm fl fe vv vn d a l r μ L c) : mj_nd K nl nr fm fl fe vv vn a l r μ L c := by
  cases d with
  | zero => exact h.2.2.2.2
  | succ d =>
    rcases h with h | h
    · exact h.2.2.2.2
    · exact h.2.1
theorem mj_T_ag {K : Nat} {f nl nr fm fl fe vv vn nl2 nr2 fm2 fl2 fe2 vv2 vn2 : Nat → Int32} : ∀ (d a b l r : Nat) (μ : Int32 → Int) (L c : Int32), mj_T K f nl nr fm fl fe vv vn d a l r μ L c → a + 2 * (r - l) - 1 ≤ b → mj_ag a b nl nr fm fl fe vv vn nl2 nr2 fm2 fl2 fe2 vv2 vn2 → mj_T K f nl2 nr2 fm2 fl2 fe2 vv2 vn2 d a l r μ L c
  | 0, a, b, l, r, μ, L, c, h, hb, g => by
    obtain ⟨h1, h2, h3, h4, h5⟩ := h
    exact ⟨h1, h2, h3, h4, mj_nd_ag h5 (by omega) g⟩
  | d + 1, a, b, l, r, μ, L, c, h, hb, g => by
    rcases h with ⟨h1, h2, h3, h4, h5⟩ | ⟨h1, h2, μa, La, ca, μb, Lb, cb, ta, tb, hg, hL⟩
    · exact Or.inl ⟨h1, h2, h3, h4, mj_nd_ag h5 (by omega) g⟩
    · exact Or.inr ⟨h1, mj_nd_ag h2 (by omega) g, μa, La, ca, μb, Lb, cb, mj_T_ag d _ b _ _ _ _ _ ta (by omega) (mj_ag_sub g (by omega) (Nat.le_refl b)), mj_T_ag d _ b _ _ _ _ _ tb (by omega) (mj_ag_sub g (by omega) (Nat.le_refl b)), hg, hL⟩
theorem mj_T_le {K : Nat} {f nl nr fm fl fe vv vn : Nat → Int32} : ∀ (d a l r : Nat) (μ : Int32 → Int) (L c : Int32), mj_T K f nl nr fm fl fe vv vn d a l r μ L c → ∀ v : Int32, 0 ≤ μ v ∧ μ v ≤ (r : Int) - (l : Int)
  | 0, a, l, r, μ, L, c, h, v => by
    obtain ⟨h1, h2, -⟩ := h
    subst h2; subst h1
    unfold mj_one
    split <;> omega
  | d + 1, a, l, r, μ, L, c, h, v => by
    rcases h with ⟨h1, h2, -⟩ | ⟨h1, h2, μa, La, ca, μb, Lb, cb, ta, tb, hg, hL⟩
    · subst h2; subst h1
      unfold mj_one
      split <;> omega
    · have ha := mj_T_le d _ _ _ _ _ _ ta
      have hb := mj_T_le d _ _ _ _ _ _ tb
      have h3 := mj_tog_le hg (fun w => (ha w).1) (fun w => (hb w).1) v
      have h4 := ha v
      have h5 := hb v
      omega
/-- a node's own facts, by its number -/
theorem mj_T_all {K : Nat} {f nl nr fm fl fe vv vn : Nat → Int32} : ∀ (d a l r : Nat) (μ : Int32 → Int) (L c : Int32), mj_T K f nl nr fm fl fe vv vn d a l r μ L c → ∀ k : Nat, a ≤ k → k < a + 2 * (r - l) - 1 → ∃ (e l2 r2 : Nat) (μ2 : Int32 → Int) (L2 c2 : Int32), e ≤ d ∧ l ≤ l2 ∧ r2 ≤ r ∧ mj_T K f nl nr fm fl fe vv vn e k l2 r2 μ2 L2 c2
  | 0, a, l, r, μ, L, c, h, k, h1, h2 => by
    have e : k = a := by have := h.1; omega
    subst e
    exact ⟨0, l, r, μ, L, c, Nat.le_refl 0, Nat.le_refl l, Nat.le_refl r, h⟩
  | d + 1, a, l, r, μ, L, c, h, k, h1, h2 => by
    by_cases hk : k = a
    · subst hk
      exact ⟨d + 1, l, r, μ, L, c, Nat.le_refl _, Nat.le_refl l, Nat.le_refl r, h⟩
    · rcases h with ⟨h3, -⟩ | ⟨h3, h4, μa, La, ca, μb, Lb, cb, ta, tb, hg, hL⟩
      · omega
      · rcases Nat.lt_or_ge k (a + 2 * ((l + r) / 2 - l)) with h9 | h9
        · obtain ⟨e, l2, r2, μ2, L2, c2, x1, x2, x3, x4⟩ := mj_T_all d _ _ _ _ _ _ ta k (by omega) (by omega)
          exact ⟨e, l2, r2, μ2, L2, c2, by omega, x2, by omega, x4⟩
        · obtain ⟨e, l2, r2, μ2, L2, c2, x1, x2, x3, x4⟩ := mj_T_all d _ _ _ _ _ _ tb k (by omega) (by omega)
          exact ⟨e, l2, r2, μ2, L2, c2, by omega, by omega, x3, x4⟩
/-- how many of n nodes from a on have the place p -/
def mj_pc (nl nr : Nat → Int32) (p : Int) (a : Nat) : Nat → Nat
  | 0 => 0
  | n + 1 => mj_pc nl nr p a n + (if (nl (a + n)).toInt ≤ p ∧ p < (nr (a + n)).toInt then 1 else 0)
theorem mj_pc_add (nl nr : Nat → Int32) (p : Int) (a x : Nat) : ∀ y : Nat, mj_pc nl nr p a (x + y) = mj_pc nl nr p a x + mj_pc nl nr p (a + x) y
  | 0 => rfl
  | y + 1 => by
    have ih := mj_pc_add nl nr p a x y
    have e : x + (y + 1) = (x + y) + 1 := rfl
    rw [e]
    simp only [mj_pc]
    rw [ih, ← Nat.add_assoc a x y, Nat.add_assoc]
theorem mj_pc_mono (nl nr : Nat → Int32) (p : Int) (a x y : Nat) (h : x ≤ y) : mj_pc nl nr p a x ≤ mj_pc nl nr p a y := by
  obtain ⟨z, rfl⟩ := Nat.le.dest h
  rw [mj_pc_add]
  omega
theorem mj_T_path {K : Nat} {f nl nr fm fl fe vv vn : Nat → Int32} (p : Int) : ∀ (d a l r : Nat) (μ : Int32 → Int) (L c : Int32), mj_T K f nl nr fm fl fe vv vn d a l r μ L c → mj_pc nl nr p a (2 * (r - l) - 1) ≤ d + 1 ∧ (p < (l : Int) ∨ (r : Int) ≤ p → mj_pc nl nr p a (2 * (r - l) - 1) = 0)
  | 0, a, l, r, μ, L, c, h => by
    obtain ⟨h1, -, -, -, hn⟩ := h
    have e : 2 * (r - l) - 1 = 0 + 1 := by omega
    rw [e]
    simp only [mj_pc, Nat.add_zero]
    have b1 := hn.1
    have b2 := hn.2.1
    refine ⟨by split <;> omega, fun h => ?_⟩
    rw [if_neg (by omega)]
  | d + 1, a, l, r, μ, L, c, h => by
    have one : mj_pc nl nr p a 1 = (if (nl a).toInt ≤ p ∧ p < (nr a).toInt then 1 else 0) := by
      simp only [mj_pc, Nat.add_zero, Nat.zero_add]
    rcases h with ⟨h1, -, -, -, hn⟩ | ⟨h3, hn, μa, La, ca, μb, Lb, cb, ta, tb, hg, hL⟩
    · have e : 2 * (r - l) - 1 = 1 := by omega
      rw [e, one]
      have b1 := hn.1
      have b2 := hn.2.1
      refine ⟨by split <;> omega, fun h => ?_⟩
      rw [if_neg (by omega)]
    · have ia := mj_T_path p d _ _ _ _ _ _ ta
      have ib := mj_T_path p d _ _ _ _ _ _ tb
      have e : 2 * (r - l) - 1 = 1 + ((2 * ((l + r) / 2 - l) - 1) + (2 * (r - (l + r) / 2) - 1)) := by omega
      have b1 := hn.1
      have b2 := hn.2.1
      rw [e, mj_pc_add, mj_pc_add, one, show a + 1 + (2 * ((l + r) / 2 - l) - 1) = a + 2 * ((l + r) / 2 - l) by omega]
      have hp : p < ((((l + r) / 2 : Nat)) : Int) ∨ ((((l + r) / 2 : Nat)) : Int) ≤ p := by omega
      refine ⟨?_, fun h => ?_⟩
      · rcases hp with h9 | h9
        · have := ib.2 (Or.inl h9)
          split <;> omega
        · have := ia.2 (Or.inr h9)
          split <;> omega
      · have z1 := ia.2 (by omega)
        have z2 := ib.2 (by omega)
        rw [if_neg (by omega), z1, z2]
theorem mj_lay_leaf {K : Nat} {f nl nr fm fl fe vv vn fm2 fl2 fe2 vv2 vn2 : Nat → Int32} {a l r : Nat} {l32 r32 : Int32} (d : Nat) (hK : 1 ≤ K) (hr : r = l + 1) (hl : l32.toInt = (l : Int)) (hr2 : r32.toInt = (r : Int)) (e1 : fm2 = upd fm a 1) (e2 : fl2 = upd fl a 0) (e3 : fe2 = upd fe a 0) (e4 : vv2 = upd vv (6 * a) (f l)) (e5 : vn2 = upd vn (6 * a) 1) :
    mj_S K f (upd nl a l32) (upd nr a r32) fm2 fl2 fe2 vv2 vn2 d a l r ∧ mj_ag 0 a nl nr fm fl fe vv vn (upd nl a l32) (upd nr a r32) fm2 fl2 fe2 vv2 vn2 := by
  subst e1; subst e2; subst e3; subst e4; subst e5
  have h1 : (1 : Int32).toInt = 1 := rfl
  have hn : mj_nd K (upd nl a l32) (upd nr a r32) (upd fm a 1) (upd fl a 0) (upd fe a 0) (upd vv (6 * a) (f l)) (upd vn (6 * a) 1) a l r (mj_one (f l)) 0 0 := by
    unfold mj_nd
    rw [upd_at, upd_at, upd_at, upd_at, upd_at]
    have h2 : (1 : Int32).toNatClampNeg = 1 := rfl
    rw [h2, h1]
    refine ⟨hl, hr2, by omega, by omega, by omega, rfl, rfl, ⟨?_, ?_, ?_⟩, fun i j hij hj => by omega⟩
    · intro j hj
      obtain rfl : j = 0 := by omega
      simp only [Nat.add_zero]
      rw [upd_at, upd_at, h1]
      unfold mj_one
      rw [if_pos rfl]
      omega
    · intro i j hi hj _
      omega
    · intro v hv
      refine ⟨0, by omega, ?_⟩
      simp only [Nat.add_zero]
      rw [upd_at]
      unfold mj_one at hv
      by_cases e : v = f l
      · exact e.symm
      · exact absurd (if_neg e) hv
  refine ⟨⟨mj_one (f l), 0, 0, ?_⟩, ⟨fun k x y => ?_, fun q x y => ?_⟩⟩
  · cases d with
    | zero => exact ⟨hr, rfl, rfl, rfl, hn⟩
    | succ d => exact Or.inl ⟨hr, rfl, rfl, rfl, hn⟩
  · have : ¬ k = a := by omega
    rw [upd_ne this, upd_ne this, upd_ne this, upd_ne this, upd_ne this]
    exact ⟨rfl, rfl, rfl, rfl, rfl⟩
  · have : ¬ q = 6 * a := by omega
    rw [upd_ne this, upd_ne this]
    exact ⟨rfl, rfl⟩
theorem mj_lay_node {K : Nat} {f nl nr fm fl fe vv vn nl1 nr1 fm1 fl1 fe1 vv1 vn1 nl2 nr2 fm2 fl2 fe2 vv2 vn2 fm3 fl3 fe3 vv3 vn3 : Nat → Int32} {d a l r md x y : Nat} {l32 r32 c lf : Int32} {μa μb μ : Int32 → Int} {La ca Lb cb : Int32}
    (hm : md = (l + r) / 2) (hlr : l + 2 ≤ r) (hl : l32.toInt = (l : Int)) (hr : r32.toInt = (r : Int)) (hx : x = a + 1) (hy : y = a + 2 * (md - l))
    (h1 : mj_ag 0 (a + 1) (upd nl a l32) (upd nr a r32) fm fl fe vv vn nl1 nr1 fm1 fl1 fe1 vv1 vn1) (h2 : mj_ag 0 y nl1 nr1 fm1 fl1 fe1 vv1 vn1 nl2 nr2 fm2 fl2 fe2 vv2 vn2)
    (ta : mj_T K f nl2 nr2 fm2 fl2 fe2 vv2 vn2 d x l md μa La ca) (tb : mj_T K f nl2 nr2 fm2 fl2 fe2 vv2 vn2 d y md r μb Lb cb) (tg : mj_tog K μa μb μ c)
    (e1 : fm3 = upd fm2 a lf) (b0 : 0 ≤ lf.toInt) (b1 : lf.toInt ≤ (K : Int)) (hK6 : K ≤ 6) (e2 : fl3 = upd fl2 a (fl2 x + fl2 y + c)) (e3 : fe3 = upd fe2 a c) (hv : mj_vs vv3 vn3 (6 * a) lf.toNatClampNeg μ) (hs : mj_srt vv3 vn3 (6 * a) lf.toNatClampNeg)
    (hq : ∀ q : Nat, (q < 6 * a ∨ 6 * a + 6 ≤ q) → vv3 q = vv2 q ∧ vn3 q = vn2 q) :
    mj_S K f nl2 nr2 fm3 fl3 fe3 vv3 vn3 (d + 1) a l r ∧ mj_ag 0 a nl nr fm fl fe vv vn nl2 nr2 fm3 fl3 fe3 vv3 vn3 := by
  subst hm; subst hx; subst hy; subst e1; subst e2; subst e3
  have g3 : ∀ b : Nat, mj_ag (a + 1) b nl2 nr2 fm2 fl2 fe2 vv2 vn2 nl2 nr2 (upd fm2 a lf) (upd fl2 a (fl2 (a + 1) + fl2 (a + 2 * ((l + r) / 2 - l)) + c)) (upd fe2 a c) vv3 vn3 := fun b =>
    ⟨fun k x y => by
      have : ¬ k = a := by omega
      rw [upd_ne this, upd_ne this, upd_ne this]
      exact ⟨rfl, rfl, rfl, rfl, rfl⟩, fun q x y => hq q (by omega)⟩
  have ea := (h1.1 a (by omega) (by omega))
  have eb := (h2.1 a (by omega) (by omega))
  have na := mj_T_nd ta
  have nb := mj_T_nd tb
  refine ⟨⟨μ, La + Lb + c, c, Or.inr ⟨hlr, ?_, μa, La, ca, μb, Lb, cb, ?_, ?_, tg, rfl⟩⟩, ?_⟩
  · unfold mj_nd
    rw [upd_at, upd_at, upd_at, eb.1, ea.1, eb.2.1, ea.2.1, upd_at, upd_at]
    refine ⟨hl, hr, b0, by omega, b1, ?_, rfl, hv, hs⟩
    rw [na.2.2.2.2.2.1, nb.2.2.2.2.2.1]
  · exact mj_T_ag d _ _ _ _ _ _ _ ta (Nat.le_refl _) (g3 _)
  · exact mj_T_ag d _ _ _ _ _ _ _ tb (Nat.le_refl _) (mj_ag_sub (g3 _) (by omega) (Nat.le_refl _))
  · refine ⟨fun k x y => ?_, fun q x y => ?_⟩
    · have : ¬ k = a := by omega
      obtain ⟨p1, p2, p3, p4, p5⟩ := h1.1 k (by omega) (by omega)
      obtain ⟨q1, q2, q3, q4, q5⟩ := h2.1 k (by omega) (by omega)
      rw [upd_ne this] at p1 p2
      rw [upd_ne this, upd_ne this, upd_ne this]
      exact ⟨q1.trans p1, q2.trans p2, q3.trans p3, q4.trans p4, q5.trans p5⟩
    · obtain ⟨p1, p2⟩ := h1.2 q (by omega) (by omega)
      obtain ⟨q1, q2⟩ := h2.2 q (by omega) (by omega)
      obtain ⟨r1, r2⟩ := hq q (by omega)
      exact ⟨r1.trans (q1.trans p1), r2.trans (q2.trans p2)⟩
theorem mj_T_leafAt {K : Nat} {f nl nr fm fl fe vv vn : Nat → Int32} (p : Nat) : ∀ (d a l r : Nat) (μ : Int32 → Int) (L c : Int32), mj_T K f nl nr fm fl fe vv vn d a l r μ L c → l ≤ p → p < r → ∃ k : Nat, a ≤ k ∧ k < a + 2 * (r - l) - 1 ∧ (nl k).toInt = (p : Int) ∧ (nr k).toInt = (p : Int) + 1
  | 0, a, l, r, μ, L, c, h, h1, h2 => by
    have n := h.2.2.2.2
    have e := h.1
    exact ⟨a, by omega, by omega, by have := n.1; omega, by have := n.2.1; omega⟩
  | d + 1, a, l, r, μ, L, c, h, h1, h2 => by
    rcases h with ⟨e, -, -, -, n⟩ | ⟨h3, n, μa, La, ca, μb, Lb, cb, ta, tb, hg, hL⟩
    · exact ⟨a, by omega, by omega, by have := n.1; omega, by have := n.2.1; omega⟩
    · rcases Nat.lt_or_ge p ((l + r) / 2) with h9 | h9
      · obtain ⟨k, x1, x2, x3, x4⟩ := mj_T_leafAt p d _ _ _ _ _ _ ta h1 h9
        exact ⟨k, by omega, by omega, x3, x4⟩
      · obtain ⟨k, x1, x2, x3, x4⟩ := mj_T_leafAt p d _ _ _ _ _ _ tb h9 h2
        exact ⟨k, by omega, by omega, x3, x4⟩
def mj_L (K : Nat) (f nl nr fm fl fe vv vn : Nat → Int32) (n nd : Int) : Prop := (n ≤ 0 ∧ nd = 0) ∨ (0 < n ∧ nd = 2 * n - 1 ∧ mj_S K f nl nr fm fl fe vv vn 8 0 0 n.toNat)
theorem mj_L_path {K : Nat} {f nl nr fm fl fe vv vn : Nat → Int32} {n nd : Int} (h : mj_L K f nl nr fm fl fe vv vn n nd) (p : Int) (k : Nat) (hk : (k : Int) ≤ nd) : mj_pc nl nr p 0 k ≤ 9 := by
  rcases h with ⟨h1, h2⟩ | ⟨h1, h2, μ, L, c, h3⟩
  · obtain rfl : k = 0 := by omega
    exact Nat.zero_le _
  · have a := (mj_T_path p _ _ _ _ _ _ _ h3).1
    have b := mj_pc_mono nl nr p 0 k (2 * (n.toNat - 0) - 1) (by omega)
    omega
theorem mj_L_ok {K : Nat} {f nl nr fm fl fe vv vn : Nat → Int32} {n nd : Int} (h : mj_L K f nl nr fm fl fe vv vn n nd) (k : Nat) (hk : (k : Int) < nd) : 0 ≤ (nl k).toInt ∧ (nl k).toInt < (nr k).toInt ∧ (nr k).toInt ≤ n := by
  rcases h with ⟨h1, h2⟩ | ⟨h1, h2, μ, L, c, h3⟩
  · omega
  · obtain ⟨e, l2, r2, μ2, L2, c2, x1, x2, x3, x4⟩ := mj_T_all _ _ _ _ _ _ _ h3 k (by omega) (by omega)
    have a := mj_T_lt x4
    have b := mj_T_nd x4
    have b1 := b.1
    have b2 := b.2.1
    omega
theorem mj_L_vs {K : Nat} {f nl nr fm fl fe vv vn : Nat → Int32} {n nd : Int} (h : mj_L K f nl nr fm fl fe vv vn n nd) (hn : n ≤ 160) (k : Nat) (hk : (k : Int) < nd) : 0 ≤ (fm k).toInt ∧ (fm k).toInt ≤ 6 ∧ (fm k).toInt ≤ (K : Int) ∧ ∃ μ : Int32 → Int, mj_vs vv vn (6 * k) (fm k).toNatClampNeg μ ∧ mj_srt vv vn (6 * k) (fm k).toNatClampNeg ∧ ∀ v : Int32, 0 ≤ μ v ∧ μ v ≤ 160 := by
  rcases h with ⟨h1, h2⟩ | ⟨h1, h2, μ, L, c, h3⟩
  · omega
  · obtain ⟨e, l2, r2, μ2, L2, c2, x1, x2, x3, x4⟩ := mj_T_all _ _ _ _ _ _ _ h3 k (by omega) (by omega)
    have b := mj_T_nd x4
    refine ⟨b.2.2.1, b.2.2.2.1, b.2.2.2.2.1, μ2, b.2.2.2.2.2.2.2.1, b.2.2.2.2.2.2.2.2, fun v => ?_⟩
    have := mj_T_le _ _ _ _ _ _ _ x4 v
    omega
theorem mj_L_ag {K : Nat} {f nl nr fm fl fe vv vn nl2 nr2 fm2 fl2 fe2 vv2 vn2 : Nat → Int32} {n nd : Int} {b : Nat} (h : mj_L K f nl nr fm fl fe vv vn n nd) (hb : nd ≤ (b : Int)) (g : mj_ag 0 b nl nr fm fl fe vv vn nl2 nr2 fm2 fl2 fe2 vv2 vn2) : mj_L K f nl2 nr2 fm2 fl2 fe2 vv2 vn2 n nd := by
  rcases h with h | ⟨h1, h2, μ, L, c, h3⟩
  · exact Or.inl h
  · exact Or.inr ⟨h1, h2, μ, L, c, mj_T_ag _ _ b _ _ _ _ _ h3 (by omega) g⟩
theorem mj_pb_stay (nl nr : Nat → Int32) (l r : Int) : ∀ k : Nat, mj_pq nl nr l r k = 0 → mj_pb nl nr l r k = l
  | 0, _ => rfl
  | k + 1, h => by
    simp only [mj_pq] at h
    by_cases hp : (nl k).toInt = mj_pb nl nr l r k ∧ (nr k).toInt ≤ r
    · rw [if_pos hp] at h
      omega
    · simp only [mj_pb]
      rw [if_neg hp]
      rw [if_neg hp] at h
      exact mj_pb_stay nl nr l r k (by omega)
theorem mj_L_pq {K : Nat} {f nl nr fm fl fe vv vn : Nat → Int32} {n nd l r : Int} (h : mj_L K f nl nr fm fl fe vv vn n nd) (hl : 0 ≤ l) (hlr : l < r) (hr : r ≤ n) : 0 < mj_pq nl nr l r nd.toNat := by
  rcases h with ⟨h1, h2⟩ | ⟨h1, h2, μ, L, c, h3⟩
  · omega
  · obtain ⟨k, x1, x2, x3, x4⟩ := mj_T_leafAt l.toNat _ _ _ _ _ _ _ h3 (by omega) (by omega)
    rcases Nat.eq_zero_or_pos (mj_pq nl nr l r k) with h9 | h9
    · have a := mj_pb_stay nl nr l r k h9
      have b := mj_pq_mono nl nr l r (k + 1) nd.toNat (by omega)
      have c : mj_pq nl nr l r (k + 1) = mj_pq nl nr l r k + 1 := by
        simp only [mj_pq]
        rw [if_pos ⟨by omega, by omega⟩]
      omega
    · have b := mj_pq_mono nl nr l r k nd.toNat (by omega)
      omega
theorem mj_pq_at (nl nr : Nat → Int32) (l r : Int) (j : Nat) : ∀ k : Nat, j < mj_pq nl nr l r k → ∃ i : Nat, i < k ∧ mj_isp nl nr l r i ∧ mj_pq nl nr l r i = j
  | 0, h => absurd h (Nat.not_lt_zero j)
  | k + 1, h => by
    by_cases hj : j < mj_pq nl nr l r k
    · obtain ⟨i, x1, x2, x3⟩ := mj_pq_at nl nr l r j k hj
      exact ⟨i, by omega, x2, x3⟩
    · simp only [mj_pq] at h
      by_cases hp : (nl k).toInt = mj_pb nl nr l r k ∧ (nr k).toInt ≤ r
      · rw [if_pos hp] at h
        exact ⟨k, by omega, hp, by omega⟩
      · rw [if_neg hp] at h
        omega
/-- the summary of the first parts of a range -/
def mj_H (K : Nat) (nl nr fm fl vv vn : Nat → Int32) (l r : Int) : Nat → (Int32 → Int) → Int32 → Prop
  | 0, μ, L => μ = mj_z ∧ L = 0
  | j + 1, μ, L => ∃ (k : Nat) (μ0 : Int32 → Int) (L0 c : Int32) (μk : Int32 → Int), k < 320 ∧ mj_H K nl nr fm fl vv vn l r j μ0 L0 ∧ mj_isp nl nr l r k ∧ mj_pq nl nr l r k = j ∧ mj_vs vv vn (6 * k) (fm k).toNatClampNeg μk ∧ 0 ≤ (fm k).toInt ∧ (fm k).toInt ≤ 6 ∧ mj_tog K μ0 μk μ c ∧ L = L0 + fl k + c
theorem mj_H_ag {K : Nat} {nl nr fm fl fe vv vn fm2 fl2 fe2 vv2 vn2 : Nat → Int32} {l r : Int} (g : mj_ag 0 320 nl nr fm fl fe vv vn nl nr fm2 fl2 fe2 vv2 vn2) : ∀ (j : Nat) (μ : Int32 → Int) (L : Int32), mj_H K nl nr fm fl vv vn l r j μ L → mj_H K nl nr fm2 fl2 vv2 vn2 l r j μ L
  | 0, _, _, h => h
  | j + 1, μ, L, h => by
    obtain ⟨k, μ0, L0, c, μk, h1, h2, h3, h4, h5, h6, h7, h8, h9⟩ := h
    obtain ⟨-, -, e1, e2, -⟩ := g.1 k (by omega) h1
    have hn := ki_nat (fm k) rfl h6
    refine ⟨k, μ0, L0, c, μk, h1, mj_H_ag g j μ0 L0 h2, h3, h4, ?_, ?_, ?_, h8, ?_⟩
    · rw [e1]
      exact mj_vs_seg h5 (fun i hi => g.2 _ (by omega) (by omega))
    · rw [e1]; exact h6
    · rw [e1]; exact h7
    · rw [e2]; exact h9
theorem mj_tog_first {V N : Nat → Int32} {o m K : Nat} {μ : Int32 → Int} (h : mj_vs V N o m μ) (hs : mj_srt V N o m) (hm : m ≤ K) : mj_tog K mj_z μ μ 0 := by
  have hz : ∀ v : Int32, mj_z v + μ v = μ v := fun v => by show (0 : Int) + μ v = μ v; omega
  refine ⟨fun j => V (o + j), fun j => N (o + j), m, ⟨fun j hj => ?_, fun i j hi hj e => ?_, fun v hv => ?_⟩, fun i j hij hj => ?_, Or.inl ⟨hm, rfl⟩, fun v => ?_⟩
  · dsimp only
    rw [Nat.zero_add, hz]
    exact h.1 j hj
  · dsimp only at e
    rw [Nat.zero_add, Nat.zero_add] at e
    exact h.2.1 i j hi hj e
  · dsimp only at hv
    rw [hz] at hv
    obtain ⟨j, hj, e⟩ := h.2.2 v hv
    exact ⟨j, hj, by dsimp only; rw [Nat.zero_add]; exact e⟩
  · have := hs i j hij hj
    unfold mj_lea at this ⊢
    dsimp only
    rw [Nat.zero_add, Nat.zero_add]
    exact this
  · have k0 : (0 : Int32).toInt = 0 := rfl
    have := mj_vs_nn h v
    rw [hz, k0]
    split <;> omega
/-- the summary of the first j parts lies at 320 -/
def mj_F (K : Nat) (nl nr fm fl vv vn fm2 fl2 vv2 vn2 : Nat → Int32) (l r : Int) (j : Nat) : Prop := ∃ (μ : Int32 → Int) (L : Int32), mj_H K nl nr fm fl vv vn l r j μ L ∧ mj_vs vv2 vn2 1920 (fm2 320).toNatClampNeg μ ∧ mj_srt vv2 vn2 1920 (fm2 320).toNatClampNeg ∧ 0 ≤ (fm2 320).toInt ∧ (fm2 320).toInt ≤ (K : Int) ∧ fl2 320 = L ∧ ∀ v : Int32, 0 ≤ μ v ∧ μ v ≤ 160 * (j : Int)



abbrev cX5_sorts : ByteArray := prog_7_method_11_code
def yX5_sorts : MethodName := ⟨RX5, "sorts", "()V"⟩
def wsX5_sorts : List Cond := .code yX5_sorts cX5_sorts 4 none :: ([.fieldLink RX5 87 "MajorityIndexModel" "allMany" "I", .fieldLink RX5 32 "MajorityIndexModel" "allValue" "[I", .fieldLink RX5 35 "MajorityIndexModel" "allNumber" "[I", .methodLink RX5 90 yX5_isAhead, .instanceMethod yX5_isAhead, .selects RX5 yX5_isAhead yX5_isAhead, .initialized RX5, .code yX5_isAhead cX5_isAhead 3 (some .boolean)] ++ wsX50)
set_option maxRecDepth 20000 in
theorem ggX5_sorts_X5_isAhead : GoodIn wsX5_sorts wsX5_isAhead := goodIn_r _ [8, 3, 2, 9, 10, 11, 12, 13, 14, 15, 16, 17, 18, 19, 20, 21, 22, 23, 24, 25, 26, 27, 28, 29, 30, 31, 32, 33, 34, 35, 36, 37, 38] rfl (by decide +kernel)
set_option maxRecDepth 20000 in
theorem gX5_sorts_X5_isAhead : GoodIn wsX5_sorts (wsV RX5 90 RX5 yX5_isAhead wsX5_isAhead) := goodIn_app (goodIn_r _ [4, 5, 6, 7] rfl (by decide +kernel)) ggX5_sorts_X5_isAhead
def dt_cX5_sorts_0 : List (Nat × Nat × Nat × Nat) := [(0, 3, 0, 0), (1, 60, 0, 0), (2, 27, 0, 0), (3, 42, 0, 0), (4, 180, 2, 87), (7, 162, 2, 91), (10, 27, 0, 0), (11, 4, 0, 0), (12, 96, 0, 0), (13, 61, 0, 0), (14, 28, 0, 0), (15, 42, 0, 0), (16, 180, 2, 87), (19, 162, 2, 73), (22, 42, 0, 0), (23, 28, 0, 0), (24, 27, 0, 0), (25, 182, 2, 90), (28, 154, 2, 6), (31, 167, 2, 55)]
theorem da_cX5_sorts_0 : fw dt_cX5_sorts_0 0 cX5_sorts.data.toList = true := by decide +kernel
theorem dX5_sorts_0 : decode cX5_sorts 0 = .ok (.iconst 0, 1) := fo_3 (fw_get da_cX5_sorts_0 0 rfl)
theorem dX5_sorts_1 : decode cX5_sorts 1 = .ok (.istore_n 1, 1) := fo_60 (fw_get da_cX5_sorts_0 1 rfl)
theorem dX5_sorts_2 : decode cX5_sorts 2 = .ok (.iload_n 1, 1) := fo_27 (fw_get da_cX5_sorts_0 2 rfl)
theorem dX5_sorts_3 : decode cX5_sorts 3 = .ok (.aload_n 0, 1) := fo_42 (fw_get da_cX5_sorts_0 3 rfl)
theorem dX5_sorts_4 : decode cX5_sorts 4 = .ok (.getfield 87, 3) := fo_180 (fw_get da_cX5_sorts_0 4 rfl)
theorem dX5_sorts_7 : decode cX5_sorts 7 = .ok (.if_icmp .ge 91, 3) := fo_162 (fw_get da_cX5_sorts_0 5 rfl) (by decide +kernel)
theorem dX5_sorts_10 : decode cX5_sorts 10 = .ok (.iload_n 1, 1) := fo_27 (fw_get da_cX5_sorts_0 6 rfl)
theorem dX5_sorts_11 : decode cX5_sorts 11 = .ok (.iconst 1, 1) := fo_4 (fw_get da_cX5_sorts_0 7 rfl)
theorem dX5_sorts_12 : decode cX5_sorts 12 = .ok (.iadd, 1) := fo_96 (fw_get da_cX5_sorts_0 8 rfl)
theorem dX5_sorts_13 : decode cX5_sorts 13 = .ok (.istore_n 2, 1) := fo_61 (fw_get da_cX5_sorts_0 9 rfl)
theorem dX5_sorts_14 : decode cX5_sorts 14 = .ok (.iload_n 2, 1) := fo_28 (fw_get da_cX5_sorts_0 10 rfl)
theorem dX5_sorts_15 : decode cX5_sorts 15 = .ok (.aload_n 0, 1) := fo_42 (fw_get da_cX5_sorts_0 11 rfl)
theorem dX5_sorts_16 : decode cX5_sorts 16 = .ok (.getfield 87, 3) := fo_180 (fw_get da_cX5_sorts_0 12 rfl)
theorem dX5_sorts_19 : decode cX5_sorts 19 = .ok (.if_icmp .ge 73, 3) := fo_162 (fw_get da_cX5_sorts_0 13 rfl) (by decide +kernel)
theorem dX5_sorts_22 : decode cX5_sorts 22 = .ok (.aload_n 0, 1) := fo_42 (fw_get da_cX5_sorts_0 14 rfl)
theorem dX5_sorts_23 : decode cX5_sorts 23 = .ok (.iload_n 2, 1) := fo_28 (fw_get da_cX5_sorts_0 15 rfl)
theorem dX5_sorts_24 : decode cX5_sorts 24 = .ok (.iload_n 1, 1) := fo_27 (fw_get da_cX5_sorts_0 16 rfl)
theorem dX5_sorts_25 : decode cX5_sorts 25 = .ok (.invokevirtual 90, 3) := fo_182 (fw_get da_cX5_sorts_0 17 rfl)
theorem dX5_sorts_28 : decode cX5_sorts 28 = .ok (.ifCond .ne 6, 3) := fo_154 (fw_get da_cX5_sorts_0 18 rfl) (by decide +kernel)
theorem dX5_sorts_31 : decode cX5_sorts 31 = .ok (.goto 55, 3) := fo_167 (fw_get da_cX5_sorts_0 19 rfl) (by decide +kernel)
def dt_cX5_sorts_1 : List (Nat × Nat × Nat × Nat) := [(34, 42, 0, 0), (35, 180, 2, 32), (38, 27, 0, 0), (39, 46, 0, 0), (40, 62, 0, 0), (41, 42, 0, 0), (42, 180, 2, 32), (45, 27, 0, 0), (46, 42, 0, 0), (47, 180, 2, 32), (50, 28, 0, 0), (51, 46, 0, 0), (52, 79, 0, 0), (53, 42, 0, 0), (54, 180, 2, 32), (57, 28, 0, 0), (58, 29, 0, 0), (59, 79, 0, 0), (60, 42, 0, 0), (61, 180, 2, 35)]
theorem da_cX5_sorts_1 : fw dt_cX5_sorts_1 0 cX5_sorts.data.toList = true := by decide +kernel
theorem dX5_sorts_34 : decode cX5_sorts 34 = .ok (.aload_n 0, 1) := fo_42 (fw_get da_cX5_sorts_1 0 rfl)
theorem dX5_sorts_35 : decode cX5_sorts 35 = .ok (.getfield 32, 3) := fo_180 (fw_get da_cX5_sorts_1 1 rfl)
theorem dX5_sorts_38 : decode cX5_sorts 38 = .ok (.iload_n 1, 1) := fo_27 (fw_get da_cX5_sorts_1 2 rfl)
theorem dX5_sorts_39 : decode cX5_sorts 39 = .ok (.iaload, 1) := fo_46 (fw_get da_cX5_sorts_1 3 rfl)
theorem dX5_sorts_40 : decode cX5_sorts 40 = .ok (.istore_n 3, 1) := fo_62 (fw_get da_cX5_sorts_1 4 rfl)
theorem dX5_sorts_41 : decode cX5_sorts 41 = .ok (.aload_n 0, 1) := fo_42 (fw_get da_cX5_sorts_1 5 rfl)
theorem dX5_sorts_42 : decode cX5_sorts 42 = .ok (.getfield 32, 3) := fo_180 (fw_get da_cX5_sorts_1 6 rfl)
theorem dX5_sorts_45 : decode cX5_sorts 45 = .ok (.iload_n 1, 1) := fo_27 (fw_get da_cX5_sorts_1 7 rfl)
theorem dX5_sorts_46 : decode cX5_sorts 46 = .ok (.aload_n 0, 1) := fo_42 (fw_get da_cX5_sorts_1 8 rfl)
theorem dX5_sorts_47 : decode cX5_sorts 47 = .ok (.getfield 32, 3) := fo_180 (fw_get da_cX5_sorts_1 9 rfl)
theorem dX5_sorts_50 : decode cX5_sorts 50 = .ok (.iload_n 2, 1) := fo_28 (fw_get da_cX5_sorts_1 10 rfl)
theorem dX5_sorts_51 : decode cX5_sorts 51 = .ok (.iaload, 1) := fo_46 (fw_get da_cX5_sorts_1 11 rfl)
theorem dX5_sorts_52 : decode cX5_sorts 52 = .ok (.iastore, 1) := fo_79 (fw_get da_cX5_sorts_1 12 rfl)
theorem dX5_sorts_53 : decode cX5_sorts 53 = .ok (.aload_n 0, 1) := fo_42 (fw_get da_cX5_sorts_1 13 rfl)
theorem dX5_sorts_54 : decode cX5_sorts 54 = .ok (.getfield 32, 3) := fo_180 (fw_get da_cX5_sorts_1 14 rfl)
theorem dX5_sorts_57 : decode cX5_sorts 57 = .ok (.iload_n 2, 1) := fo_28 (fw_get da_cX5_sorts_1 15 rfl)
theorem dX5_sorts_58 : decode cX5_sorts 58 = .ok (.iload_n 3, 1) := fo_29 (fw_get da_cX5_sorts_1 16 rfl)
theorem dX5_sorts_59 : decode cX5_sorts 59 = .ok (.iastore, 1) := fo_79 (fw_get da_cX5_sorts_1 17 rfl)
theorem dX5_sorts_60 : decode cX5_sorts 60 = .ok (.aload_n 0, 1) := fo_42 (fw_get da_cX5_sorts_1 18 rfl)
theorem dX5_sorts_61 : decode cX5_sorts 61 = .ok (.getfield 35, 3) := fo_180 (fw_get da_cX5_sorts_1 19 rfl)
def dt_cX5_sorts_2 : List (Nat × Nat × Nat × Nat) := [(64, 27, 0, 0), (65, 46, 0, 0), (66, 62, 0, 0), (67, 42, 0, 0), (68, 180, 2, 35), (71, 27, 0, 0), (72, 42, 0, 0), (73, 180, 2, 35), (76, 28, 0, 0), (77, 46, 0, 0), (78, 79, 0, 0), (79, 42, 0, 0), (80, 180, 2, 35), (83, 28, 0, 0), (84, 29, 0, 0), (85, 79, 0, 0), (86, 132, 2, 513), (89, 167, 2, 65461), (92, 132, 2, 257), (95, 167, 2, 65443)]
theorem da_cX5_sorts_2 : fw dt_cX5_sorts_2 0 cX5_sorts.data.toList = true := by decide +kernel
theorem dX5_sorts_64 : decode cX5_sorts 64 = .ok (.iload_n 1, 1) := fo_27 (fw_get da_cX5_sorts_2 0 rfl)
theorem dX5_sorts_65 : decode cX5_sorts 65 = .ok (.iaload, 1) := fo_46 (fw_get da_cX5_sorts_2 1 rfl)
theorem dX5_sorts_66 : decode cX5_sorts 66 = .ok (.istore_n 3, 1) := fo_62 (fw_get da_cX5_sorts_2 2 rfl)
theorem dX5_sorts_67 : decode cX5_sorts 67 = .ok (.aload_n 0, 1) := fo_42 (fw_get da_cX5_sorts_2 3 rfl)
theorem dX5_sorts_68 : decode cX5_sorts 68 = .ok (.getfield 35, 3) := fo_180 (fw_get da_cX5_sorts_2 4 rfl)
theorem dX5_sorts_71 : decode cX5_sorts 71 = .ok (.iload_n 1, 1) := fo_27 (fw_get da_cX5_sorts_2 5 rfl)
theorem dX5_sorts_72 : decode cX5_sorts 72 = .ok (.aload_n 0, 1) := fo_42 (fw_get da_cX5_sorts_2 6 rfl)
theorem dX5_sorts_73 : decode cX5_sorts 73 = .ok (.getfield 35, 3) := fo_180 (fw_get da_cX5_sorts_2 7 rfl)
theorem dX5_sorts_76 : decode cX5_sorts 76 = .ok (.iload_n 2, 1) := fo_28 (fw_get da_cX5_sorts_2 8 rfl)
theorem dX5_sorts_77 : decode cX5_sorts 77 = .ok (.iaload, 1) := fo_46 (fw_get da_cX5_sorts_2 9 rfl)
theorem dX5_sorts_78 : decode cX5_sorts 78 = .ok (.iastore, 1) := fo_79 (fw_get da_cX5_sorts_2 10 rfl)
theorem dX5_sorts_79 : decode cX5_sorts 79 = .ok (.aload_n 0, 1) := fo_42 (fw_get da_cX5_sorts_2 11 rfl)
theorem dX5_sorts_80 : decode cX5_sorts 80 = .ok (.getfield 35, 3) := fo_180 (fw_get da_cX5_sorts_2 12 rfl)
theorem dX5_sorts_83 : decode cX5_sorts 83 = .ok (.iload_n 2, 1) := fo_28 (fw_get da_cX5_sorts_2 13 rfl)
theorem dX5_sorts_84 : decode cX5_sorts 84 = .ok (.iload_n 3, 1) := fo_29 (fw_get da_cX5_sorts_2 14 rfl)
theorem dX5_sorts_85 : decode cX5_sorts 85 = .ok (.iastore, 1) := fo_79 (fw_get da_cX5_sorts_2 15 rfl)
theorem dX5_sorts_86 : decode cX5_sorts 86 = .ok (.iinc 2 1, 3) := fo_132 (fw_get da_cX5_sorts_2 16 rfl) rfl (by decide +kernel)
theorem dX5_sorts_89 : decode cX5_sorts 89 = .ok (.goto (-75), 3) := fo_167 (fw_get da_cX5_sorts_2 17 rfl) (by decide +kernel)
theorem dX5_sorts_92 : decode cX5_sorts 92 = .ok (.iinc 1 1, 3) := fo_132 (fw_get da_cX5_sorts_2 18 rfl) rfl (by decide +kernel)
theorem dX5_sorts_95 : decode cX5_sorts 95 = .ok (.goto (-93), 3) := fo_167 (fw_get da_cX5_sorts_2 19 rfl) (by decide +kernel)
def dt_cX5_sorts_3 : List (Nat × Nat × Nat × Nat) := [(98, 177, 0, 0)]
theorem da_cX5_sorts_3 : fw dt_cX5_sorts_3 0 cX5_sorts.data.toList = true := by decide +kernel
theorem dX5_sorts_98 : decode cX5_sorts 98 = .ok (.return_, 1) := fo_177 (fw_get da_cX5_sorts_3 0 rfl)


set_option maxHeartbeats 4000000 in
set_option maxRecDepth 100000 in
theorem c_X5_adds_x (l : Launch) (dC : Nat → ClassId) (dI : Nat → Nat → Nat) (h0 : Nat) (g_row : Nat) (g_many : Nat) (g_loss : Nat) (g_less : Nat) (g_voteValue : Nat) (g_voteNumber : Nat) (g_allValue : Nat) (g_allNumber : Nat) (g_nodeL : Nat) (g_nodeR : Nat) (g_part : Nat) (g_wasMany : Nat) (g_wasLoss : Nat) (g_wasValue : Nat) (g_wasNumber : Nat) (g_path : Nat) (g_heavyValue : Nat) (g_heavyTimes : Nat) (g_fewest : Nat) (g_which : Nat) (g_met : Nat) (m_n : Int32) (m_slots : Int32) (m_thrown : Int32) (m_allMany : Int32) (m_nodes : Int32) (m_partMany : Int32) (m_pathMany : Int32) (m_heavyMany : Int32) (m_mostMet : Int32) (cyI : ClassId) (av : Nat → Int32) (an : Nat → Int32) (p0 : Int32) (p1 : Int32) (sz : Nat) (b0 : 0 ≤ m_allMany.toInt) (b1 : m_allMany.toInt < 12) : kx_MQ l (dC, dI) yX5_adds wsX5_adds ({ frames := 0, cells := 0, slots := 0, locals := 0 }) [.ref h0, .int p0, .int p1] [kx_5 h0 g_row m_n m_slots m_thrown g_many g_loss g_less g_voteValue g_voteNumber g_allValue g_allNumber m_allMany g_nodeL g_nodeR m_nodes g_part m_partMany g_wasMany g_wasLoss g_wasValue g_wasNumber g_path m_pathMany g_heavyValue g_heavyTimes m_heavyMany g_fewest g_which g_met m_mostMet, kx_a g_allValue cyI 12 av, kx_a g_allNumber cyI 12 an] [(cyI, .int)] sz (fun A => va_Qv (fun u : Int32 × (Nat → Int32) × (Nat → Int32) => mj_addR av an m_allMany.toNatClampNeg p0 p1 u.2.1 u.2.2 u.1.toNatClampNeg ∧ m_allMany.toInt ≤ u.1.toInt ∧ u.1.toInt ≤ m_allMany.toInt + 1) (fun (u : Int32 × (Nat → Int32) × (Nat → Int32)) (t : State) => va_P (dC, dI) vwCl [kx_5 h0 g_row m_n m_slots m_thrown g_many g_loss g_less g_voteValue g_voteNumber g_allValue g_allNumber u.1 g_nodeL g_nodeR m_nodes g_part m_partMany g_wasMany g_wasLoss g_wasValue g_wasNumber g_path m_pathMany g_heavyValue g_heavyTimes m_heavyMany g_fewest g_which g_met m_mostMet, kx_a g_allValue cyI 12 u.2.1, kx_a g_allNumber cyI 12 u.2.2] t.heap ∧ va_K (dC, dI) vwCl [(cyI, .int)] t ∧ va_D A [kx_5 h0 g_row m_n m_slots m_thrown g_many g_loss g_less g_voteValue g_voteNumber g_allValue g_allNumber u.1 g_nodeL g_nodeR m_nodes g_part m_partMany g_wasMany g_wasLoss g_wasValue g_wasNumber g_path m_pathMany g_heavyValue g_heavyTimes m_heavyMany g_fewest g_which g_met m_mostMet, kx_a g_allValue cyI 12 u.2.1, kx_a g_allNumber cyI 12 u.2.2]) A) := by
  refine kx_stQ (ws := wsX5_adds) (cc := cX5_adds) (maxL := 4) (ret := none) (by decide) rfl (Nat.le_of_ble_eq_true rfl) ?_
  intro p e s m below meth c A ls hx hb hr hlocks hts hown hml hA hS hP hK hD hl
  have hown : s.vm.findClass RX5 = some m.cls := hown
  have hl : lv_has ls 4 [(0, .ref h0), (1, .int p0), (2, .int p1)] := hl
  have hf_87 := hts (.fieldLink RX5 87 "MajorityIndexModel" "allMany" "I") (List.mem_of_getElem? (i := 1) rfl)
  have hi_5 : ∀ w ∈ u_ws RX5 TX5 30, w ∈ wsX5_adds := fun w h => List.mem_cons_of_mem _ (List.mem_append_right _ h)
  have hf_32 := hts (.fieldLink RX5 32 "MajorityIndexModel" "allValue" "[I") (List.mem_of_getElem? (i := 2) rfl)
  have hf_35 := hts (.fieldLink RX5 35 "MajorityIndexModel" "allNumber" "[I") (List.mem_of_getElem? (i := 3) rfl)
  refine lv_iconst (v := 0) hx hb dX5_adds_0 (by decide) ?_
  refine lv_istore_n (lv' := [(3, .int 0), (0, .ref h0), (1, .int p0), (2, .int p1)]) hx hb dX5_adds_1 rfl hl (by decide) rfl (fun ls hl => ?_)
  have LP1 : ∀ (n : Nat) (i : Int32), (0 ≤ i.toInt) → (∀ k : Nat, k < i.toNatClampNeg → ¬ av k = p0) → (m_allMany.toInt - i.toInt).toNat < n → ∀ (H : Heap) (locs : List Loc), va_P (dC, dI) vwCl [kx_5 h0 g_row m_n m_slots m_thrown g_many g_loss g_less g_voteValue g_voteNumber g_allValue g_allNumber m_allMany g_nodeL g_nodeR m_nodes g_part m_partMany g_wasMany g_wasLoss g_wasValue g_wasNumber g_path m_pathMany g_heavyValue g_heavyTimes m_heavyMany g_fewest g_which g_met m_mostMet, kx_a g_allValue cyI 12 av, kx_a g_allNumber cyI 12 an] H → va_D A [kx_5 h0 g_row m_n m_slots m_thrown g_many g_loss g_less g_voteValue g_voteNumber g_allValue g_allNumber m_allMany g_nodeL g_nodeR m_nodes g_part m_partMany g_wasMany g_wasLoss g_wasValue g_wasNumber g_path m_pathMany g_heavyValue g_heavyTimes m_heavyMany g_fewest g_which g_met m_mostMet, kx_a g_allValue cyI 12 av, kx_a g_allNumber cyI 12 an] → va_S A s.heap H locs → ∀ (ls : Array Slot), lv_has ls 4 [(3, .int i), (0, .ref h0), (1, .int p0), (2, .int p1)] → W p l e (headSpec wsX5_adds ({ frames := 0, cells := 0, slots := 0, locals := 0 })).room s m ([.ref h0, .int p0, .int p1] : List Value).toArray below meth c H locs 0 0 (MQ below (va_Qv (fun u : Int32 × (Nat → Int32) × (Nat → Int32) => mj_addR av an m_allMany.toNatClampNeg p0 p1 u.2.1 u.2.2 u.1.toNatClampNeg ∧ m_allMany.toInt ≤ u.1.toInt ∧ u.1.toInt ≤ m_allMany.toInt + 1) (fun (u : Int32 × (Nat → Int32) × (Nat → Int32)) (t : State) => va_P (dC, dI) vwCl [kx_5 h0 g_row m_n m_slots m_thrown g_many g_loss g_less g_voteValue g_voteNumber g_allValue g_allNumber u.1 g_nodeL g_nodeR m_nodes g_part m_partMany g_wasMany g_wasLoss g_wasValue g_wasNumber g_path m_pathMany g_heavyValue g_heavyTimes m_heavyMany g_fewest g_which g_met m_mostMet, kx_a g_allValue cyI 12 u.2.1, kx_a g_allNumber cyI 12 u.2.2] t.heap ∧ va_K (dC, dI) vwCl [(cyI, .int)] t ∧ va_D A [kx_5 h0 g_row m_n m_slots m_thrown g_many g_loss g_less g_voteValue g_voteNumber g_allValue g_allNumber u.1 g_nodeL g_nodeR m_nodes g_part m_partMany g_wasMany g_wasLoss g_wasValue g_wasNumber g_path m_pathMany g_heavyValue g_heavyTimes m_heavyMany g_fewest g_which g_met m_mostMet, kx_a g_allValue cyI 12 u.2.1, kx_a g_allNumber cyI 12 u.2.2]) A) ([.ref h0, .int p0, .int p1] : List Value).toArray s 0 0 A) (F0 m 2 ls []) := by
    intro n
    induction n with
    | zero => intro i LP1_h0 LP1_h1 hn; exact absurd hn (Nat.not_lt_zero _)
    | succ n ih1 =>
      intro i LP1_h0 LP1_h1 hn1 H locs hP hD hS ls hl
      have n_i := ki_nat i rfl (om_10 LP1_h0)
      refine lv_iload_n hx hb dX5_adds_2 rfl (lv_at hl 0 rfl) ?_
      refine lv_aload_n hx hb dX5_adds_3 rfl (lv_at hl 1 rfl) ?_
      refine va_get (D := (dC, dI)) (ci := 5) (v := .int m_allMany) (C := RX5) (T := TX5) (N := 30) hx hb hts hi_5 hown hK hP 0 rfl rfl 11 (by decide) hf_87 (fun _ h9 => h9) rfl dX5_adds_4 ?_
      refine lv_icmp_ge (tgt := 40) hx hb dX5_adds_7 (by decide) (fun c_1 => ?_) (fun c_1 => ?_)
      · have i_1 : m_allMany.toInt ≤ i.toInt := kc_le c_1
        refine lv_aload_n hx hb dX5_adds_40 rfl (lv_at hl 1 rfl) ?_
        refine va_get (D := (dC, dI)) (ci := 5) (v := .ref g_allValue) (C := RX5) (T := TX5) (N := 30) hx hb hts hi_5 hown hK hP 0 rfl rfl 9 (by decide) hf_32 (fun _ h9 => h9) rfl dX5_adds_41 ?_
        refine lv_aload_n hx hb dX5_adds_44 rfl (lv_at hl 1 rfl) ?_
        refine va_get (D := (dC, dI)) (ci := 5) (v := .int m_allMany) (C := RX5) (T := TX5) (N := 30) hx hb hts hi_5 hown hK hP 0 rfl rfl 11 (by decide) hf_87 (fun _ h9 => h9) rfl dX5_adds_45 ?_
        refine lv_iload_n hx hb dX5_adds_48 rfl (lv_at hl 2 rfl) ?_
        refine va_iast hx hb hK hP hD hS 1 0 rfl rfl (ki_in (om_10 b0) (om_30 b1)) dX5_adds_49 (fun H locs hP hD hS => ?_)
        obtain ⟨hP, hD⟩ := kx_re (w2 := [kx_5 h0 g_row m_n m_slots m_thrown g_many g_loss g_less g_voteValue g_voteNumber g_allValue g_allNumber m_allMany g_nodeL g_nodeR m_nodes g_part m_partMany g_wasMany g_wasLoss g_wasValue g_wasNumber g_path m_pathMany g_heavyValue g_heavyTimes m_heavyMany g_fewest g_which g_met m_mostMet, kx_a g_allValue cyI 12 (upd av m_allMany.toNatClampNeg p0), kx_a g_allNumber cyI 12 an]) hP hD rfl
        refine lv_aload_n hx hb dX5_adds_50 rfl (lv_at hl 1 rfl) ?_
        refine va_get (D := (dC, dI)) (ci := 5) (v := .ref g_allNumber) (C := RX5) (T := TX5) (N := 30) hx hb hts hi_5 hown hK hP 0 rfl rfl 10 (by decide) hf_35 (fun _ h9 => h9) rfl dX5_adds_51 ?_
        refine lv_aload_n hx hb dX5_adds_54 rfl (lv_at hl 1 rfl) ?_
        refine va_get (D := (dC, dI)) (ci := 5) (v := .int m_allMany) (C := RX5) (T := TX5) (N := 30) hx hb hts hi_5 hown hK hP 0 rfl rfl 11 (by decide) hf_87 (fun _ h9 => h9) rfl dX5_adds_55 ?_
        refine lv_iload_n hx hb dX5_adds_58 rfl (lv_at hl 3 rfl) ?_
        refine va_iast hx hb hK hP hD hS 2 0 rfl rfl (ki_in (om_10 b0) (om_30 b1)) dX5_adds_59 (fun H locs hP hD hS => ?_)
        obtain ⟨hP, hD⟩ := kx_re (w2 := [kx_5 h0 g_row m_n m_slots m_thrown g_many g_loss g_less g_voteValue g_voteNumber g_allValue g_allNumber m_allMany g_nodeL g_nodeR m_nodes g_part m_partMany g_wasMany g_wasLoss g_wasValue g_wasNumber g_path m_pathMany g_heavyValue g_heavyTimes m_heavyMany g_fewest g_which g_met m_mostMet, kx_a g_allValue cyI 12 (upd av m_allMany.toNatClampNeg p0), kx_a g_allNumber cyI 12 (upd an m_allMany.toNatClampNeg p1)]) hP hD rfl
        refine lv_aload_n hx hb dX5_adds_60 rfl (lv_at hl 1 rfl) ?_
        refine lv_dup hx hb dX5_adds_61 rfl ?_
        refine va_get (D := (dC, dI)) (ci := 5) (v := .int m_allMany) (C := RX5) (T := TX5) (N := 30) hx hb hts hi_5 hown hK hP 0 rfl rfl 11 (by decide) hf_87 (fun _ h9 => h9) rfl dX5_adds_62 ?_
        refine lv_iconst (v := 1) hx hb dX5_adds_65 (by decide) ?_
        refine lv_iadd hx hb dX5_adds_66 ?_
        refine lv_topi (fun y_2 ey_2 => ?_)
        have i_2 : y_2.toInt = m_allMany.toInt + 1 := ki_add ey_2 rfl rfl (om_13 b0) (om_242 b1)
        refine va_put (D := (dC, dI)) (ci := 5) (v := .int y_2) (ty := .int) (C := RX5) (T := TX5) (N := 30) hx hb hts hi_5 tyX5 tyX5_ok nmX5 hown hK hP hD hS 0 rfl rfl 11 (by decide) hf_87 (fun _ h9 => h9) rfl (by decide +kernel) rfl rfl (Nat.le_of_ble_eq_true rfl) dX5_adds_67 (fun H locs hP hD hS => ?_)
        obtain ⟨hP, hD⟩ := kx_re (w2 := [kx_5 h0 g_row m_n m_slots m_thrown g_many g_loss g_less g_voteValue g_voteNumber g_allValue g_allNumber y_2 g_nodeL g_nodeR m_nodes g_part m_partMany g_wasMany g_wasLoss g_wasValue g_wasNumber g_path m_pathMany g_heavyValue g_heavyTimes m_heavyMany g_fewest g_which g_met m_mostMet, kx_a g_allValue cyI 12 (upd av m_allMany.toNatClampNeg p0), kx_a g_allNumber cyI 12 (upd an m_allMany.toNatClampNeg p1)]) hP hD rfl
        have hP9 := hP
        have hD9 := hD
        have hK9 := hK
        have n_3 := ki_nat m_allMany rfl (om_10 b0)
        have n_4 := ki_nat y_2 rfl (om_34 b0 i_2)
        exact W.vret hx hb hr (hlocks := hlocks) (fun t ht hW => ⟨⟨(y_2, (upd av m_allMany.toNatClampNeg p0), (upd an m_allMany.toNatClampNeg p1)), rfl, ⟨Or.inr ⟨(fun k hk => LP1_h1 k (by omega)), rfl, rfl, (by (try dsimp only); omega)⟩, (by (try dsimp only); omega), (by (try dsimp only); omega)⟩, by rw [ht]; exact hP9, va_K.moved hW.alike hK9, hD9⟩, hS.F ht⟩) hS.2.2 dX5_adds_70
      · have i_1 : i.toInt < m_allMany.toInt := kc_nle c_1
        refine lv_aload_n hx hb dX5_adds_10 rfl (lv_at hl 1 rfl) ?_
        refine va_get (D := (dC, dI)) (ci := 5) (v := .ref g_allValue) (C := RX5) (T := TX5) (N := 30) hx hb hts hi_5 hown hK hP 0 rfl rfl 9 (by decide) hf_32 (fun _ h9 => h9) rfl dX5_adds_11 ?_
        refine lv_iload_n hx hb dX5_adds_14 rfl (lv_at hl 0 rfl) ?_
        refine va_iald hx hb hK hP 1 0 rfl rfl (ki_in (om_10 LP1_h0) (om_243 b1 i_1)) dX5_adds_15 ?_
        refine lv_topi (fun y_5 ey_5 => ?_)
        have j_5 : y_5.toInt = (av i.toNatClampNeg).toInt := congrArg Int32.toInt ey_5
        refine lv_iload_n hx hb dX5_adds_16 rfl (lv_at hl 2 rfl) ?_
        refine lv_icmp_eq (tgt := 23) hx hb dX5_adds_17 (by decide) (fun c_6 => ?_) (fun c_6 => ?_)
        · have i_6 : y_5.toInt = p0.toInt := kc_eq c_6
          refine lv_aload_n hx hb dX5_adds_23 rfl (lv_at hl 1 rfl) ?_
          refine va_get (D := (dC, dI)) (ci := 5) (v := .ref g_allNumber) (C := RX5) (T := TX5) (N := 30) hx hb hts hi_5 hown hK hP 0 rfl rfl 10 (by decide) hf_35 (fun _ h9 => h9) rfl dX5_adds_24 ?_
          refine lv_iload_n hx hb dX5_adds_27 rfl (lv_at hl 0 rfl) ?_
          refine lv_dup2_11 hx hb dX5_adds_28 rfl rfl ?_
          refine va_iald hx hb hK hP 2 0 rfl rfl (ki_in (om_10 LP1_h0) (om_243 b1 i_1)) dX5_adds_29 ?_
          refine lv_topi (fun y_7 ey_7 => ?_)
          have j_7 : y_7.toInt = (an i.toNatClampNeg).toInt := congrArg Int32.toInt ey_7
          refine lv_iload_n hx hb dX5_adds_30 rfl (lv_at hl 3 rfl) ?_
          refine lv_iadd hx hb dX5_adds_31 ?_
          refine lv_topi (fun y_8 ey_8 => ?_)
          refine va_iast hx hb hK hP hD hS 2 0 rfl rfl (ki_in (om_10 LP1_h0) (om_243 b1 i_1)) dX5_adds_32 (fun H locs hP hD hS => ?_)
          obtain ⟨hP, hD⟩ := kx_re (w2 := [kx_5 h0 g_row m_n m_slots m_thrown g_many g_loss g_less g_voteValue g_voteNumber g_allValue g_allNumber m_allMany g_nodeL g_nodeR m_nodes g_part m_partMany g_wasMany g_wasLoss g_wasValue g_wasNumber g_path m_pathMany g_heavyValue g_heavyTimes m_heavyMany g_fewest g_which g_met m_mostMet, kx_a g_allValue cyI 12 av, kx_a g_allNumber cyI 12 (upd an i.toNatClampNeg y_8)]) hP hD rfl
          have hP9 := hP
          have hD9 := hD
          have hK9 := hK
          have n_9 := ki_nat m_allMany rfl (om_10 b0)
          exact W.vret hx hb hr (hlocks := hlocks) (fun t ht hW => ⟨⟨(m_allMany, av, (upd an i.toNatClampNeg y_8)), rfl, ⟨Or.inl ⟨i.toNatClampNeg, (by (try dsimp only); omega), (ey_5.symm.trans c_6), rfl, (by (try dsimp only); rw [ey_8, ey_7]), rfl⟩, (by (try dsimp only); omega), (by (try dsimp only); omega)⟩, by rw [ht]; exact hP9, va_K.moved hW.alike hK9, hD9⟩, hS.F ht⟩) hS.2.2 dX5_adds_33
        · have i_6 : ¬ y_5.toInt = p0.toInt := kc_ne c_6
          refine lv_goto (tgt := 34) hx hb dX5_adds_20 (by decide) ?_
          obtain ⟨x_10, ex_10⟩ : ∃ y : Int32, y = i + 1 := ⟨_, rfl⟩
          have i_10 : x_10.toInt = i.toInt + 1 := ki_add ex_10 rfl rfl (om_13 LP1_h0) (om_244 b1 i_1)
          refine lv_iinc (v := x_10) (lv' := [(3, .int x_10), (0, .ref h0), (1, .int p0), (2, .int p1)]) hx hb dX5_adds_34 hl (k := 0) rfl (by rw [ex_10]; rfl) (by decide) rfl (fun ls hl => ?_)
          refine lv_goto (tgt := 2) hx hb dX5_adds_37 (by decide) ?_
          have n_11 := ki_nat x_10 rfl (om_34 LP1_h0 i_10)
          exact ih1 x_10 (om_34 LP1_h0 i_10) (fun k hk => if h9 : k < i.toNatClampNeg then LP1_h1 k h9 else (by rw [show k = i.toNatClampNeg by omega]; exact fun h => c_6 (ey_5.trans h))) (om_mu hn1 (om_5 i_10) (om_6 i_1)) _ _ hP hD hS ls (lv_sub hl [0, 1, 2, 3] rfl)
  have k_12 : (0 : Int32).toInt = 0 := rfl
  exact LP1 ((m_allMany.toInt - 0 : Int).toNat + 1) 0 om_35 (fun k hk => absurd hk (Nat.not_lt_zero k)) (Nat.lt_succ_self _) _ _ hP hD hS ls (lv_sub hl [0, 1, 2, 3] rfl)

set_option maxHeartbeats 4000000 in
set_option maxRecDepth 100000 in
theorem c_X5_sorts (l : Launch) (dC : Nat → ClassId) (dI : Nat → Nat → Nat) (h0 : Nat) (g_row : Nat) (g_many : Nat) (g_loss : Nat) (g_less : Nat) (g_voteValue : Nat) (g_voteNumber : Nat) (g_allValue : Nat) (g_allNumber : Nat) (g_nodeL : Nat) (g_nodeR : Nat) (g_part : Nat) (g_wasMany : Nat) (g_wasLoss : Nat) (g_wasValue : Nat) (g_wasNumber : Nat) (g_path : Nat) (g_heavyValue : Nat) (g_heavyTimes : Nat) (g_fewest : Nat) (g_which : Nat) (g_met : Nat) (m_n : Int32) (m_slots : Int32) (m_thrown : Int32) (m_allMany : Int32) (m_nodes : Int32) (m_partMany : Int32) (m_pathMany : Int32) (m_heavyMany : Int32) (m_mostMet : Int32) (cyI : ClassId) (av : Nat → Int32) (an : Nat → Int32) (sz : Nat) (b0 : 0 ≤ m_allMany.toInt) (b1 : m_allMany.toInt ≤ 12) : kx_MQ l (dC, dI) yX5_sorts wsX5_sorts ({ frames := 1, cells := 0, slots := 0, locals := 45 }) [.ref h0] [kx_5 h0 g_row m_n m_slots m_thrown g_many g_loss g_less g_voteValue g_voteNumber g_allValue g_allNumber m_allMany g_nodeL g_nodeR m_nodes g_part m_partMany g_wasMany g_wasLoss g_wasValue g_wasNumber g_path m_pathMany g_heavyValue g_heavyTimes m_heavyMany g_fewest g_which g_met m_mostMet, kx_a g_allValue cyI 12 av, kx_a g_allNumber cyI 12 an] [(cyI, .int)] sz (fun A => va_Qv (fun u : (Nat → Int32) × (Nat → Int32) => mj_srt u.1 u.2 0 m_allMany.toNatClampNeg ∧ ∀ mu : Int32 → Int, mj_vs av an 0 m_allMany.toNatClampNeg mu → mj_vs u.1 u.2 0 m_allMany.toNatClampNeg mu) (fun (u : (Nat → Int32) × (Nat → Int32)) (t : State) => va_P (dC, dI) vwCl [kx_5 h0 g_row m_n m_slots m_thrown g_many g_loss g_less g_voteValue g_voteNumber g_allValue g_allNumber m_allMany g_nodeL g_nodeR m_nodes g_part m_partMany g_wasMany g_wasLoss g_wasValue g_wasNumber g_path m_pathMany g_heavyValue g_heavyTimes m_heavyMany g_fewest g_which g_met m_mostMet, kx_a g_allValue cyI 12 u.1, kx_a g_allNumber cyI 12 u.2] t.heap ∧ va_K (dC, dI) vwCl [(cyI, .int)] t ∧ va_D A [kx_5 h0 g_row m_n m_slots m_thrown g_many g_loss g_less g_voteValue g_voteNumber g_allValue g_allNumber m_allMany g_nodeL g_nodeR m_nodes g_part m_partMany g_wasMany g_wasLoss g_wasValue g_wasNumber g_path m_pathMany g_heavyValue g_heavyTimes m_heavyMany g_fewest g_which g_met m_mostMet, kx_a g_allValue cyI 12 u.1, kx_a g_allNumber cyI 12 u.2]) A) := by
  refine kx_stQ (ws := wsX5_sorts) (cc := cX5_sorts) (maxL := 4) (ret := none) (by decide) rfl (Nat.le_of_ble_eq_true rfl) ?_
  intro p e s m below meth c A ls hx hb hr hlocks hts hown hml hA hS hP hK hD hl
  have hown : s.vm.findClass RX5 = some m.cls := hown
  have hl : lv_has ls 4 [(0, .ref h0)] := hl
  have hf_87 := hts (.fieldLink RX5 87 "MajorityIndexModel" "allMany" "I") (List.mem_of_getElem? (i := 1) rfl)
  have hi_5 : ∀ w ∈ u_ws RX5 TX5 30, w ∈ wsX5_sorts := fun w h => List.mem_cons_of_mem _ (List.mem_append_right _ h)
  have hf_32 := hts (.fieldLink RX5 32 "MajorityIndexModel" "allValue" "[I") (List.mem_of_getElem? (i := 2) rfl)
  have hf_35 := hts (.fieldLink RX5 35 "MajorityIndexModel" "allNumber" "[I") (List.mem_of_getElem? (i := 3) rfl)
  have n_m := ki_nat m_allMany rfl (om_10 b0)
  refine lv_iconst (v := 0) hx hb dX5_sorts_0 (by decide) ?_
  refine lv_istore_n (lv' := [(1, .int 0), (0, .ref h0)]) hx hb dX5_sorts_1 rfl hl (by decide) rfl (fun ls hl => ?_)
  have LP1 : ∀ (n : Nat) (i : Int32) (gv : Nat → Int32) (gn : Nat → Int32), (0 ≤ i.toInt) → (i.toInt ≤ 12) → (mj_so gv gn m_allMany.toNatClampNeg i.toNatClampNeg (i.toNatClampNeg + 1)) → (∀ mu : Int32 → Int, mj_vs av an 0 m_allMany.toNatClampNeg mu → mj_vs gv gn 0 m_allMany.toNatClampNeg mu) → (m_allMany.toInt - i.toInt).toNat < n → ∀ (H : Heap) (locs : List Loc), va_P (dC, dI) vwCl [kx_5 h0 g_row m_n m_slots m_thrown g_many g_loss g_less g_voteValue g_voteNumber g_allValue g_allNumber m_allMany g_nodeL g_nodeR m_nodes g_part m_partMany g_wasMany g_wasLoss g_wasValue g_wasNumber g_path m_pathMany g_heavyValue g_heavyTimes m_heavyMany g_fewest g_which g_met m_mostMet, kx_a g_allValue cyI 12 gv, kx_a g_allNumber cyI 12 gn] H → va_D A [kx_5 h0 g_row m_n m_slots m_thrown g_many g_loss g_less g_voteValue g_voteNumber g_allValue g_allNumber m_allMany g_nodeL g_nodeR m_nodes g_part m_partMany g_wasMany g_wasLoss g_wasValue g_wasNumber g_path m_pathMany g_heavyValue g_heavyTimes m_heavyMany g_fewest g_which g_met m_mostMet, kx_a g_allValue cyI 12 gv, kx_a g_allNumber cyI 12 gn] → va_S A s.heap H locs → ∀ (ls : Array Slot), lv_has ls 4 [(1, .int i), (0, .ref h0)] → W p l e (headSpec wsX5_sorts ({ frames := 1, cells := 0, slots := 0, locals := 45 })).room s m ([.ref h0] : List Value).toArray below meth c H locs 0 0 (MQ below (va_Qv (fun u : (Nat → Int32) × (Nat → Int32) => mj_srt u.1 u.2 0 m_allMany.toNatClampNeg ∧ ∀ mu : Int32 → Int, mj_vs av an 0 m_allMany.toNatClampNeg mu → mj_vs u.1 u.2 0 m_allMany.toNatClampNeg mu) (fun (u : (Nat → Int32) × (Nat → Int32)) (t : State) => va_P (dC, dI) vwCl [kx_5 h0 g_row m_n m_slots m_thrown g_many g_loss g_less g_voteValue g_voteNumber g_allValue g_allNumber m_allMany g_nodeL g_nodeR m_nodes g_part m_partMany g_wasMany g_wasLoss g_wasValue g_wasNumber g_path m_pathMany g_heavyValue g_heavyTimes m_heavyMany g_fewest g_which g_met m_mostMet, kx_a g_allValue cyI 12 u.1, kx_a g_allNumber cyI 12 u.2] t.heap ∧ va_K (dC, dI) vwCl [(cyI, .int)] t ∧ va_D A [kx_5 h0 g_row m_n m_slots m_thrown g_many g_loss g_less g_voteValue g_voteNumber g_allValue g_allNumber m_allMany g_nodeL g_nodeR m_nodes g_part m_partMany g_wasMany g_wasLoss g_wasValue g_wasNumber g_path m_pathMany g_heavyValue g_heavyTimes m_heavyMany g_fewest g_which g_met m_mostMet, kx_a g_allValue cyI 12 u.1, kx_a g_allNumber cyI 12 u.2]) A) ([.ref h0] : List Value).toArray s 0 0 A) (F0 m 2 ls []) := by
    intro n
    induction n with
    | zero => intro i gv gn LP1_h0 LP1_h1 LP1_h2 LP1_h3 hn; exact absurd hn (Nat.not_lt_zero _)
    | succ n ih1 =>
      intro i gv gn LP1_h0 LP1_h1 LP1_h2 LP1_h3 hn1 H locs hP hD hS ls hl
      have n_i := ki_nat i rfl (om_10 LP1_h0)
      refine lv_iload_n hx hb dX5_sorts_2 rfl (lv_at hl 0 rfl) ?_
      refine lv_aload_n hx hb dX5_sorts_3 rfl (lv_at hl 1 rfl) ?_
      refine va_get (D := (dC, dI)) (ci := 5) (v := .int m_allMany) (C := RX5) (T := TX5) (N := 30) hx hb hts hi_5 hown hK hP 0 rfl rfl 11 (by decide) hf_87 (fun _ h9 => h9) rfl dX5_sorts_4 ?_
      refine lv_icmp_ge (tgt := 98) hx hb dX5_sorts_7 (by decide) (fun c_1 => ?_) (fun c_1 => ?_)
      · have i_1 : m_allMany.toInt ≤ i.toInt := kc_le c_1
        have hP9 := hP
        have hD9 := hD
        have hK9 := hK
        exact W.vret hx hb hr (hlocks := hlocks) (fun t ht hW => ⟨⟨(gv, gn), rfl, ⟨mj_so_end LP1_h2 (by (try dsimp only); omega), LP1_h3⟩, by rw [ht]; exact hP9, va_K.moved hW.alike hK9, hD9⟩, hS.F ht⟩) hS.2.2 dX5_sorts_98
      · have i_1 : i.toInt < m_allMany.toInt := kc_nle c_1
        refine lv_iload_n hx hb dX5_sorts_10 rfl (lv_at hl 0 rfl) ?_
        refine lv_iconst (v := 1) hx hb dX5_sorts_11 (by decide) ?_
        refine lv_iadd hx hb dX5_sorts_12 ?_
        refine lv_topi (fun y_2 ey_2 => ?_)
        have i_2 : y_2.toInt = i.toInt + 1 := ki_add ey_2 rfl rfl (om_13 LP1_h0) (om_31 LP1_h1)
        refine lv_istore_n (lv' := [(2, .int y_2), (1, .int i), (0, .ref h0)]) hx hb dX5_sorts_13 rfl hl (by decide) rfl (fun ls hl => ?_)
        have LP2 : ∀ (n : Nat) (k : Int32) (kv : Nat → Int32) (kn : Nat → Int32), (i.toInt < k.toInt) → (k.toInt ≤ 13) → (mj_so kv kn m_allMany.toNatClampNeg i.toNatClampNeg k.toNatClampNeg) → (∀ mu : Int32 → Int, mj_vs av an 0 m_allMany.toNatClampNeg mu → mj_vs kv kn 0 m_allMany.toNatClampNeg mu) → (m_allMany.toInt - k.toInt).toNat < n → ∀ (H : Heap) (locs : List Loc), va_P (dC, dI) vwCl [kx_5 h0 g_row m_n m_slots m_thrown g_many g_loss g_less g_voteValue g_voteNumber g_allValue g_allNumber m_allMany g_nodeL g_nodeR m_nodes g_part m_partMany g_wasMany g_wasLoss g_wasValue g_wasNumber g_path m_pathMany g_heavyValue g_heavyTimes m_heavyMany g_fewest g_which g_met m_mostMet, kx_a g_allValue cyI 12 kv, kx_a g_allNumber cyI 12 kn] H → va_D A [kx_5 h0 g_row m_n m_slots m_thrown g_many g_loss g_less g_voteValue g_voteNumber g_allValue g_allNumber m_allMany g_nodeL g_nodeR m_nodes g_part m_partMany g_wasMany g_wasLoss g_wasValue g_wasNumber g_path m_pathMany g_heavyValue g_heavyTimes m_heavyMany g_fewest g_which g_met m_mostMet, kx_a g_allValue cyI 12 kv, kx_a g_allNumber cyI 12 kn] → va_S A s.heap H locs → ∀ (ls : Array Slot), lv_has ls 4 [(2, .int k), (1, .int i), (0, .ref h0)] → W p l e (headSpec wsX5_sorts ({ frames := 1, cells := 0, slots := 0, locals := 45 })).room s m ([.ref h0] : List Value).toArray below meth c H locs 0 0 (MQ below (va_Qv (fun u : (Nat → Int32) × (Nat → Int32) => mj_srt u.1 u.2 0 m_allMany.toNatClampNeg ∧ ∀ mu : Int32 → Int, mj_vs av an 0 m_allMany.toNatClampNeg mu → mj_vs u.1 u.2 0 m_allMany.toNatClampNeg mu) (fun (u : (Nat → Int32) × (Nat → Int32)) (t : State) => va_P (dC, dI) vwCl [kx_5 h0 g_row m_n m_slots m_thrown g_many g_loss g_less g_voteValue g_voteNumber g_allValue g_allNumber m_allMany g_nodeL g_nodeR m_nodes g_part m_partMany g_wasMany g_wasLoss g_wasValue g_wasNumber g_path m_pathMany g_heavyValue g_heavyTimes m_heavyMany g_fewest g_which g_met m_mostMet, kx_a g_allValue cyI 12 u.1, kx_a g_allNumber cyI 12 u.2] t.heap ∧ va_K (dC, dI) vwCl [(cyI, .int)] t ∧ va_D A [kx_5 h0 g_row m_n m_slots m_thrown g_many g_loss g_less g_voteValue g_voteNumber g_allValue g_allNumber m_allMany g_nodeL g_nodeR m_nodes g_part m_partMany g_wasMany g_wasLoss g_wasValue g_wasNumber g_path m_pathMany g_heavyValue g_heavyTimes m_heavyMany g_fewest g_which g_met m_mostMet, kx_a g_allValue cyI 12 u.1, kx_a g_allNumber cyI 12 u.2]) A) ([.ref h0] : List Value).toArray s 0 0 A) (F0 m 14 ls []) := by
          intro n
          induction n with
          | zero => intro k kv kn LP2_h0 LP2_h1 LP2_h2 LP2_h3 hn; exact absurd hn (Nat.not_lt_zero _)
          | succ n ih2 =>
            intro k kv kn LP2_h0 LP2_h1 LP2_h2 LP2_h3 hn2 H locs hP hD hS ls hl
            have n_k := ki_nat k rfl (om_21 LP1_h0 LP2_h0)
            refine lv_iload_n hx hb dX5_sorts_14 rfl (lv_at hl 0 rfl) ?_
            refine lv_aload_n hx hb dX5_sorts_15 rfl (lv_at hl 2 rfl) ?_
            refine va_get (D := (dC, dI)) (ci := 5) (v := .int m_allMany) (C := RX5) (T := TX5) (N := 30) hx hb hts hi_5 hown hK hP 0 rfl rfl 11 (by decide) hf_87 (fun _ h9 => h9) rfl dX5_sorts_16 ?_
            refine lv_icmp_ge (tgt := 92) hx hb dX5_sorts_19 (by decide) (fun c_3 => ?_) (fun c_3 => ?_)
            · have i_3 : m_allMany.toInt ≤ k.toInt := kc_le c_3
              obtain ⟨x_4, ex_4⟩ : ∃ y : Int32, y = i + 1 := ⟨_, rfl⟩
              have i_4 : x_4.toInt = i.toInt + 1 := ki_add ex_4 rfl rfl (om_13 LP1_h0) (om_31 LP1_h1)
              refine lv_iinc (v := x_4) (lv' := [(1, .int x_4), (2, .int k), (0, .ref h0)]) hx hb dX5_sorts_92 hl (k := 1) rfl (by rw [ex_4]; rfl) (by decide) rfl (fun ls hl => ?_)
              refine lv_goto (tgt := 2) hx hb dX5_sorts_95 (by decide) ?_
              have n_5 := ki_nat x_4 rfl (om_34 LP1_h0 i_4)
              exact ih1 x_4 kv kn (om_34 LP1_h0 i_4) (om_293 b1 i_1 i_4) (by rw [show x_4.toNatClampNeg = i.toNatClampNeg + 1 by omega]; exact mj_so_next LP2_h2 (by omega)) LP2_h3 (om_mu hn1 (om_5 i_4) (om_6 i_1)) _ _ hP hD hS ls (lv_sub hl [0, 2] rfl)
            · have i_3 : k.toInt < m_allMany.toInt := kc_nle c_3
              refine lv_aload_n hx hb dX5_sorts_22 rfl (lv_at hl 2 rfl) ?_
              refine lv_iload_n hx hb dX5_sorts_23 rfl (lv_at hl 0 rfl) ?_
              refine lv_iload_n hx hb dX5_sorts_24 rfl (lv_at hl 1 rfl) ?_
              have hPc := hP
              have hKc := hK
              refine vp_callSi (W.runV (As := [.int k, .int i]) (rest := []) ⟨hx, hb, hml, hown, hts⟩ (c_X5_isAhead l dC dI h0 g_row g_many g_loss g_less g_voteValue g_voteNumber g_allValue g_allNumber g_nodeL g_nodeR g_part g_wasMany g_wasLoss g_wasValue g_wasNumber g_path g_heavyValue g_heavyTimes g_fewest g_which g_met m_n m_slots m_thrown m_allMany m_nodes m_partMany m_pathMany m_heavyMany m_mostMet cyI kv kn k i (om_21 LP1_h0 LP2_h0) (om_58 b1 i_3) LP1_h0 (om_294 b1 LP1_h1 LP2_h0 i_3)) (cwV 2 hts gX5_sorts_X5_isAhead rfl rfl rfl (by decide +kernel) ⟨Nat.le_of_ble_eq_true rfl, Nat.le_of_ble_eq_true rfl⟩) ⟨fun a U g mk q => by obtain ⟨q0, qP, qK⟩ := q; exact ⟨q0, qP, va_K.moved (u := U) (U := U.calling g mk a) (Vm.Alike.refl U.vm) qK⟩, kx_rc5 hKc hPc (q0 := 0) rfl, fun U hU hW => ⟨rfl, by rw [hU]; exact hPc, va_K.moved hW.alike hKc⟩⟩ rfl rfl hl.1 rfl (lv_room (Nat.le_of_ble_eq_true rfl)) dX5_sorts_25 ⟨Nat.le_of_ble_eq_true rfl, Nat.le_of_ble_eq_true rfl⟩) (fun r_6 w_6 => ?_)
              rcases w_6 with ⟨rfl, w_6⟩ | ⟨rfl, w_6⟩
              · have w_6 : ((kn i.toNatClampNeg).toInt < (kn k.toNatClampNeg).toInt ∨ ((kn k.toNatClampNeg).toInt = (kn i.toNatClampNeg).toInt ∧ (kv k.toNatClampNeg).toInt < (kv i.toNatClampNeg).toInt)) := w_6
                refine lv_if_ne (tgt := 34) hx hb dX5_sorts_28 (by decide) (fun c_7 => ?_) (fun c_7 => ?_)
                · refine lv_aload_n hx hb dX5_sorts_34 rfl (lv_at hl 2 rfl) ?_
                  refine va_get (D := (dC, dI)) (ci := 5) (v := .ref g_allValue) (C := RX5) (T := TX5) (N := 30) hx hb hts hi_5 hown hK hP 0 rfl rfl 9 (by decide) hf_32 (fun _ h9 => h9) rfl dX5_sorts_35 ?_
                  refine lv_iload_n hx hb dX5_sorts_38 rfl (lv_at hl 1 rfl) ?_
                  refine va_iald hx hb hK hP 1 0 rfl rfl (ki_in (om_10 LP1_h0) (om_295 b1 LP1_h1 LP2_h0 i_3)) dX5_sorts_39 ?_
                  refine lv_topi (fun y_8 ey_8 => ?_)
                  have j_8 : y_8.toInt = (kv i.toNatClampNeg).toInt := congrArg Int32.toInt ey_8
                  refine lv_istore_n (lv' := [(3, .int y_8), (2, .int k), (1, .int i), (0, .ref h0)]) hx hb dX5_sorts_40 rfl hl (by decide) rfl (fun ls hl => ?_)
                  refine lv_aload_n hx hb dX5_sorts_41 rfl (lv_at hl 3 rfl) ?_
                  refine va_get (D := (dC, dI)) (ci := 5) (v := .ref g_allValue) (C := RX5) (T := TX5) (N := 30) hx hb hts hi_5 hown hK hP 0 rfl rfl 9 (by decide) hf_32 (fun _ h9 => h9) rfl dX5_sorts_42 ?_
                  refine lv_iload_n hx hb dX5_sorts_45 rfl (lv_at hl 2 rfl) ?_
                  refine lv_aload_n hx hb dX5_sorts_46 rfl (lv_at hl 3 rfl) ?_
                  refine va_get (D := (dC, dI)) (ci := 5) (v := .ref g_allValue) (C := RX5) (T := TX5) (N := 30) hx hb hts hi_5 hown hK hP 0 rfl rfl 9 (by decide) hf_32 (fun _ h9 => h9) rfl dX5_sorts_47 ?_
                  refine lv_iload_n hx hb dX5_sorts_50 rfl (lv_at hl 1 rfl) ?_
                  refine va_iald hx hb hK hP 1 0 rfl rfl (ki_in (om_21 LP1_h0 LP2_h0) (om_32 b1 i_3)) dX5_sorts_51 ?_
                  refine lv_topi (fun y_9 ey_9 => ?_)
                  have j_9 : y_9.toInt = (kv k.toNatClampNeg).toInt := congrArg Int32.toInt ey_9
                  refine va_iast hx hb hK hP hD hS 1 0 rfl rfl (ki_in (om_10 LP1_h0) (om_295 b1 LP1_h1 LP2_h0 i_3)) dX5_sorts_52 (fun H locs hP hD hS => ?_)
                  obtain ⟨hP, hD⟩ := kx_re (w2 := [kx_5 h0 g_row m_n m_slots m_thrown g_many g_loss g_less g_voteValue g_voteNumber g_allValue g_allNumber m_allMany g_nodeL g_nodeR m_nodes g_part m_partMany g_wasMany g_wasLoss g_wasValue g_wasNumber g_path m_pathMany g_heavyValue g_heavyTimes m_heavyMany g_fewest g_which g_met m_mostMet, kx_a g_allValue cyI 12 (upd kv i.toNatClampNeg y_9), kx_a g_allNumber cyI 12 kn]) hP hD rfl
                  refine lv_aload_n hx hb dX5_sorts_53 rfl (lv_at hl 3 rfl) ?_
                  refine va_get (D := (dC, dI)) (ci := 5) (v := .ref g_allValue) (C := RX5) (T := TX5) (N := 30) hx hb hts hi_5 hown hK hP 0 rfl rfl 9 (by decide) hf_32 (fun _ h9 => h9) rfl dX5_sorts_54 ?_
                  refine lv_iload_n hx hb dX5_sorts_57 rfl (lv_at hl 1 rfl) ?_
                  refine lv_iload_n hx hb dX5_sorts_58 rfl (lv_at hl 0 rfl) ?_
                  refine va_iast hx hb hK hP hD hS 1 0 rfl rfl (ki_in (om_21 LP1_h0 LP2_h0) (om_32 b1 i_3)) dX5_sorts_59 (fun H locs hP hD hS => ?_)
                  obtain ⟨hP, hD⟩ := kx_re (w2 := [kx_5 h0 g_row m_n m_slots m_thrown g_many g_loss g_less g_voteValue g_voteNumber g_allValue g_allNumber m_allMany g_nodeL g_nodeR m_nodes g_part m_partMany g_wasMany g_wasLoss g_wasValue g_wasNumber g_path m_pathMany g_heavyValue g_heavyTimes m_heavyMany g_fewest g_which g_met m_mostMet, kx_a g_allValue cyI 12 (upd (upd kv i.toNatClampNeg y_9) k.toNatClampNeg y_8), kx_a g_allNumber cyI 12 kn]) hP hD rfl
                  refine lv_aload_n hx hb dX5_sorts_60 rfl (lv_at hl 3 rfl) ?_
                  refine va_get (D := (dC, dI)) (ci := 5) (v := .ref g_allNumber) (C := RX5) (T := TX5) (N := 30) hx hb hts hi_5 hown hK hP 0 rfl rfl 10 (by decide) hf_35 (fun _ h9 => h9) rfl dX5_sorts_61 ?_
                  refine lv_iload_n hx hb dX5_sorts_64 rfl (lv_at hl 2 rfl) ?_
                  refine va_iald hx hb hK hP 2 0 rfl rfl (ki_in (om_10 LP1_h0) (om_295 b1 LP1_h1 LP2_h0 i_3)) dX5_sorts_65 ?_
                  refine lv_topi (fun y_10 ey_10 => ?_)
                  have j_10 : y_10.toInt = (kn i.toNatClampNeg).toInt := congrArg Int32.toInt ey_10
                  refine lv_istore_n (lv' := [(3, .int y_10), (2, .int k), (1, .int i), (0, .ref h0)]) hx hb dX5_sorts_66 rfl hl (by decide) rfl (fun ls hl => ?_)
                  refine lv_aload_n hx hb dX5_sorts_67 rfl (lv_at hl 3 rfl) ?_
                  refine va_get (D := (dC, dI)) (ci := 5) (v := .ref g_allNumber) (C := RX5) (T := TX5) (N := 30) hx hb hts hi_5 hown hK hP 0 rfl rfl 10 (by decide) hf_35 (fun _ h9 => h9) rfl dX5_sorts_68 ?_
                  refine lv_iload_n hx hb dX5_sorts_71 rfl (lv_at hl 2 rfl) ?_
                  refine lv_aload_n hx hb dX5_sorts_72 rfl (lv_at hl 3 rfl) ?_
                  refine va_get (D := (dC, dI)) (ci := 5) (v := .ref g_allNumber) (C := RX5) (T := TX5) (N := 30) hx hb hts hi_5 hown hK hP 0 rfl rfl 10 (by decide) hf_35 (fun _ h9 => h9) rfl dX5_sorts_73 ?_
                  refine lv_iload_n hx hb dX5_sorts_76 rfl (lv_at hl 1 rfl) ?_
                  refine va_iald hx hb hK hP 2 0 rfl rfl (ki_in (om_21 LP1_h0 LP2_h0) (om_32 b1 i_3)) dX5_sorts_77 ?_
                  refine lv_topi (fun y_11 ey_11 => ?_)
                  have j_11 : y_11.toInt = (kn k.toNatClampNeg).toInt := congrArg Int32.toInt ey_11
                  refine va_iast hx hb hK hP hD hS 2 0 rfl rfl (ki_in (om_10 LP1_h0) (om_295 b1 LP1_h1 LP2_h0 i_3)) dX5_sorts_78 (fun H locs hP hD hS => ?_)
                  obtain ⟨hP, hD⟩ := kx_re (w2 := [kx_5 h0 g_row m_n m_slots m_thrown g_many g_loss g_less g_voteValue g_voteNumber g_allValue g_allNumber m_allMany g_nodeL g_nodeR m_nodes g_part m_partMany g_wasMany g_wasLoss g_wasValue g_wasNumber g_path m_pathMany g_heavyValue g_heavyTimes m_heavyMany g_fewest g_which g_met m_mostMet, kx_a g_allValue cyI 12 (upd (upd kv i.toNatClampNeg y_9) k.toNatClampNeg y_8), kx_a g_allNumber cyI 12 (upd kn i.toNatClampNeg y_11)]) hP hD rfl
                  refine lv_aload_n hx hb dX5_sorts_79 rfl (lv_at hl 3 rfl) ?_
                  refine va_get (D := (dC, dI)) (ci := 5) (v := .ref g_allNumber) (C := RX5) (T := TX5) (N := 30) hx hb hts hi_5 hown hK hP 0 rfl rfl 10 (by decide) hf_35 (fun _ h9 => h9) rfl dX5_sorts_80 ?_
                  refine lv_iload_n hx hb dX5_sorts_83 rfl (lv_at hl 1 rfl) ?_
                  refine lv_iload_n hx hb dX5_sorts_84 rfl (lv_at hl 0 rfl) ?_
                  refine va_iast hx hb hK hP hD hS 2 0 rfl rfl (ki_in (om_21 LP1_h0 LP2_h0) (om_32 b1 i_3)) dX5_sorts_85 (fun H locs hP hD hS => ?_)
                  obtain ⟨hP, hD⟩ := kx_re (w2 := [kx_5 h0 g_row m_n m_slots m_thrown g_many g_loss g_less g_voteValue g_voteNumber g_allValue g_allNumber m_allMany g_nodeL g_nodeR m_nodes g_part m_partMany g_wasMany g_wasLoss g_wasValue g_wasNumber g_path m_pathMany g_heavyValue g_heavyTimes m_heavyMany g_fewest g_which g_met m_mostMet, kx_a g_allValue cyI 12 (upd (upd kv i.toNatClampNeg y_9) k.toNatClampNeg y_8), kx_a g_allNumber cyI 12 (upd (upd kn i.toNatClampNeg y_11) k.toNatClampNeg y_10)]) hP hD rfl
                  obtain ⟨x_12, ex_12⟩ : ∃ y : Int32, y = k + 1 := ⟨_, rfl⟩
                  have i_12 : x_12.toInt = k.toInt + 1 := ki_add ex_12 rfl rfl (om_296 LP1_h0 LP2_h0) (om_297 LP2_h1)
                  refine lv_iinc (v := x_12) (lv' := [(2, .int x_12), (3, .int y_10), (1, .int i), (0, .ref h0)]) hx hb dX5_sorts_86 hl (k := 1) rfl (by rw [ex_12]; rfl) (by decide) rfl (fun ls hl => ?_)
                  refine lv_goto (tgt := 14) hx hb dX5_sorts_89 (by decide) ?_
                  have n_13 := ki_nat x_12 rfl (om_300 LP1_h0 LP2_h0 i_12)
                  exact ih2 x_12 (upd (upd kv i.toNatClampNeg y_9) k.toNatClampNeg y_8) (upd (upd kn i.toNatClampNeg y_11) k.toNatClampNeg y_10) (om_298 LP2_h0 i_12) (om_299 b1 LP2_h1 i_3 i_12) (by rw [ey_9, ey_8, ey_11, ey_10, show x_12.toNatClampNeg = k.toNatClampNeg + 1 by omega]; exact (show mj_so (mj_ex kv i.toNatClampNeg k.toNatClampNeg) (mj_ex kn i.toNatClampNeg k.toNatClampNeg) m_allMany.toNatClampNeg i.toNatClampNeg (k.toNatClampNeg + 1) from mj_so_swap (by omega) (by omega) LP2_h2 (by unfold mj_lea; omega))) (fun mu h => (by rw [ey_9, ey_8, ey_11, ey_10]; exact (show mj_vs (mj_ex kv i.toNatClampNeg k.toNatClampNeg) (mj_ex kn i.toNatClampNeg k.toNatClampNeg) 0 m_allMany.toNatClampNeg mu from mj_vs_ex (by omega) (by omega) (LP2_h3 mu h)))) (om_mu hn2 (om_5 i_12) (om_6 i_3)) _ _ hP hD hS ls (lv_sub hl [0, 2, 3] rfl)
                · exact absurd c_7 (by decide)
              · have w_6 : ((kn k.toNatClampNeg).toInt < (kn i.toNatClampNeg).toInt ∨ ((kn k.toNatClampNeg).toInt = (kn i.toNatClampNeg).toInt ∧ (kv i.toNatClampNeg).toInt ≤ (kv k.toNatClampNeg).toInt)) := w_6
                refine lv_if_ne (tgt := 34) hx hb dX5_sorts_28 (by decide) (fun c_14 => ?_) (fun c_14 => ?_)
                · exact absurd c_14 (by decide)
                · refine lv_goto (tgt := 86) hx hb dX5_sorts_31 (by decide) ?_
                  obtain ⟨x_15, ex_15⟩ : ∃ y : Int32, y = k + 1 := ⟨_, rfl⟩
                  have i_15 : x_15.toInt = k.toInt + 1 := ki_add ex_15 rfl rfl (om_296 LP1_h0 LP2_h0) (om_297 LP2_h1)
                  refine lv_iinc (v := x_15) (lv' := [(2, .int x_15), (1, .int i), (0, .ref h0)]) hx hb dX5_sorts_86 hl (k := 0) rfl (by rw [ex_15]; rfl) (by decide) rfl (fun ls hl => ?_)
                  refine lv_goto (tgt := 14) hx hb dX5_sorts_89 (by decide) ?_
                  have n_16 := ki_nat x_15 rfl (om_300 LP1_h0 LP2_h0 i_15)
                  exact ih2 x_15 kv kn (om_298 LP2_h0 i_15) (om_299 b1 LP2_h1 i_3 i_15) (by rw [show x_15.toNatClampNeg = k.toNatClampNeg + 1 by omega]; exact mj_so_keep LP2_h2 (by unfold mj_lea; omega)) LP2_h3 (om_mu hn2 (om_5 i_15) (om_6 i_3)) _ _ hP hD hS ls (lv_sub hl [0, 1, 2] rfl)
        have n_17 := ki_nat y_2 rfl (by omega)
        exact LP2 ((m_allMany.toInt - y_2.toInt : Int).toNat + 1) y_2 gv gn (om_301 i_2) (om_302 LP1_h1 i_2) (by rw [show y_2.toNatClampNeg = i.toNatClampNeg + 1 by omega]; exact LP1_h2) LP1_h3 (Nat.lt_succ_self _) _ _ hP hD hS ls (lv_sub hl [0, 1, 2] rfl)
  have k_18 : (0 : Int32).toInt = 0 := rfl
  exact LP1 ((m_allMany.toInt - 0 : Int).toNat + 1) 0 av an om_35 om_104 (mj_so_0 _ _ rfl (Nat.le_refl _)) (fun mu h => h) (Nat.lt_succ_self _) _ _ hP hD hS ls (lv_sub hl [0, 1] rfl)



abbrev cX5_together : ByteArray := prog_7_method_12_code
def yX5_together : MethodName := ⟨RX5, "together", "(IIII)V"⟩
def wsX5_together : List Cond := .code yX5_together cX5_together 9 none :: ([.fieldLink RX5 87 "MajorityIndexModel" "allMany" "I", .fieldLink RX5 17 "MajorityIndexModel" "many" "[I", .fieldLink RX5 26 "MajorityIndexModel" "voteValue" "[I", .fieldLink RX5 29 "MajorityIndexModel" "voteNumber" "[I", .fieldLink RX5 35 "MajorityIndexModel" "allNumber" "[I", .fieldLink RX5 20 "MajorityIndexModel" "loss" "[I", .fieldLink RX5 32 "MajorityIndexModel" "allValue" "[I", .fieldLink RX5 23 "MajorityIndexModel" "less" "[I", .methodLink RX5 94 yX5_adds, .instanceMethod yX5_adds, .selects RX5 yX5_adds yX5_adds, .initialized RX5, .code yX5_adds cX5_adds 4 none, .methodLink RX5 98 yX5_sorts, .instanceMethod yX5_sorts, .selects RX5 yX5_sorts yX5_sorts, .code yX5_sorts cX5_sorts 4 none, .methodLink RX5 90 yX5_isAhead, .instanceMethod yX5_isAhead, .selects RX5 yX5_isAhead yX5_isAhead, .code yX5_isAhead cX5_isAhead 3 (some .boolean)] ++ wsX50)
set_option maxRecDepth 20000 in
theorem ggX5_together_X5_adds : GoodIn wsX5_together wsX5_adds := goodIn_r _ [13, 1, 7, 5, 22, 23, 24, 25, 26, 27, 28, 29, 30, 31, 32, 33, 34, 35, 36, 37, 38, 39, 40, 41, 42, 43, 44, 45, 46, 47, 48, 49, 50, 51] rfl (by decide +kernel)
set_option maxRecDepth 20000 in
theorem gX5_together_X5_adds : GoodIn wsX5_together (wsV RX5 94 RX5 yX5_adds wsX5_adds) := goodIn_app (goodIn_r _ [9, 10, 11, 12] rfl (by decide +kernel)) ggX5_together_X5_adds
set_option maxRecDepth 20000 in
theorem ggX5_together_X5_sorts : GoodIn wsX5_together wsX5_sorts := goodIn_r _ [17, 1, 7, 5, 18, 19, 20, 12, 21, 22, 23, 24, 25, 26, 27, 28, 29, 30, 31, 32, 33, 34, 35, 36, 37, 38, 39, 40, 41, 42, 43, 44, 45, 46, 47, 48, 49, 50, 51] rfl (by decide +kernel)
set_option maxRecDepth 20000 in
theorem gX5_together_X5_sorts : GoodIn wsX5_together (wsV RX5 98 RX5 yX5_sorts wsX5_sorts) := goodIn_app (goodIn_r _ [14, 15, 16, 12] rfl (by decide +kernel)) ggX5_together_X5_sorts
def dt_cX5_together_0 : List (Nat × Nat × Nat × Nat) := [(0, 42, 0, 0), (1, 3, 0, 0), (2, 181, 2, 87), (5, 3, 0, 0), (6, 54, 1, 5), (8, 21, 1, 5), (10, 42, 0, 0), (11, 180, 2, 17), (14, 27, 0, 0), (15, 46, 0, 0), (16, 162, 2, 37), (19, 42, 0, 0), (20, 42, 0, 0), (21, 180, 2, 26), (24, 16, 1, 6), (26, 27, 0, 0), (27, 104, 0, 0), (28, 21, 1, 5), (30, 96, 0, 0), (31, 46, 0, 0)]
theorem da_cX5_together_0 : fw dt_cX5_together_0 0 cX5_together.data.toList = true := by decide +kernel
theorem dX5_together_0 : decode cX5_together 0 = .ok (.aload_n 0, 1) := fo_42 (fw_get da_cX5_together_0 0 rfl)
theorem dX5_together_1 : decode cX5_together 1 = .ok (.iconst 0, 1) := fo_3 (fw_get da_cX5_together_0 1 rfl)
theorem dX5_together_2 : decode cX5_together 2 = .ok (.putfield 87, 3) := fo_181 (fw_get da_cX5_together_0 2 rfl)
theorem dX5_together_5 : decode cX5_together 5 = .ok (.iconst 0, 1) := fo_3 (fw_get da_cX5_together_0 3 rfl)
theorem dX5_together_6 : decode cX5_together 6 = .ok (.istore 5, 2) := fo_54 (fw_get da_cX5_together_0 4 rfl)
theorem dX5_together_8 : decode cX5_together 8 = .ok (.iload 5, 2) := fo_21 (fw_get da_cX5_together_0 5 rfl)
theorem dX5_together_10 : decode cX5_together 10 = .ok (.aload_n 0, 1) := fo_42 (fw_get da_cX5_together_0 6 rfl)
theorem dX5_together_11 : decode cX5_together 11 = .ok (.getfield 17, 3) := fo_180 (fw_get da_cX5_together_0 7 rfl)
theorem dX5_together_14 : decode cX5_together 14 = .ok (.iload_n 1, 1) := fo_27 (fw_get da_cX5_together_0 8 rfl)
theorem dX5_together_15 : decode cX5_together 15 = .ok (.iaload, 1) := fo_46 (fw_get da_cX5_together_0 9 rfl)
theorem dX5_together_16 : decode cX5_together 16 = .ok (.if_icmp .ge 37, 3) := fo_162 (fw_get da_cX5_together_0 10 rfl) (by decide +kernel)
theorem dX5_together_19 : decode cX5_together 19 = .ok (.aload_n 0, 1) := fo_42 (fw_get da_cX5_together_0 11 rfl)
theorem dX5_together_20 : decode cX5_together 20 = .ok (.aload_n 0, 1) := fo_42 (fw_get da_cX5_together_0 12 rfl)
theorem dX5_together_21 : decode cX5_together 21 = .ok (.getfield 26, 3) := fo_180 (fw_get da_cX5_together_0 13 rfl)
theorem dX5_together_24 : decode cX5_together 24 = .ok (.bipush 6, 2) := fo_16 (fw_get da_cX5_together_0 14 rfl) (by decide +kernel)
theorem dX5_together_26 : decode cX5_together 26 = .ok (.iload_n 1, 1) := fo_27 (fw_get da_cX5_together_0 15 rfl)
theorem dX5_together_27 : decode cX5_together 27 = .ok (.imul, 1) := fo_104 (fw_get da_cX5_together_0 16 rfl)
theorem dX5_together_28 : decode cX5_together 28 = .ok (.iload 5, 2) := fo_21 (fw_get da_cX5_together_0 17 rfl)
theorem dX5_together_30 : decode cX5_together 30 = .ok (.iadd, 1) := fo_96 (fw_get da_cX5_together_0 18 rfl)
theorem dX5_together_31 : decode cX5_together 31 = .ok (.iaload, 1) := fo_46 (fw_get da_cX5_together_0 19 rfl)
def dt_cX5_together_1 : List (Nat × Nat × Nat × Nat) := [(32, 42, 0, 0), (33, 180, 2, 29), (36, 16, 1, 6), (38, 27, 0, 0), (39, 104, 0, 0), (40, 21, 1, 5), (42, 96, 0, 0), (43, 46, 0, 0), (44, 182, 2, 94), (47, 132, 2, 1281), (50, 167, 2, 65494), (53, 3, 0, 0), (54, 54, 1, 5), (56, 21, 1, 5), (58, 42, 0, 0), (59, 180, 2, 17), (62, 28, 0, 0), (63, 46, 0, 0), (64, 162, 2, 37), (67, 42, 0, 0)]
theorem da_cX5_together_1 : fw dt_cX5_together_1 0 cX5_together.data.toList = true := by decide +kernel
theorem dX5_together_32 : decode cX5_together 32 = .ok (.aload_n 0, 1) := fo_42 (fw_get da_cX5_together_1 0 rfl)
theorem dX5_together_33 : decode cX5_together 33 = .ok (.getfield 29, 3) := fo_180 (fw_get da_cX5_together_1 1 rfl)
theorem dX5_together_36 : decode cX5_together 36 = .ok (.bipush 6, 2) := fo_16 (fw_get da_cX5_together_1 2 rfl) (by decide +kernel)
theorem dX5_together_38 : decode cX5_together 38 = .ok (.iload_n 1, 1) := fo_27 (fw_get da_cX5_together_1 3 rfl)
theorem dX5_together_39 : decode cX5_together 39 = .ok (.imul, 1) := fo_104 (fw_get da_cX5_together_1 4 rfl)
theorem dX5_together_40 : decode cX5_together 40 = .ok (.iload 5, 2) := fo_21 (fw_get da_cX5_together_1 5 rfl)
theorem dX5_together_42 : decode cX5_together 42 = .ok (.iadd, 1) := fo_96 (fw_get da_cX5_together_1 6 rfl)
theorem dX5_together_43 : decode cX5_together 43 = .ok (.iaload, 1) := fo_46 (fw_get da_cX5_together_1 7 rfl)
theorem dX5_together_44 : decode cX5_together 44 = .ok (.invokevirtual 94, 3) := fo_182 (fw_get da_cX5_together_1 8 rfl)
theorem dX5_together_47 : decode cX5_together 47 = .ok (.iinc 5 1, 3) := fo_132 (fw_get da_cX5_together_1 9 rfl) rfl (by decide +kernel)
theorem dX5_together_50 : decode cX5_together 50 = .ok (.goto (-42), 3) := fo_167 (fw_get da_cX5_together_1 10 rfl) (by decide +kernel)
theorem dX5_together_53 : decode cX5_together 53 = .ok (.iconst 0, 1) := fo_3 (fw_get da_cX5_together_1 11 rfl)
theorem dX5_together_54 : decode cX5_together 54 = .ok (.istore 5, 2) := fo_54 (fw_get da_cX5_together_1 12 rfl)
theorem dX5_together_56 : decode cX5_together 56 = .ok (.iload 5, 2) := fo_21 (fw_get da_cX5_together_1 13 rfl)
theorem dX5_together_58 : decode cX5_together 58 = .ok (.aload_n 0, 1) := fo_42 (fw_get da_cX5_together_1 14 rfl)
theorem dX5_together_59 : decode cX5_together 59 = .ok (.getfield 17, 3) := fo_180 (fw_get da_cX5_together_1 15 rfl)
theorem dX5_together_62 : decode cX5_together 62 = .ok (.iload_n 2, 1) := fo_28 (fw_get da_cX5_together_1 16 rfl)
theorem dX5_together_63 : decode cX5_together 63 = .ok (.iaload, 1) := fo_46 (fw_get da_cX5_together_1 17 rfl)
theorem dX5_together_64 : decode cX5_together 64 = .ok (.if_icmp .ge 37, 3) := fo_162 (fw_get da_cX5_together_1 18 rfl) (by decide +kernel)
theorem dX5_together_67 : decode cX5_together 67 = .ok (.aload_n 0, 1) := fo_42 (fw_get da_cX5_together_1 19 rfl)
def dt_cX5_together_2 : List (Nat × Nat × Nat × Nat) := [(68, 42, 0, 0), (69, 180, 2, 26), (72, 16, 1, 6), (74, 28, 0, 0), (75, 104, 0, 0), (76, 21, 1, 5), (78, 96, 0, 0), (79, 46, 0, 0), (80, 42, 0, 0), (81, 180, 2, 29), (84, 16, 1, 6), (86, 28, 0, 0), (87, 104, 0, 0), (88, 21, 1, 5), (90, 96, 0, 0), (91, 46, 0, 0), (92, 182, 2, 94), (95, 132, 2, 1281), (98, 167, 2, 65494), (101, 42, 0, 0)]
theorem da_cX5_together_2 : fw dt_cX5_together_2 0 cX5_together.data.toList = true := by decide +kernel
theorem dX5_together_68 : decode cX5_together 68 = .ok (.aload_n 0, 1) := fo_42 (fw_get da_cX5_together_2 0 rfl)
theorem dX5_together_69 : decode cX5_together 69 = .ok (.getfield 26, 3) := fo_180 (fw_get da_cX5_together_2 1 rfl)
theorem dX5_together_72 : decode cX5_together 72 = .ok (.bipush 6, 2) := fo_16 (fw_get da_cX5_together_2 2 rfl) (by decide +kernel)
theorem dX5_together_74 : decode cX5_together 74 = .ok (.iload_n 2, 1) := fo_28 (fw_get da_cX5_together_2 3 rfl)
theorem dX5_together_75 : decode cX5_together 75 = .ok (.imul, 1) := fo_104 (fw_get da_cX5_together_2 4 rfl)
theorem dX5_together_76 : decode cX5_together 76 = .ok (.iload 5, 2) := fo_21 (fw_get da_cX5_together_2 5 rfl)
theorem dX5_together_78 : decode cX5_together 78 = .ok (.iadd, 1) := fo_96 (fw_get da_cX5_together_2 6 rfl)
theorem dX5_together_79 : decode cX5_together 79 = .ok (.iaload, 1) := fo_46 (fw_get da_cX5_together_2 7 rfl)
theorem dX5_together_80 : decode cX5_together 80 = .ok (.aload_n 0, 1) := fo_42 (fw_get da_cX5_together_2 8 rfl)
theorem dX5_together_81 : decode cX5_together 81 = .ok (.getfield 29, 3) := fo_180 (fw_get da_cX5_together_2 9 rfl)
theorem dX5_together_84 : decode cX5_together 84 = .ok (.bipush 6, 2) := fo_16 (fw_get da_cX5_together_2 10 rfl) (by decide +kernel)
theorem dX5_together_86 : decode cX5_together 86 = .ok (.iload_n 2, 1) := fo_28 (fw_get da_cX5_together_2 11 rfl)
theorem dX5_together_87 : decode cX5_together 87 = .ok (.imul, 1) := fo_104 (fw_get da_cX5_together_2 12 rfl)
theorem dX5_together_88 : decode cX5_together 88 = .ok (.iload 5, 2) := fo_21 (fw_get da_cX5_together_2 13 rfl)
theorem dX5_together_90 : decode cX5_together 90 = .ok (.iadd, 1) := fo_96 (fw_get da_cX5_together_2 14 rfl)
theorem dX5_together_91 : decode cX5_together 91 = .ok (.iaload, 1) := fo_46 (fw_get da_cX5_together_2 15 rfl)
theorem dX5_together_92 : decode cX5_together 92 = .ok (.invokevirtual 94, 3) := fo_182 (fw_get da_cX5_together_2 16 rfl)
theorem dX5_together_95 : decode cX5_together 95 = .ok (.iinc 5 1, 3) := fo_132 (fw_get da_cX5_together_2 17 rfl) rfl (by decide +kernel)
theorem dX5_together_98 : decode cX5_together 98 = .ok (.goto (-42), 3) := fo_167 (fw_get da_cX5_together_2 18 rfl) (by decide +kernel)
theorem dX5_together_101 : decode cX5_together 101 = .ok (.aload_n 0, 1) := fo_42 (fw_get da_cX5_together_2 19 rfl)
def dt_cX5_together_3 : List (Nat × Nat × Nat × Nat) := [(102, 182, 2, 98), (105, 42, 0, 0), (106, 180, 2, 87), (109, 21, 1, 4), (111, 164, 2, 13), (114, 42, 0, 0), (115, 180, 2, 35), (118, 21, 1, 4), (120, 46, 0, 0), (121, 167, 2, 4), (124, 3, 0, 0), (125, 54, 1, 5), (127, 42, 0, 0), (128, 180, 2, 20), (131, 27, 0, 0), (132, 46, 0, 0), (133, 42, 0, 0), (134, 180, 2, 20), (137, 28, 0, 0), (138, 46, 0, 0)]
theorem da_cX5_together_3 : fw dt_cX5_together_3 0 cX5_together.data.toList = true := by decide +kernel
theorem dX5_together_102 : decode cX5_together 102 = .ok (.invokevirtual 98, 3) := fo_182 (fw_get da_cX5_together_3 0 rfl)
theorem dX5_together_105 : decode cX5_together 105 = .ok (.aload_n 0, 1) := fo_42 (fw_get da_cX5_together_3 1 rfl)
theorem dX5_together_106 : decode cX5_together 106 = .ok (.getfield 87, 3) := fo_180 (fw_get da_cX5_together_3 2 rfl)
theorem dX5_together_109 : decode cX5_together 109 = .ok (.iload 4, 2) := fo_21 (fw_get da_cX5_together_3 3 rfl)
theorem dX5_together_111 : decode cX5_together 111 = .ok (.if_icmp .le 13, 3) := fo_164 (fw_get da_cX5_together_3 4 rfl) (by decide +kernel)
theorem dX5_together_114 : decode cX5_together 114 = .ok (.aload_n 0, 1) := fo_42 (fw_get da_cX5_together_3 5 rfl)
theorem dX5_together_115 : decode cX5_together 115 = .ok (.getfield 35, 3) := fo_180 (fw_get da_cX5_together_3 6 rfl)
theorem dX5_together_118 : decode cX5_together 118 = .ok (.iload 4, 2) := fo_21 (fw_get da_cX5_together_3 7 rfl)
theorem dX5_together_120 : decode cX5_together 120 = .ok (.iaload, 1) := fo_46 (fw_get da_cX5_together_3 8 rfl)
theorem dX5_together_121 : decode cX5_together 121 = .ok (.goto 4, 3) := fo_167 (fw_get da_cX5_together_3 9 rfl) (by decide +kernel)
theorem dX5_together_124 : decode cX5_together 124 = .ok (.iconst 0, 1) := fo_3 (fw_get da_cX5_together_3 10 rfl)
theorem dX5_together_125 : decode cX5_together 125 = .ok (.istore 5, 2) := fo_54 (fw_get da_cX5_together_3 11 rfl)
theorem dX5_together_127 : decode cX5_together 127 = .ok (.aload_n 0, 1) := fo_42 (fw_get da_cX5_together_3 12 rfl)
theorem dX5_together_128 : decode cX5_together 128 = .ok (.getfield 20, 3) := fo_180 (fw_get da_cX5_together_3 13 rfl)
theorem dX5_together_131 : decode cX5_together 131 = .ok (.iload_n 1, 1) := fo_27 (fw_get da_cX5_together_3 14 rfl)
theorem dX5_together_132 : decode cX5_together 132 = .ok (.iaload, 1) := fo_46 (fw_get da_cX5_together_3 15 rfl)
theorem dX5_together_133 : decode cX5_together 133 = .ok (.aload_n 0, 1) := fo_42 (fw_get da_cX5_together_3 16 rfl)
theorem dX5_together_134 : decode cX5_together 134 = .ok (.getfield 20, 3) := fo_180 (fw_get da_cX5_together_3 17 rfl)
theorem dX5_together_137 : decode cX5_together 137 = .ok (.iload_n 2, 1) := fo_28 (fw_get da_cX5_together_3 18 rfl)
theorem dX5_together_138 : decode cX5_together 138 = .ok (.iaload, 1) := fo_46 (fw_get da_cX5_together_3 19 rfl)
def dt_cX5_together_4 : List (Nat × Nat × Nat × Nat) := [(139, 96, 0, 0), (140, 21, 1, 5), (142, 96, 0, 0), (143, 54, 1, 6), (145, 3, 0, 0), (146, 54, 1, 7), (148, 3, 0, 0), (149, 54, 1, 8), (151, 21, 1, 8), (153, 42, 0, 0), (154, 180, 2, 87), (157, 162, 2, 69), (160, 42, 0, 0), (161, 180, 2, 35), (164, 21, 1, 8), (166, 46, 0, 0), (167, 21, 1, 5), (169, 100, 0, 0), (170, 157, 2, 6), (173, 167, 2, 47)]
theorem da_cX5_together_4 : fw dt_cX5_together_4 0 cX5_together.data.toList = true := by decide +kernel
theorem dX5_together_139 : decode cX5_together 139 = .ok (.iadd, 1) := fo_96 (fw_get da_cX5_together_4 0 rfl)
theorem dX5_together_140 : decode cX5_together 140 = .ok (.iload 5, 2) := fo_21 (fw_get da_cX5_together_4 1 rfl)
theorem dX5_together_142 : decode cX5_together 142 = .ok (.iadd, 1) := fo_96 (fw_get da_cX5_together_4 2 rfl)
theorem dX5_together_143 : decode cX5_together 143 = .ok (.istore 6, 2) := fo_54 (fw_get da_cX5_together_4 3 rfl)
theorem dX5_together_145 : decode cX5_together 145 = .ok (.iconst 0, 1) := fo_3 (fw_get da_cX5_together_4 4 rfl)
theorem dX5_together_146 : decode cX5_together 146 = .ok (.istore 7, 2) := fo_54 (fw_get da_cX5_together_4 5 rfl)
theorem dX5_together_148 : decode cX5_together 148 = .ok (.iconst 0, 1) := fo_3 (fw_get da_cX5_together_4 6 rfl)
theorem dX5_together_149 : decode cX5_together 149 = .ok (.istore 8, 2) := fo_54 (fw_get da_cX5_together_4 7 rfl)
theorem dX5_together_151 : decode cX5_together 151 = .ok (.iload 8, 2) := fo_21 (fw_get da_cX5_together_4 8 rfl)
theorem dX5_together_153 : decode cX5_together 153 = .ok (.aload_n 0, 1) := fo_42 (fw_get da_cX5_together_4 9 rfl)
theorem dX5_together_154 : decode cX5_together 154 = .ok (.getfield 87, 3) := fo_180 (fw_get da_cX5_together_4 10 rfl)
theorem dX5_together_157 : decode cX5_together 157 = .ok (.if_icmp .ge 69, 3) := fo_162 (fw_get da_cX5_together_4 11 rfl) (by decide +kernel)
theorem dX5_together_160 : decode cX5_together 160 = .ok (.aload_n 0, 1) := fo_42 (fw_get da_cX5_together_4 12 rfl)
theorem dX5_together_161 : decode cX5_together 161 = .ok (.getfield 35, 3) := fo_180 (fw_get da_cX5_together_4 13 rfl)
theorem dX5_together_164 : decode cX5_together 164 = .ok (.iload 8, 2) := fo_21 (fw_get da_cX5_together_4 14 rfl)
theorem dX5_together_166 : decode cX5_together 166 = .ok (.iaload, 1) := fo_46 (fw_get da_cX5_together_4 15 rfl)
theorem dX5_together_167 : decode cX5_together 167 = .ok (.iload 5, 2) := fo_21 (fw_get da_cX5_together_4 16 rfl)
theorem dX5_together_169 : decode cX5_together 169 = .ok (.isub, 1) := fo_100 (fw_get da_cX5_together_4 17 rfl)
theorem dX5_together_170 : decode cX5_together 170 = .ok (.ifCond .gt 6, 3) := fo_157 (fw_get da_cX5_together_4 18 rfl) (by decide +kernel)
theorem dX5_together_173 : decode cX5_together 173 = .ok (.goto 47, 3) := fo_167 (fw_get da_cX5_together_4 19 rfl) (by decide +kernel)
def dt_cX5_together_5 : List (Nat × Nat × Nat × Nat) := [(176, 42, 0, 0), (177, 180, 2, 26), (180, 16, 1, 6), (182, 29, 0, 0), (183, 104, 0, 0), (184, 21, 1, 7), (186, 96, 0, 0), (187, 42, 0, 0), (188, 180, 2, 32), (191, 21, 1, 8), (193, 46, 0, 0), (194, 79, 0, 0), (195, 42, 0, 0), (196, 180, 2, 29), (199, 16, 1, 6), (201, 29, 0, 0), (202, 104, 0, 0), (203, 21, 1, 7), (205, 96, 0, 0), (206, 42, 0, 0)]
theorem da_cX5_together_5 : fw dt_cX5_together_5 0 cX5_together.data.toList = true := by decide +kernel
theorem dX5_together_176 : decode cX5_together 176 = .ok (.aload_n 0, 1) := fo_42 (fw_get da_cX5_together_5 0 rfl)
theorem dX5_together_177 : decode cX5_together 177 = .ok (.getfield 26, 3) := fo_180 (fw_get da_cX5_together_5 1 rfl)
theorem dX5_together_180 : decode cX5_together 180 = .ok (.bipush 6, 2) := fo_16 (fw_get da_cX5_together_5 2 rfl) (by decide +kernel)
theorem dX5_together_182 : decode cX5_together 182 = .ok (.iload_n 3, 1) := fo_29 (fw_get da_cX5_together_5 3 rfl)
theorem dX5_together_183 : decode cX5_together 183 = .ok (.imul, 1) := fo_104 (fw_get da_cX5_together_5 4 rfl)
theorem dX5_together_184 : decode cX5_together 184 = .ok (.iload 7, 2) := fo_21 (fw_get da_cX5_together_5 5 rfl)
theorem dX5_together_186 : decode cX5_together 186 = .ok (.iadd, 1) := fo_96 (fw_get da_cX5_together_5 6 rfl)
theorem dX5_together_187 : decode cX5_together 187 = .ok (.aload_n 0, 1) := fo_42 (fw_get da_cX5_together_5 7 rfl)
theorem dX5_together_188 : decode cX5_together 188 = .ok (.getfield 32, 3) := fo_180 (fw_get da_cX5_together_5 8 rfl)
theorem dX5_together_191 : decode cX5_together 191 = .ok (.iload 8, 2) := fo_21 (fw_get da_cX5_together_5 9 rfl)
theorem dX5_together_193 : decode cX5_together 193 = .ok (.iaload, 1) := fo_46 (fw_get da_cX5_together_5 10 rfl)
theorem dX5_together_194 : decode cX5_together 194 = .ok (.iastore, 1) := fo_79 (fw_get da_cX5_together_5 11 rfl)
theorem dX5_together_195 : decode cX5_together 195 = .ok (.aload_n 0, 1) := fo_42 (fw_get da_cX5_together_5 12 rfl)
theorem dX5_together_196 : decode cX5_together 196 = .ok (.getfield 29, 3) := fo_180 (fw_get da_cX5_together_5 13 rfl)
theorem dX5_together_199 : decode cX5_together 199 = .ok (.bipush 6, 2) := fo_16 (fw_get da_cX5_together_5 14 rfl) (by decide +kernel)
theorem dX5_together_201 : decode cX5_together 201 = .ok (.iload_n 3, 1) := fo_29 (fw_get da_cX5_together_5 15 rfl)
theorem dX5_together_202 : decode cX5_together 202 = .ok (.imul, 1) := fo_104 (fw_get da_cX5_together_5 16 rfl)
theorem dX5_together_203 : decode cX5_together 203 = .ok (.iload 7, 2) := fo_21 (fw_get da_cX5_together_5 17 rfl)
theorem dX5_together_205 : decode cX5_together 205 = .ok (.iadd, 1) := fo_96 (fw_get da_cX5_together_5 18 rfl)
theorem dX5_together_206 : decode cX5_together 206 = .ok (.aload_n 0, 1) := fo_42 (fw_get da_cX5_together_5 19 rfl)
def dt_cX5_together_6 : List (Nat × Nat × Nat × Nat) := [(207, 180, 2, 35), (210, 21, 1, 8), (212, 46, 0, 0), (213, 21, 1, 5), (215, 100, 0, 0), (216, 79, 0, 0), (217, 132, 2, 1793), (220, 132, 2, 2049), (223, 167, 2, 65464), (226, 42, 0, 0), (227, 180, 2, 17), (230, 29, 0, 0), (231, 21, 1, 7), (233, 79, 0, 0), (234, 42, 0, 0), (235, 180, 2, 20), (238, 29, 0, 0), (239, 21, 1, 6), (241, 79, 0, 0), (242, 42, 0, 0)]
theorem da_cX5_together_6 : fw dt_cX5_together_6 0 cX5_together.data.toList = true := by decide +kernel
theorem dX5_together_207 : decode cX5_together 207 = .ok (.getfield 35, 3) := fo_180 (fw_get da_cX5_together_6 0 rfl)
theorem dX5_together_210 : decode cX5_together 210 = .ok (.iload 8, 2) := fo_21 (fw_get da_cX5_together_6 1 rfl)
theorem dX5_together_212 : decode cX5_together 212 = .ok (.iaload, 1) := fo_46 (fw_get da_cX5_together_6 2 rfl)
theorem dX5_together_213 : decode cX5_together 213 = .ok (.iload 5, 2) := fo_21 (fw_get da_cX5_together_6 3 rfl)
theorem dX5_together_215 : decode cX5_together 215 = .ok (.isub, 1) := fo_100 (fw_get da_cX5_together_6 4 rfl)
theorem dX5_together_216 : decode cX5_together 216 = .ok (.iastore, 1) := fo_79 (fw_get da_cX5_together_6 5 rfl)
theorem dX5_together_217 : decode cX5_together 217 = .ok (.iinc 7 1, 3) := fo_132 (fw_get da_cX5_together_6 6 rfl) rfl (by decide +kernel)
theorem dX5_together_220 : decode cX5_together 220 = .ok (.iinc 8 1, 3) := fo_132 (fw_get da_cX5_together_6 7 rfl) rfl (by decide +kernel)
theorem dX5_together_223 : decode cX5_together 223 = .ok (.goto (-72), 3) := fo_167 (fw_get da_cX5_together_6 8 rfl) (by decide +kernel)
theorem dX5_together_226 : decode cX5_together 226 = .ok (.aload_n 0, 1) := fo_42 (fw_get da_cX5_together_6 9 rfl)
theorem dX5_together_227 : decode cX5_together 227 = .ok (.getfield 17, 3) := fo_180 (fw_get da_cX5_together_6 10 rfl)
theorem dX5_together_230 : decode cX5_together 230 = .ok (.iload_n 3, 1) := fo_29 (fw_get da_cX5_together_6 11 rfl)
theorem dX5_together_231 : decode cX5_together 231 = .ok (.iload 7, 2) := fo_21 (fw_get da_cX5_together_6 12 rfl)
theorem dX5_together_233 : decode cX5_together 233 = .ok (.iastore, 1) := fo_79 (fw_get da_cX5_together_6 13 rfl)
theorem dX5_together_234 : decode cX5_together 234 = .ok (.aload_n 0, 1) := fo_42 (fw_get da_cX5_together_6 14 rfl)
theorem dX5_together_235 : decode cX5_together 235 = .ok (.getfield 20, 3) := fo_180 (fw_get da_cX5_together_6 15 rfl)
theorem dX5_together_238 : decode cX5_together 238 = .ok (.iload_n 3, 1) := fo_29 (fw_get da_cX5_together_6 16 rfl)
theorem dX5_together_239 : decode cX5_together 239 = .ok (.iload 6, 2) := fo_21 (fw_get da_cX5_together_6 17 rfl)
theorem dX5_together_241 : decode cX5_together 241 = .ok (.iastore, 1) := fo_79 (fw_get da_cX5_together_6 18 rfl)
theorem dX5_together_242 : decode cX5_together 242 = .ok (.aload_n 0, 1) := fo_42 (fw_get da_cX5_together_6 19 rfl)
def dt_cX5_together_7 : List (Nat × Nat × Nat × Nat) := [(243, 180, 2, 23), (246, 29, 0, 0), (247, 21, 1, 5), (249, 79, 0, 0), (250, 177, 0, 0)]
theorem da_cX5_together_7 : fw dt_cX5_together_7 0 cX5_together.data.toList = true := by decide +kernel
theorem dX5_together_243 : decode cX5_together 243 = .ok (.getfield 23, 3) := fo_180 (fw_get da_cX5_together_7 0 rfl)
theorem dX5_together_246 : decode cX5_together 246 = .ok (.iload_n 3, 1) := fo_29 (fw_get da_cX5_together_7 1 rfl)
theorem dX5_together_247 : decode cX5_together 247 = .ok (.iload 5, 2) := fo_21 (fw_get da_cX5_together_7 2 rfl)
theorem dX5_together_249 : decode cX5_together 249 = .ok (.iastore, 1) := fo_79 (fw_get da_cX5_together_7 3 rfl)
theorem dX5_together_250 : decode cX5_together 250 = .ok (.return_, 1) := fo_177 (fw_get da_cX5_together_7 4 rfl)


set_option maxHeartbeats 4000000 in
set_option maxRecDepth 100000 in
theorem c_X5_together (l : Launch) (dC : Nat → ClassId) (dI : Nat → Nat → Nat) (h0 : Nat) (g_row : Nat) (g_many : Nat) (g_loss : Nat) (g_less : Nat) (g_voteValue : Nat) (g_voteNumber : Nat) (g_allValue : Nat) (g_allNumber : Nat) (g_nodeL : Nat) (g_nodeR : Nat) (g_part : Nat) (g_wasMany : Nat) (g_wasLoss : Nat) (g_wasValue : Nat) (g_wasNumber : Nat) (g_path : Nat) (g_heavyValue : Nat) (g_heavyTimes : Nat) (g_fewest : Nat) (g_which : Nat) (g_met : Nat) (m_n : Int32) (m_slots : Int32) (m_thrown : Int32) (m_allMany : Int32) (m_nodes : Int32) (m_partMany : Int32) (m_pathMany : Int32) (m_heavyMany : Int32) (m_mostMet : Int32) (cyI : ClassId) (fm : Nat → Int32) (fl : Nat → Int32) (fe : Nat → Int32) (vv : Nat → Int32) (vn : Nat → Int32) (av : Nat → Int32) (an : Nat → Int32) (mua : Int32 → Int) (mub : Int32 → Int) (p0 : Int32) (p1 : Int32) (p2 : Int32) (p3 : Int32) (sz : Nat) (b0 : 0 ≤ p0.toInt) (b1 : p0.toInt < 324) (b2 : 0 ≤ p1.toInt) (b3 : p1.toInt < 324) (b4 : 0 ≤ p2.toInt) (b5 : p2.toInt ≤ 322) (b6 : 0 ≤ p3.toInt) (b7 : p3.toInt ≤ 6) (m0 : 0 ≤ (fm p0.toNatClampNeg).toInt) (m1 : (fm p0.toNatClampNeg).toInt ≤ 6) (m2 : 0 ≤ (fm p1.toNatClampNeg).toInt) (m3 : (fm p1.toNatClampNeg).toInt ≤ 6) (va : mj_vs vv vn (6 * p0.toNatClampNeg) (fm p0.toNatClampNeg).toNatClampNeg mua) (vb : mj_vs vv vn (6 * p1.toNatClampNeg) (fm p1.toNatClampNeg).toNatClampNeg mub) (bd : ∀ v : Int32, mua v + mub v ≤ 1000000) : kx_MQ l (dC, dI) yX5_together wsX5_together ({ frames := 2, cells := 0, slots := 0, locals := 90 }) [.ref h0, .int p0, .int p1, .int p2, .int p3] [kx_5 h0 g_row m_n m_slots m_thrown g_many g_loss g_less g_voteValue g_voteNumber g_allValue g_allNumber m_allMany g_nodeL g_nodeR m_nodes g_part m_partMany g_wasMany g_wasLoss g_wasValue g_wasNumber g_path m_pathMany g_heavyValue g_heavyTimes m_heavyMany g_fewest g_which g_met m_mostMet, kx_a g_many cyI 324 fm, kx_a g_loss cyI 324 fl, kx_a g_less cyI 324 fe, kx_a g_voteValue cyI 1944 vv, kx_a g_voteNumber cyI 1944 vn, kx_a g_allValue cyI 12 av, kx_a g_allNumber cyI 12 an] [(cyI, .int)] sz (fun A => va_Qv (fun u : Int32 × Int32 × Int32 × (Int32 → Int) × (Nat → Int32) × (Nat → Int32) × (Nat → Int32) × (Nat → Int32) × (Nat → Int32) × (Nat → Int32) × (Nat → Int32) => mj_tog p3.toNatClampNeg mua mub u.2.2.2.1 u.2.1 ∧ u.2.2.2.2.2.1 = upd fl p2.toNatClampNeg (fl p0.toNatClampNeg + fl p1.toNatClampNeg + u.2.1) ∧ u.2.2.2.2.2.2.1 = upd fe p2.toNatClampNeg u.2.1 ∧ u.2.2.2.2.1 = upd fm p2.toNatClampNeg u.2.2.1 ∧ 0 ≤ u.2.2.1.toInt ∧ u.2.2.1.toInt ≤ p3.toInt ∧ mj_vs u.2.2.2.2.2.2.2.1 u.2.2.2.2.2.2.2.2.1 (6 * p2.toNatClampNeg) u.2.2.1.toNatClampNeg u.2.2.2.1 ∧ mj_srt u.2.2.2.2.2.2.2.1 u.2.2.2.2.2.2.2.2.1 (6 * p2.toNatClampNeg) u.2.2.1.toNatClampNeg ∧ ∀ q : Nat, (q < 6 * p2.toNatClampNeg ∨ 6 * p2.toNatClampNeg + 6 ≤ q) → u.2.2.2.2.2.2.2.1 q = vv q ∧ u.2.2.2.2.2.2.2.2.1 q = vn q) (fun (u : Int32 × Int32 × Int32 × (Int32 → Int) × (Nat → Int32) × (Nat → Int32) × (Nat → Int32) × (Nat → Int32) × (Nat → Int32) × (Nat → Int32) × (Nat → Int32)) (t : State) => va_P (dC, dI) vwCl [kx_5 h0 g_row m_n m_slots m_thrown g_many g_loss g_less g_voteValue g_voteNumber g_allValue g_allNumber u.1 g_nodeL g_nodeR m_nodes g_part m_partMany g_wasMany g_wasLoss g_wasValue g_wasNumber g_path m_pathMany g_heavyValue g_heavyTimes m_heavyMany g_fewest g_which g_met m_mostMet, kx_a g_many cyI 324 u.2.2.2.2.1, kx_a g_loss cyI 324 u.2.2.2.2.2.1, kx_a g_less cyI 324 u.2.2.2.2.2.2.1, kx_a g_voteValue cyI 1944 u.2.2.2.2.2.2.2.1, kx_a g_voteNumber cyI 1944 u.2.2.2.2.2.2.2.2.1, kx_a g_allValue cyI 12 u.2.2.2.2.2.2.2.2.2.1, kx_a g_allNumber cyI 12 u.2.2.2.2.2.2.2.2.2.2] t.heap ∧ va_K (dC, dI) vwCl [(cyI, .int)] t ∧ va_D A [kx_5 h0 g_row m_n m_slots m_thrown g_many g_loss g_less g_voteValue g_voteNumber g_allValue g_allNumber u.1 g_nodeL g_nodeR m_nodes g_part m_partMany g_wasMany g_wasLoss g_wasValue g_wasNumber g_path m_pathMany g_heavyValue g_heavyTimes m_heavyMany g_fewest g_which g_met m_mostMet, kx_a g_many cyI 324 u.2.2.2.2.1, kx_a g_loss cyI 324 u.2.2.2.2.2.1, kx_a g_less cyI 324 u.2.2.2.2.2.2.1, kx_a g_voteValue cyI 1944 u.2.2.2.2.2.2.2.1, kx_a g_voteNumber cyI 1944 u.2.2.2.2.2.2.2.2.1, kx_a g_allValue cyI 12 u.2.2.2.2.2.2.2.2.2.1, kx_a g_allNumber cyI 12 u.2.2.2.2.2.2.2.2.2.2]) A) := by
  refine kx_stQ (ws := wsX5_together) (cc := cX5_together) (maxL := 9) (ret := none) (by decide) rfl (Nat.le_of_ble_eq_true rfl) ?_
  intro p e s m below meth c A ls hx hb hr hlocks hts hown hml hA hS hP hK hD hl
  have hown : s.vm.findClass RX5 = some m.cls := hown
  have hl : lv_has ls 9 [(0, .ref h0), (1, .int p0), (2, .int p1), (3, .int p2), (4, .int p3)] := hl
  have hf_87 := hts (.fieldLink RX5 87 "MajorityIndexModel" "allMany" "I") (List.mem_of_getElem? (i := 1) rfl)
  have hi_5 : ∀ w ∈ u_ws RX5 TX5 30, w ∈ wsX5_together := fun w h => List.mem_cons_of_mem _ (List.mem_append_right _ h)
  have hf_17 := hts (.fieldLink RX5 17 "MajorityIndexModel" "many" "[I") (List.mem_of_getElem? (i := 2) rfl)
  have hf_20 := hts (.fieldLink RX5 20 "MajorityIndexModel" "loss" "[I") (List.mem_of_getElem? (i := 6) rfl)
  have hf_23 := hts (.fieldLink RX5 23 "MajorityIndexModel" "less" "[I") (List.mem_of_getElem? (i := 8) rfl)
  have hf_35 := hts (.fieldLink RX5 35 "MajorityIndexModel" "allNumber" "[I") (List.mem_of_getElem? (i := 5) rfl)
  have hf_26 := hts (.fieldLink RX5 26 "MajorityIndexModel" "voteValue" "[I") (List.mem_of_getElem? (i := 3) rfl)
  have hf_32 := hts (.fieldLink RX5 32 "MajorityIndexModel" "allValue" "[I") (List.mem_of_getElem? (i := 7) rfl)
  have hf_29 := hts (.fieldLink RX5 29 "MajorityIndexModel" "voteNumber" "[I") (List.mem_of_getElem? (i := 4) rfl)
  have n_p0 := ki_nat p0 rfl (om_10 b0)
  have n_p1 := ki_nat p1 rfl (om_10 b2)
  refine lv_aload_n hx hb dX5_together_0 rfl (lv_at hl 0 rfl) ?_
  refine lv_iconst (v := 0) hx hb dX5_together_1 (by decide) ?_
  refine va_put (D := (dC, dI)) (ci := 5) (v := .int 0) (ty := .int) (C := RX5) (T := TX5) (N := 30) hx hb hts hi_5 tyX5 tyX5_ok nmX5 hown hK hP hD hS 0 rfl rfl 11 (by decide) hf_87 (fun _ h9 => h9) rfl (by decide +kernel) rfl rfl (Nat.le_of_ble_eq_true rfl) dX5_together_2 (fun H locs hP hD hS => ?_)
  obtain ⟨hP, hD⟩ := kx_re (w2 := [kx_5 h0 g_row m_n m_slots m_thrown g_many g_loss g_less g_voteValue g_voteNumber g_allValue g_allNumber 0 g_nodeL g_nodeR m_nodes g_part m_partMany g_wasMany g_wasLoss g_wasValue g_wasNumber g_path m_pathMany g_heavyValue g_heavyTimes m_heavyMany g_fewest g_which g_met m_mostMet, kx_a g_many cyI 324 fm, kx_a g_loss cyI 324 fl, kx_a g_less cyI 324 fe, kx_a g_voteValue cyI 1944 vv, kx_a g_voteNumber cyI 1944 vn, kx_a g_allValue cyI 12 av, kx_a g_allNumber cyI 12 an]) hP hD rfl
  refine lv_iconst (v := 0) hx hb dX5_together_5 (by decide) ?_
  refine lv_istore (lv' := [(5, .int 0), (0, .ref h0), (1, .int p0), (2, .int p1), (3, .int p2), (4, .int p3)]) hx hb dX5_together_6 hl (by decide) rfl (fun ls hl => ?_)
  have LP1 : ∀ (n : Nat) (i : Int32) (am : Int32) (gv : Nat → Int32) (gn : Nat → Int32), (0 ≤ i.toInt) → (i.toInt ≤ (fm p0.toNatClampNeg).toInt) → (0 ≤ am.toInt) → (am.toInt ≤ i.toInt) → (mj_vs gv gn 0 am.toNatClampNeg (fun w => mj_z w + mj_pm vv vn (6 * p0.toNatClampNeg) i.toNatClampNeg w)) → ((fm p0.toNatClampNeg).toInt - i.toInt).toNat < n → ∀ (H : Heap) (locs : List Loc), va_P (dC, dI) vwCl [kx_5 h0 g_row m_n m_slots m_thrown g_many g_loss g_less g_voteValue g_voteNumber g_allValue g_allNumber am g_nodeL g_nodeR m_nodes g_part m_partMany g_wasMany g_wasLoss g_wasValue g_wasNumber g_path m_pathMany g_heavyValue g_heavyTimes m_heavyMany g_fewest g_which g_met m_mostMet, kx_a g_many cyI 324 fm, kx_a g_loss cyI 324 fl, kx_a g_less cyI 324 fe, kx_a g_voteValue cyI 1944 vv, kx_a g_voteNumber cyI 1944 vn, kx_a g_allValue cyI 12 gv, kx_a g_allNumber cyI 12 gn] H → va_D A [kx_5 h0 g_row m_n m_slots m_thrown g_many g_loss g_less g_voteValue g_voteNumber g_allValue g_allNumber am g_nodeL g_nodeR m_nodes g_part m_partMany g_wasMany g_wasLoss g_wasValue g_wasNumber g_path m_pathMany g_heavyValue g_heavyTimes m_heavyMany g_fewest g_which g_met m_mostMet, kx_a g_many cyI 324 fm, kx_a g_loss cyI 324 fl, kx_a g_less cyI 324 fe, kx_a g_voteValue cyI 1944 vv, kx_a g_voteNumber cyI 1944 vn, kx_a g_allValue cyI 12 gv, kx_a g_allNumber cyI 12 gn] → va_S A s.heap H locs → ∀ (ls : Array Slot), lv_has ls 9 [(5, .int i), (0, .ref h0), (1, .int p0), (2, .int p1), (3, .int p2), (4, .int p3)] → W p l e (headSpec wsX5_together ({ frames := 2, cells := 0, slots := 0, locals := 90 })).room s m ([.ref h0, .int p0, .int p1, .int p2, .int p3] : List Value).toArray below meth c H locs 0 0 (MQ below (va_Qv (fun u : Int32 × Int32 × Int32 × (Int32 → Int) × (Nat → Int32) × (Nat → Int32) × (Nat → Int32) × (Nat → Int32) × (Nat → Int32) × (Nat → Int32) × (Nat → Int32) => mj_tog p3.toNatClampNeg mua mub u.2.2.2.1 u.2.1 ∧ u.2.2.2.2.2.1 = upd fl p2.toNatClampNeg (fl p0.toNatClampNeg + fl p1.toNatClampNeg + u.2.1) ∧ u.2.2.2.2.2.2.1 = upd fe p2.toNatClampNeg u.2.1 ∧ u.2.2.2.2.1 = upd fm p2.toNatClampNeg u.2.2.1 ∧ 0 ≤ u.2.2.1.toInt ∧ u.2.2.1.toInt ≤ p3.toInt ∧ mj_vs u.2.2.2.2.2.2.2.1 u.2.2.2.2.2.2.2.2.1 (6 * p2.toNatClampNeg) u.2.2.1.toNatClampNeg u.2.2.2.1 ∧ mj_srt u.2.2.2.2.2.2.2.1 u.2.2.2.2.2.2.2.2.1 (6 * p2.toNatClampNeg) u.2.2.1.toNatClampNeg ∧ ∀ q : Nat, (q < 6 * p2.toNatClampNeg ∨ 6 * p2.toNatClampNeg + 6 ≤ q) → u.2.2.2.2.2.2.2.1 q = vv q ∧ u.2.2.2.2.2.2.2.2.1 q = vn q) (fun (u : Int32 × Int32 × Int32 × (Int32 → Int) × (Nat → Int32) × (Nat → Int32) × (Nat → Int32) × (Nat → Int32) × (Nat → Int32) × (Nat → Int32) × (Nat → Int32)) (t : State) => va_P (dC, dI) vwCl [kx_5 h0 g_row m_n m_slots m_thrown g_many g_loss g_less g_voteValue g_voteNumber g_allValue g_allNumber u.1 g_nodeL g_nodeR m_nodes g_part m_partMany g_wasMany g_wasLoss g_wasValue g_wasNumber g_path m_pathMany g_heavyValue g_heavyTimes m_heavyMany g_fewest g_which g_met m_mostMet, kx_a g_many cyI 324 u.2.2.2.2.1, kx_a g_loss cyI 324 u.2.2.2.2.2.1, kx_a g_less cyI 324 u.2.2.2.2.2.2.1, kx_a g_voteValue cyI 1944 u.2.2.2.2.2.2.2.1, kx_a g_voteNumber cyI 1944 u.2.2.2.2.2.2.2.2.1, kx_a g_allValue cyI 12 u.2.2.2.2.2.2.2.2.2.1, kx_a g_allNumber cyI 12 u.2.2.2.2.2.2.2.2.2.2] t.heap ∧ va_K (dC, dI) vwCl [(cyI, .int)] t ∧ va_D A [kx_5 h0 g_row m_n m_slots m_thrown g_many g_loss g_less g_voteValue g_voteNumber g_allValue g_allNumber u.1 g_nodeL g_nodeR m_nodes g_part m_partMany g_wasMany g_wasLoss g_wasValue g_wasNumber g_path m_pathMany g_heavyValue g_heavyTimes m_heavyMany g_fewest g_which g_met m_mostMet, kx_a g_many cyI 324 u.2.2.2.2.1, kx_a g_loss cyI 324 u.2.2.2.2.2.1, kx_a g_less cyI 324 u.2.2.2.2.2.2.1, kx_a g_voteValue cyI 1944 u.2.2.2.2.2.2.2.1, kx_a g_voteNumber cyI 1944 u.2.2.2.2.2.2.2.2.1, kx_a g_allValue cyI 12 u.2.2.2.2.2.2.2.2.2.1, kx_a g_allNumber cyI 12 u.2.2.2.2.2.2.2.2.2.2]) A) ([.ref h0, .int p0, .int p1, .int p2, .int p3] : List Value).toArray s 0 0 A) (F0 m 8 ls []) := by
    intro n
    induction n with
    | zero => intro i am gv gn LP1_h0 LP1_h1 LP1_h2 LP1_h3 LP1_h4 hn; exact absurd hn (Nat.not_lt_zero _)
    | succ n ih1 =>
      intro i am gv gn LP1_h0 LP1_h1 LP1_h2 LP1_h3 LP1_h4 hn1 H locs hP hD hS ls hl
      have n_i := ki_nat i rfl (om_10 LP1_h0)
      have n_ma := ki_nat (fm p0.toNatClampNeg) rfl (om_10 m0)
      refine lv_iload hx hb dX5_together_8 (lv_at hl 0 rfl) ?_
      refine lv_aload_n hx hb dX5_together_10 rfl (lv_at hl 1 rfl) ?_
      refine va_get (D := (dC, dI)) (ci := 5) (v := .ref g_many) (C := RX5) (T := TX5) (N := 30) hx hb hts hi_5 hown hK hP 0 rfl rfl 4 (by decide) hf_17 (fun _ h9 => h9) rfl dX5_together_11 ?_
      refine lv_iload_n hx hb dX5_together_14 rfl (lv_at hl 2 rfl) ?_
      refine va_iald hx hb hK hP 1 0 rfl rfl (ki_in (om_10 b0) (om_246 b1)) dX5_together_15 ?_
      refine lv_topi (fun y_1 ey_1 => ?_)
      have j_1 : y_1.toInt = (fm p0.toNatClampNeg).toInt := congrArg Int32.toInt ey_1
      refine lv_icmp_ge (tgt := 53) hx hb dX5_together_16 (by decide) (fun c_2 => ?_) (fun c_2 => ?_)
      · have i_2 : y_1.toInt ≤ i.toInt := kc_le c_2
        refine lv_iconst (v := 0) hx hb dX5_together_53 (by decide) ?_
        refine lv_istore (lv' := [(5, .int 0), (0, .ref h0), (1, .int p0), (2, .int p1), (3, .int p2), (4, .int p3)]) hx hb dX5_together_54 hl (by decide) rfl (fun ls hl => ?_)
        have LP2 : ∀ (n : Nat) (j : Int32) (bm : Int32) (bv : Nat → Int32) (bn : Nat → Int32), (0 ≤ j.toInt) → (j.toInt ≤ (fm p1.toNatClampNeg).toInt) → (0 ≤ bm.toInt) → (bm.toInt ≤ (fm p0.toNatClampNeg).toInt + j.toInt) → (mj_vs bv bn 0 bm.toNatClampNeg (fun w => mua w + mj_pm vv vn (6 * p1.toNatClampNeg) j.toNatClampNeg w)) → ((fm p1.toNatClampNeg).toInt - j.toInt).toNat < n → ∀ (H : Heap) (locs : List Loc), va_P (dC, dI) vwCl [kx_5 h0 g_row m_n m_slots m_thrown g_many g_loss g_less g_voteValue g_voteNumber g_allValue g_allNumber bm g_nodeL g_nodeR m_nodes g_part m_partMany g_wasMany g_wasLoss g_wasValue g_wasNumber g_path m_pathMany g_heavyValue g_heavyTimes m_heavyMany g_fewest g_which g_met m_mostMet, kx_a g_many cyI 324 fm, kx_a g_loss cyI 324 fl, kx_a g_less cyI 324 fe, kx_a g_voteValue cyI 1944 vv, kx_a g_voteNumber cyI 1944 vn, kx_a g_allValue cyI 12 bv, kx_a g_allNumber cyI 12 bn] H → va_D A [kx_5 h0 g_row m_n m_slots m_thrown g_many g_loss g_less g_voteValue g_voteNumber g_allValue g_allNumber bm g_nodeL g_nodeR m_nodes g_part m_partMany g_wasMany g_wasLoss g_wasValue g_wasNumber g_path m_pathMany g_heavyValue g_heavyTimes m_heavyMany g_fewest g_which g_met m_mostMet, kx_a g_many cyI 324 fm, kx_a g_loss cyI 324 fl, kx_a g_less cyI 324 fe, kx_a g_voteValue cyI 1944 vv, kx_a g_voteNumber cyI 1944 vn, kx_a g_allValue cyI 12 bv, kx_a g_allNumber cyI 12 bn] → va_S A s.heap H locs → ∀ (ls : Array Slot), lv_has ls 9 [(5, .int j), (0, .ref h0), (1, .int p0), (2, .int p1), (3, .int p2), (4, .int p3)] → W p l e (headSpec wsX5_together ({ frames := 2, cells := 0, slots := 0, locals := 90 })).room s m ([.ref h0, .int p0, .int p1, .int p2, .int p3] : List Value).toArray below meth c H locs 0 0 (MQ below (va_Qv (fun u : Int32 × Int32 × Int32 × (Int32 → Int) × (Nat → Int32) × (Nat → Int32) × (Nat → Int32) × (Nat → Int32) × (Nat → Int32) × (Nat → Int32) × (Nat → Int32) => mj_tog p3.toNatClampNeg mua mub u.2.2.2.1 u.2.1 ∧ u.2.2.2.2.2.1 = upd fl p2.toNatClampNeg (fl p0.toNatClampNeg + fl p1.toNatClampNeg + u.2.1) ∧ u.2.2.2.2.2.2.1 = upd fe p2.toNatClampNeg u.2.1 ∧ u.2.2.2.2.1 = upd fm p2.toNatClampNeg u.2.2.1 ∧ 0 ≤ u.2.2.1.toInt ∧ u.2.2.1.toInt ≤ p3.toInt ∧ mj_vs u.2.2.2.2.2.2.2.1 u.2.2.2.2.2.2.2.2.1 (6 * p2.toNatClampNeg) u.2.2.1.toNatClampNeg u.2.2.2.1 ∧ mj_srt u.2.2.2.2.2.2.2.1 u.2.2.2.2.2.2.2.2.1 (6 * p2.toNatClampNeg) u.2.2.1.toNatClampNeg ∧ ∀ q : Nat, (q < 6 * p2.toNatClampNeg ∨ 6 * p2.toNatClampNeg + 6 ≤ q) → u.2.2.2.2.2.2.2.1 q = vv q ∧ u.2.2.2.2.2.2.2.2.1 q = vn q) (fun (u : Int32 × Int32 × Int32 × (Int32 → Int) × (Nat → Int32) × (Nat → Int32) × (Nat → Int32) × (Nat → Int32) × (Nat → Int32) × (Nat → Int32) × (Nat → Int32)) (t : State) => va_P (dC, dI) vwCl [kx_5 h0 g_row m_n m_slots m_thrown g_many g_loss g_less g_voteValue g_voteNumber g_allValue g_allNumber u.1 g_nodeL g_nodeR m_nodes g_part m_partMany g_wasMany g_wasLoss g_wasValue g_wasNumber g_path m_pathMany g_heavyValue g_heavyTimes m_heavyMany g_fewest g_which g_met m_mostMet, kx_a g_many cyI 324 u.2.2.2.2.1, kx_a g_loss cyI 324 u.2.2.2.2.2.1, kx_a g_less cyI 324 u.2.2.2.2.2.2.1, kx_a g_voteValue cyI 1944 u.2.2.2.2.2.2.2.1, kx_a g_voteNumber cyI 1944 u.2.2.2.2.2.2.2.2.1, kx_a g_allValue cyI 12 u.2.2.2.2.2.2.2.2.2.1, kx_a g_allNumber cyI 12 u.2.2.2.2.2.2.2.2.2.2] t.heap ∧ va_K (dC, dI) vwCl [(cyI, .int)] t ∧ va_D A [kx_5 h0 g_row m_n m_slots m_thrown g_many g_loss g_less g_voteValue g_voteNumber g_allValue g_allNumber u.1 g_nodeL g_nodeR m_nodes g_part m_partMany g_wasMany g_wasLoss g_wasValue g_wasNumber g_path m_pathMany g_heavyValue g_heavyTimes m_heavyMany g_fewest g_which g_met m_mostMet, kx_a g_many cyI 324 u.2.2.2.2.1, kx_a g_loss cyI 324 u.2.2.2.2.2.1, kx_a g_less cyI 324 u.2.2.2.2.2.2.1, kx_a g_voteValue cyI 1944 u.2.2.2.2.2.2.2.1, kx_a g_voteNumber cyI 1944 u.2.2.2.2.2.2.2.2.1, kx_a g_allValue cyI 12 u.2.2.2.2.2.2.2.2.2.1, kx_a g_allNumber cyI 12 u.2.2.2.2.2.2.2.2.2.2]) A) ([.ref h0, .int p0, .int p1, .int p2, .int p3] : List Value).toArray s 0 0 A) (F0 m 56 ls []) := by
          intro n
          induction n with
          | zero => intro j bm bv bn LP2_h0 LP2_h1 LP2_h2 LP2_h3 LP2_h4 hn; exact absurd hn (Nat.not_lt_zero _)
          | succ n ih2 =>
            intro j bm bv bn LP2_h0 LP2_h1 LP2_h2 LP2_h3 LP2_h4 hn2 H locs hP hD hS ls hl
            have n_j := ki_nat j rfl (om_10 LP2_h0)
            have n_mb := ki_nat (fm p1.toNatClampNeg) rfl (om_10 m2)
            refine lv_iload hx hb dX5_together_56 (lv_at hl 0 rfl) ?_
            refine lv_aload_n hx hb dX5_together_58 rfl (lv_at hl 1 rfl) ?_
            refine va_get (D := (dC, dI)) (ci := 5) (v := .ref g_many) (C := RX5) (T := TX5) (N := 30) hx hb hts hi_5 hown hK hP 0 rfl rfl 4 (by decide) hf_17 (fun _ h9 => h9) rfl dX5_together_59 ?_
            refine lv_iload_n hx hb dX5_together_62 rfl (lv_at hl 3 rfl) ?_
            refine va_iald hx hb hK hP 1 0 rfl rfl (ki_in (om_10 b2) (om_246 b3)) dX5_together_63 ?_
            refine lv_topi (fun y_3 ey_3 => ?_)
            have j_3 : y_3.toInt = (fm p1.toNatClampNeg).toInt := congrArg Int32.toInt ey_3
            refine lv_icmp_ge (tgt := 101) hx hb dX5_together_64 (by decide) (fun c_4 => ?_) (fun c_4 => ?_)
            · have i_4 : y_3.toInt ≤ j.toInt := kc_le c_4
              refine lv_aload_n hx hb dX5_together_101 rfl (lv_at hl 1 rfl) ?_
              obtain ⟨hPc, hDc, hFc, hCc⟩ := kx_preM (wc := [kx_5 h0 g_row m_n m_slots m_thrown g_many g_loss g_less g_voteValue g_voteNumber g_allValue g_allNumber bm g_nodeL g_nodeR m_nodes g_part m_partMany g_wasMany g_wasLoss g_wasValue g_wasNumber g_path m_pathMany g_heavyValue g_heavyTimes m_heavyMany g_fewest g_which g_met m_mostMet, kx_a g_allValue cyI 12 bv, kx_a g_allNumber cyI 12 bn]) hP hD hS hA [true, false, false, false, false, false, true, true] rfl
              have hKc := hK
              refine va_callv (va_runV (As := []) (rest := []) ⟨hx, hb, hml, hown, hts⟩ (kx_un (c_X5_sorts l dC dI h0 g_row g_many g_loss g_less g_voteValue g_voteNumber g_allValue g_allNumber g_nodeL g_nodeR g_part g_wasMany g_wasLoss g_wasValue g_wasNumber g_path g_heavyValue g_heavyTimes g_fewest g_which g_met m_n m_slots m_thrown bm m_nodes m_partMany m_pathMany m_heavyMany m_mostMet cyI bv bn H.size LP2_h2 (om_303 m1 m3 LP2_h1 LP2_h3))) (cwV 0 hts gX5_together_X5_sorts rfl rfl rfl (by decide +kernel) ⟨Nat.le_of_ble_eq_true rfl, Nat.le_of_ble_eq_true rfl⟩) ⟨fun a U g mk q => by obtain ⟨q0, q1, qP, qK, qD⟩ := q; exact ⟨q0, q1, qP, va_K.moved (u := U) (U := U.calling g mk a) (Vm.Alike.refl U.vm) qK, qD⟩, kx_rc5 hKc hPc (q0 := 0) rfl, fun U hU hW => ⟨rfl, by rw [hU], by rw [hU]; exact hPc, va_K.moved hW.alike hKc, hDc.weaken (fun _ _ _ _ => trivial)⟩⟩ rfl rfl hl.1 rfl (lv_room (Nat.le_of_ble_eq_true rfl)) dX5_together_102 ⟨Nat.le_of_ble_eq_true rfl, Nat.le_of_ble_eq_true rfl⟩) hS (fun q _ h => hFc q h) hFc (fun u t H1 locs ht hvm w_5 hB hz1 hk1 hS => ?_)
              obtain ⟨o_6, o_7⟩ := u
              dsimp only at w_5 hB
              obtain ⟨hP1, hK1, hD1⟩ := hB
              rw [ht] at hP1
              have hK1 := va_K.moved hvm.symm hK1
              obtain ⟨hP, hD⟩ := kx_joinM (w2 := [kx_5 h0 g_row m_n m_slots m_thrown g_many g_loss g_less g_voteValue g_voteNumber g_allValue g_allNumber bm g_nodeL g_nodeR m_nodes g_part m_partMany g_wasMany g_wasLoss g_wasValue g_wasNumber g_path m_pathMany g_heavyValue g_heavyTimes m_heavyMany g_fewest g_which g_met m_mostMet, kx_a g_many cyI 324 fm, kx_a g_loss cyI 324 fl, kx_a g_less cyI 324 fe, kx_a g_voteValue cyI 1944 vv, kx_a g_voteNumber cyI 1944 vn, kx_a g_allValue cyI 12 o_6, kx_a g_allNumber cyI 12 o_7]) hP hD hP1 hD1 hk1 hFc [true, false, false, false, false, false, true, true] hCc rfl
              clear hP1 hD1 hK1 hk1 hz1 hFc hDc hPc hKc hCc
              generalize H1 = H at hP hS ⊢
              have w_5 : mj_srt o_6 o_7 0 bm.toNatClampNeg ∧ ∀ mu : Int32 → Int, mj_vs bv bn 0 bm.toNatClampNeg mu → mj_vs o_6 o_7 0 bm.toNatClampNeg mu := w_5
              have n_bm := ki_nat bm rfl (om_10 LP2_h2)
              have n_p3 := ki_nat p3 rfl (om_10 b6)
              have n_p2 := ki_nat p2 rfl (om_10 b4)
              have hsum : mj_vs o_6 o_7 0 bm.toNatClampNeg (fun w => mua w + mub w) := w_5.2 _ (mj_done LP2_h4 vb (by omega))
              have hbd := mj_bd hsum bd
              refine lv_aload_n hx hb dX5_together_105 rfl (lv_at hl 1 rfl) ?_
              refine va_get (D := (dC, dI)) (ci := 5) (v := .int bm) (C := RX5) (T := TX5) (N := 30) hx hb hts hi_5 hown hK hP 0 rfl rfl 11 (by decide) hf_87 (fun _ h9 => h9) rfl dX5_together_106 ?_
              refine lv_iload hx hb dX5_together_109 (lv_at hl 5 rfl) ?_
              refine lv_icmp_le (tgt := 124) hx hb dX5_together_111 (by decide) (fun c_8 => ?_) (fun c_8 => ?_)
              · have i_8 : bm.toInt ≤ p3.toInt := kc_le c_8
                refine lv_iconst (v := 0) hx hb dX5_together_124 (by decide) ?_
                refine lv_istore (lv' := [(5, .int 0), (0, .ref h0), (1, .int p0), (2, .int p1), (3, .int p2), (4, .int p3)]) hx hb dX5_together_125 hl (by decide) rfl (fun ls hl => ?_)
                refine lv_aload_n hx hb dX5_together_127 rfl (lv_at hl 1 rfl) ?_
                refine va_get (D := (dC, dI)) (ci := 5) (v := .ref g_loss) (C := RX5) (T := TX5) (N := 30) hx hb hts hi_5 hown hK hP 0 rfl rfl 5 (by decide) hf_20 (fun _ h9 => h9) rfl dX5_together_128 ?_
                refine lv_iload_n hx hb dX5_together_131 rfl (lv_at hl 2 rfl) ?_
                refine va_iald hx hb hK hP 2 0 rfl rfl (ki_in (om_10 b0) (om_246 b1)) dX5_together_132 ?_
                refine lv_topi (fun y_9 ey_9 => ?_)
                have j_9 : y_9.toInt = (fl p0.toNatClampNeg).toInt := congrArg Int32.toInt ey_9
                refine lv_aload_n hx hb dX5_together_133 rfl (lv_at hl 1 rfl) ?_
                refine va_get (D := (dC, dI)) (ci := 5) (v := .ref g_loss) (C := RX5) (T := TX5) (N := 30) hx hb hts hi_5 hown hK hP 0 rfl rfl 5 (by decide) hf_20 (fun _ h9 => h9) rfl dX5_together_134 ?_
                refine lv_iload_n hx hb dX5_together_137 rfl (lv_at hl 3 rfl) ?_
                refine va_iald hx hb hK hP 2 0 rfl rfl (ki_in (om_10 b2) (om_246 b3)) dX5_together_138 ?_
                refine lv_topi (fun y_10 ey_10 => ?_)
                have j_10 : y_10.toInt = (fl p1.toNatClampNeg).toInt := congrArg Int32.toInt ey_10
                refine lv_iadd hx hb dX5_together_139 ?_
                refine lv_topi (fun y_11 ey_11 => ?_)
                refine lv_iload hx hb dX5_together_140 (lv_at hl 0 rfl) ?_
                refine lv_iadd hx hb dX5_together_142 ?_
                refine lv_topi (fun y_12 ey_12 => ?_)
                refine lv_istore (lv' := [(6, .int y_12), (5, .int 0), (0, .ref h0), (1, .int p0), (2, .int p1), (3, .int p2), (4, .int p3)]) hx hb dX5_together_143 hl (by decide) rfl (fun ls hl => ?_)
                refine lv_iconst (v := 0) hx hb dX5_together_145 (by decide) ?_
                refine lv_istore (lv' := [(7, .int 0), (6, .int y_12), (5, .int 0), (0, .ref h0), (1, .int p0), (2, .int p1), (3, .int p2), (4, .int p3)]) hx hb dX5_together_146 hl (by decide) rfl (fun ls hl => ?_)
                refine lv_iconst (v := 0) hx hb dX5_together_148 (by decide) ?_
                refine lv_istore (lv' := [(8, .int 0), (7, .int 0), (6, .int y_12), (5, .int 0), (0, .ref h0), (1, .int p0), (2, .int p1), (3, .int p2), (4, .int p3)]) hx hb dX5_together_149 hl (by decide) rfl (fun ls hl => ?_)
                have LP3 : ∀ (n : Nat) (lf : Int32) (k : Int32) (wv : Nat → Int32) (wn : Nat → Int32), (0 ≤ lf.toInt) → (0 ≤ k.toInt) → (k.toInt ≤ bm.toInt) → (mj_wr p3.toNatClampNeg o_6 o_7 0 (6 * p2.toNatClampNeg) lf.toNatClampNeg k.toNatClampNeg vv vn wv wn) → (bm.toInt - k.toInt).toNat < n → ∀ (H : Heap) (locs : List Loc), va_P (dC, dI) vwCl [kx_5 h0 g_row m_n m_slots m_thrown g_many g_loss g_less g_voteValue g_voteNumber g_allValue g_allNumber bm g_nodeL g_nodeR m_nodes g_part m_partMany g_wasMany g_wasLoss g_wasValue g_wasNumber g_path m_pathMany g_heavyValue g_heavyTimes m_heavyMany g_fewest g_which g_met m_mostMet, kx_a g_many cyI 324 fm, kx_a g_loss cyI 324 fl, kx_a g_less cyI 324 fe, kx_a g_voteValue cyI 1944 wv, kx_a g_voteNumber cyI 1944 wn, kx_a g_allValue cyI 12 o_6, kx_a g_allNumber cyI 12 o_7] H → va_D A [kx_5 h0 g_row m_n m_slots m_thrown g_many g_loss g_less g_voteValue g_voteNumber g_allValue g_allNumber bm g_nodeL g_nodeR m_nodes g_part m_partMany g_wasMany g_wasLoss g_wasValue g_wasNumber g_path m_pathMany g_heavyValue g_heavyTimes m_heavyMany g_fewest g_which g_met m_mostMet, kx_a g_many cyI 324 fm, kx_a g_loss cyI 324 fl, kx_a g_less cyI 324 fe, kx_a g_voteValue cyI 1944 wv, kx_a g_voteNumber cyI 1944 wn, kx_a g_allValue cyI 12 o_6, kx_a g_allNumber cyI 12 o_7] → va_S A s.heap H locs → ∀ (ls : Array Slot), lv_has ls 9 [(8, .int k), (7, .int lf), (6, .int y_12), (5, .int 0), (0, .ref h0), (1, .int p0), (2, .int p1), (3, .int p2), (4, .int p3)] → W p l e (headSpec wsX5_together ({ frames := 2, cells := 0, slots := 0, locals := 90 })).room s m ([.ref h0, .int p0, .int p1, .int p2, .int p3] : List Value).toArray below meth c H locs 0 0 (MQ below (va_Qv (fun u : Int32 × Int32 × Int32 × (Int32 → Int) × (Nat → Int32) × (Nat → Int32) × (Nat → Int32) × (Nat → Int32) × (Nat → Int32) × (Nat → Int32) × (Nat → Int32) => mj_tog p3.toNatClampNeg mua mub u.2.2.2.1 u.2.1 ∧ u.2.2.2.2.2.1 = upd fl p2.toNatClampNeg (fl p0.toNatClampNeg + fl p1.toNatClampNeg + u.2.1) ∧ u.2.2.2.2.2.2.1 = upd fe p2.toNatClampNeg u.2.1 ∧ u.2.2.2.2.1 = upd fm p2.toNatClampNeg u.2.2.1 ∧ 0 ≤ u.2.2.1.toInt ∧ u.2.2.1.toInt ≤ p3.toInt ∧ mj_vs u.2.2.2.2.2.2.2.1 u.2.2.2.2.2.2.2.2.1 (6 * p2.toNatClampNeg) u.2.2.1.toNatClampNeg u.2.2.2.1 ∧ mj_srt u.2.2.2.2.2.2.2.1 u.2.2.2.2.2.2.2.2.1 (6 * p2.toNatClampNeg) u.2.2.1.toNatClampNeg ∧ ∀ q : Nat, (q < 6 * p2.toNatClampNeg ∨ 6 * p2.toNatClampNeg + 6 ≤ q) → u.2.2.2.2.2.2.2.1 q = vv q ∧ u.2.2.2.2.2.2.2.2.1 q = vn q) (fun (u : Int32 × Int32 × Int32 × (Int32 → Int) × (Nat → Int32) × (Nat → Int32) × (Nat → Int32) × (Nat → Int32) × (Nat → Int32) × (Nat → Int32) × (Nat → Int32)) (t : State) => va_P (dC, dI) vwCl [kx_5 h0 g_row m_n m_slots m_thrown g_many g_loss g_less g_voteValue g_voteNumber g_allValue g_allNumber u.1 g_nodeL g_nodeR m_nodes g_part m_partMany g_wasMany g_wasLoss g_wasValue g_wasNumber g_path m_pathMany g_heavyValue g_heavyTimes m_heavyMany g_fewest g_which g_met m_mostMet, kx_a g_many cyI 324 u.2.2.2.2.1, kx_a g_loss cyI 324 u.2.2.2.2.2.1, kx_a g_less cyI 324 u.2.2.2.2.2.2.1, kx_a g_voteValue cyI 1944 u.2.2.2.2.2.2.2.1, kx_a g_voteNumber cyI 1944 u.2.2.2.2.2.2.2.2.1, kx_a g_allValue cyI 12 u.2.2.2.2.2.2.2.2.2.1, kx_a g_allNumber cyI 12 u.2.2.2.2.2.2.2.2.2.2] t.heap ∧ va_K (dC, dI) vwCl [(cyI, .int)] t ∧ va_D A [kx_5 h0 g_row m_n m_slots m_thrown g_many g_loss g_less g_voteValue g_voteNumber g_allValue g_allNumber u.1 g_nodeL g_nodeR m_nodes g_part m_partMany g_wasMany g_wasLoss g_wasValue g_wasNumber g_path m_pathMany g_heavyValue g_heavyTimes m_heavyMany g_fewest g_which g_met m_mostMet, kx_a g_many cyI 324 u.2.2.2.2.1, kx_a g_loss cyI 324 u.2.2.2.2.2.1, kx_a g_less cyI 324 u.2.2.2.2.2.2.1, kx_a g_voteValue cyI 1944 u.2.2.2.2.2.2.2.1, kx_a g_voteNumber cyI 1944 u.2.2.2.2.2.2.2.2.1, kx_a g_allValue cyI 12 u.2.2.2.2.2.2.2.2.2.1, kx_a g_allNumber cyI 12 u.2.2.2.2.2.2.2.2.2.2]) A) ([.ref h0, .int p0, .int p1, .int p2, .int p3] : List Value).toArray s 0 0 A) (F0 m 151 ls []) := by
                  intro n
                  induction n with
                  | zero => intro lf k wv wn LP3_h0 LP3_h1 LP3_h2 LP3_h3 hn; exact absurd hn (Nat.not_lt_zero _)
                  | succ n ih3 =>
                    intro lf k wv wn LP3_h0 LP3_h1 LP3_h2 LP3_h3 hn3 H locs hP hD hS ls hl
                    have n_lf := ki_nat lf rfl (om_10 LP3_h0)
                    have n_k := ki_nat k rfl (om_10 LP3_h1)
                    have h_lf := LP3_h3.2.1
                    refine lv_iload hx hb dX5_together_151 (lv_at hl 0 rfl) ?_
                    refine lv_aload_n hx hb dX5_together_153 rfl (lv_at hl 4 rfl) ?_
                    refine va_get (D := (dC, dI)) (ci := 5) (v := .int bm) (C := RX5) (T := TX5) (N := 30) hx hb hts hi_5 hown hK hP 0 rfl rfl 11 (by decide) hf_87 (fun _ h9 => h9) rfl dX5_together_154 ?_
                    refine lv_icmp_ge (tgt := 226) hx hb dX5_together_157 (by decide) (fun c_13 => ?_) (fun c_13 => ?_)
                    · have i_13 : bm.toInt ≤ k.toInt := kc_le c_13
                      refine lv_aload_n hx hb dX5_together_226 rfl (lv_at hl 4 rfl) ?_
                      refine va_get (D := (dC, dI)) (ci := 5) (v := .ref g_many) (C := RX5) (T := TX5) (N := 30) hx hb hts hi_5 hown hK hP 0 rfl rfl 4 (by decide) hf_17 (fun _ h9 => h9) rfl dX5_together_227 ?_
                      refine lv_iload_n hx hb dX5_together_230 rfl (lv_at hl 7 rfl) ?_
                      refine lv_iload hx hb dX5_together_231 (lv_at hl 1 rfl) ?_
                      refine va_iast hx hb hK hP hD hS 1 0 rfl rfl (ki_in (om_10 b4) (om_304 b5)) dX5_together_233 (fun H locs hP hD hS => ?_)
                      obtain ⟨hP, hD⟩ := kx_re (w2 := [kx_5 h0 g_row m_n m_slots m_thrown g_many g_loss g_less g_voteValue g_voteNumber g_allValue g_allNumber bm g_nodeL g_nodeR m_nodes g_part m_partMany g_wasMany g_wasLoss g_wasValue g_wasNumber g_path m_pathMany g_heavyValue g_heavyTimes m_heavyMany g_fewest g_which g_met m_mostMet, kx_a g_many cyI 324 (upd fm p2.toNatClampNeg lf), kx_a g_loss cyI 324 fl, kx_a g_less cyI 324 fe, kx_a g_voteValue cyI 1944 wv, kx_a g_voteNumber cyI 1944 wn, kx_a g_allValue cyI 12 o_6, kx_a g_allNumber cyI 12 o_7]) hP hD rfl
                      refine lv_aload_n hx hb dX5_together_234 rfl (lv_at hl 4 rfl) ?_
                      refine va_get (D := (dC, dI)) (ci := 5) (v := .ref g_loss) (C := RX5) (T := TX5) (N := 30) hx hb hts hi_5 hown hK hP 0 rfl rfl 5 (by decide) hf_20 (fun _ h9 => h9) rfl dX5_together_235 ?_
                      refine lv_iload_n hx hb dX5_together_238 rfl (lv_at hl 7 rfl) ?_
                      refine lv_iload hx hb dX5_together_239 (lv_at hl 2 rfl) ?_
                      refine va_iast hx hb hK hP hD hS 2 0 rfl rfl (ki_in (om_10 b4) (om_304 b5)) dX5_together_241 (fun H locs hP hD hS => ?_)
                      obtain ⟨hP, hD⟩ := kx_re (w2 := [kx_5 h0 g_row m_n m_slots m_thrown g_many g_loss g_less g_voteValue g_voteNumber g_allValue g_allNumber bm g_nodeL g_nodeR m_nodes g_part m_partMany g_wasMany g_wasLoss g_wasValue g_wasNumber g_path m_pathMany g_heavyValue g_heavyTimes m_heavyMany g_fewest g_which g_met m_mostMet, kx_a g_many cyI 324 (upd fm p2.toNatClampNeg lf), kx_a g_loss cyI 324 (upd fl p2.toNatClampNeg y_12), kx_a g_less cyI 324 fe, kx_a g_voteValue cyI 1944 wv, kx_a g_voteNumber cyI 1944 wn, kx_a g_allValue cyI 12 o_6, kx_a g_allNumber cyI 12 o_7]) hP hD rfl
                      refine lv_aload_n hx hb dX5_together_242 rfl (lv_at hl 4 rfl) ?_
                      refine va_get (D := (dC, dI)) (ci := 5) (v := .ref g_less) (C := RX5) (T := TX5) (N := 30) hx hb hts hi_5 hown hK hP 0 rfl rfl 6 (by decide) hf_23 (fun _ h9 => h9) rfl dX5_together_243 ?_
                      refine lv_iload_n hx hb dX5_together_246 rfl (lv_at hl 7 rfl) ?_
                      refine lv_iload hx hb dX5_together_247 (lv_at hl 3 rfl) ?_
                      refine va_iast hx hb hK hP hD hS 3 0 rfl rfl (ki_in (om_10 b4) (om_304 b5)) dX5_together_249 (fun H locs hP hD hS => ?_)
                      obtain ⟨hP, hD⟩ := kx_re (w2 := [kx_5 h0 g_row m_n m_slots m_thrown g_many g_loss g_less g_voteValue g_voteNumber g_allValue g_allNumber bm g_nodeL g_nodeR m_nodes g_part m_partMany g_wasMany g_wasLoss g_wasValue g_wasNumber g_path m_pathMany g_heavyValue g_heavyTimes m_heavyMany g_fewest g_which g_met m_mostMet, kx_a g_many cyI 324 (upd fm p2.toNatClampNeg lf), kx_a g_loss cyI 324 (upd fl p2.toNatClampNeg y_12), kx_a g_less cyI 324 (upd fe p2.toNatClampNeg 0), kx_a g_voteValue cyI 1944 wv, kx_a g_voteNumber cyI 1944 wn, kx_a g_allValue cyI 12 o_6, kx_a g_allNumber cyI 12 o_7]) hP hD rfl
                      have hP9 := hP
                      have hD9 := hD
                      have hK9 := hK
                      have hen := mj_wr_end LP3_h3 (m := bm.toNatClampNeg) (by omega) hsum w_5.1 (by omega)
                      exact W.vret hx hb hr (hlocks := hlocks) (fun t ht hW => ⟨⟨(bm, (0 : Int32), lf, (fun v => if (0 : Int) < mua v + mub v then mua v + mub v - 0 else 0), (upd fm p2.toNatClampNeg lf), (upd fl p2.toNatClampNeg y_12), (upd fe p2.toNatClampNeg 0), wv, wn, o_6, o_7), rfl, ⟨⟨o_6, o_7, bm.toNatClampNeg, hsum, w_5.1, Or.inl ⟨(by omega), rfl⟩, (fun v => rfl)⟩, (by (try dsimp only); rw [ey_12, ey_11, ey_9, ey_10]), rfl, rfl, (by (try dsimp only); omega), (by (try dsimp only); omega), hen.1, hen.2, LP3_h3.2.2.2.2⟩, by rw [ht]; exact hP9, va_K.moved hW.alike hK9, hD9⟩, hS.F ht⟩) hS.2.2 dX5_together_250
                    · have i_13 : k.toInt < bm.toInt := kc_nle c_13
                      refine lv_aload_n hx hb dX5_together_160 rfl (lv_at hl 4 rfl) ?_
                      refine va_get (D := (dC, dI)) (ci := 5) (v := .ref g_allNumber) (C := RX5) (T := TX5) (N := 30) hx hb hts hi_5 hown hK hP 0 rfl rfl 10 (by decide) hf_35 (fun _ h9 => h9) rfl dX5_together_161 ?_
                      refine lv_iload hx hb dX5_together_164 (lv_at hl 0 rfl) ?_
                      refine va_iald hx hb hK hP 7 0 rfl rfl (ki_in (om_10 LP3_h1) (om_305 b7 i_8 i_13)) dX5_together_166 ?_
                      refine lv_topi (fun y_14 ey_14 => ?_)
                      have j_14 : y_14.toInt = (o_7 k.toNatClampNeg).toInt := congrArg Int32.toInt ey_14
                      have g_15 : 0 < y_14.toInt ∧ y_14.toInt ≤ 1000000 := by rw [ey_14]; exact hbd k.toNatClampNeg (by omega)
                      refine lv_iload hx hb dX5_together_167 (lv_at hl 3 rfl) ?_
                      refine lv_isub hx hb dX5_together_169 ?_
                      refine lv_topi (fun y_16 ey_16 => ?_)
                      have i_16 : y_16.toInt = y_14.toInt - 0 := ki_sub ey_16 rfl rfl (by omega) (by omega)
                      refine lv_if_gt (tgt := 176) hx hb dX5_together_170 (by decide) (fun c_17 => ?_) (fun c_17 => ?_)
                      · have i_17 : 0 < y_16.toInt := kc_lt c_17
                        refine lv_aload_n hx hb dX5_together_176 rfl (lv_at hl 4 rfl) ?_
                        refine va_get (D := (dC, dI)) (ci := 5) (v := .ref g_voteValue) (C := RX5) (T := TX5) (N := 30) hx hb hts hi_5 hown hK hP 0 rfl rfl 7 (by decide) hf_26 (fun _ h9 => h9) rfl dX5_together_177 ?_
                        refine lv_bipush (v := 6) hx hb dX5_together_180 (by decide) ?_
                        refine lv_iload_n hx hb dX5_together_182 rfl (lv_at hl 7 rfl) ?_
                        refine lv_imul hx hb dX5_together_183 ?_
                        refine lv_topi (fun y_18 ey_18 => ?_)
                        have i_18 : y_18.toInt = 6 * p2.toInt := ki_mul ey_18 rfl rfl (om_247 b4) (om_306 b5)
                        refine lv_iload hx hb dX5_together_184 (lv_at hl 1 rfl) ?_
                        refine lv_iadd hx hb dX5_together_186 ?_
                        refine lv_topi (fun y_19 ey_19 => ?_)
                        have i_19 : y_19.toInt = y_18.toInt + lf.toInt := ki_add ey_19 rfl rfl (om_251 b4 LP3_h0 i_18) (by omega)
                        refine lv_aload_n hx hb dX5_together_187 rfl (lv_at hl 4 rfl) ?_
                        refine va_get (D := (dC, dI)) (ci := 5) (v := .ref g_allValue) (C := RX5) (T := TX5) (N := 30) hx hb hts hi_5 hown hK hP 0 rfl rfl 9 (by decide) hf_32 (fun _ h9 => h9) rfl dX5_together_188 ?_
                        refine lv_iload hx hb dX5_together_191 (lv_at hl 0 rfl) ?_
                        refine va_iald hx hb hK hP 6 0 rfl rfl (ki_in (om_10 LP3_h1) (om_305 b7 i_8 i_13)) dX5_together_193 ?_
                        refine lv_topi (fun y_20 ey_20 => ?_)
                        have j_20 : y_20.toInt = (o_6 k.toNatClampNeg).toInt := congrArg Int32.toInt ey_20
                        refine va_iast hx hb hK hP hD hS 4 0 rfl rfl (ki_in (om_253 b4 LP3_h0 i_18 i_19) (by omega)) dX5_together_194 (fun H locs hP hD hS => ?_)
                        obtain ⟨hP, hD⟩ := kx_re (w2 := [kx_5 h0 g_row m_n m_slots m_thrown g_many g_loss g_less g_voteValue g_voteNumber g_allValue g_allNumber bm g_nodeL g_nodeR m_nodes g_part m_partMany g_wasMany g_wasLoss g_wasValue g_wasNumber g_path m_pathMany g_heavyValue g_heavyTimes m_heavyMany g_fewest g_which g_met m_mostMet, kx_a g_many cyI 324 fm, kx_a g_loss cyI 324 fl, kx_a g_less cyI 324 fe, kx_a g_voteValue cyI 1944 (upd wv y_19.toNatClampNeg y_20), kx_a g_voteNumber cyI 1944 wn, kx_a g_allValue cyI 12 o_6, kx_a g_allNumber cyI 12 o_7]) hP hD rfl
                        refine lv_aload_n hx hb dX5_together_195 rfl (lv_at hl 4 rfl) ?_
                        refine va_get (D := (dC, dI)) (ci := 5) (v := .ref g_voteNumber) (C := RX5) (T := TX5) (N := 30) hx hb hts hi_5 hown hK hP 0 rfl rfl 8 (by decide) hf_29 (fun _ h9 => h9) rfl dX5_together_196 ?_
                        refine lv_bipush (v := 6) hx hb dX5_together_199 (by decide) ?_
                        refine lv_iload_n hx hb dX5_together_201 rfl (lv_at hl 7 rfl) ?_
                        refine lv_imul hx hb dX5_together_202 ?_
                        refine lv_topi (fun y_21 ey_21 => ?_)
                        have i_21 : y_21.toInt = 6 * p2.toInt := ki_mul ey_21 rfl rfl (om_247 b4) (om_306 b5)
                        refine lv_iload hx hb dX5_together_203 (lv_at hl 1 rfl) ?_
                        refine lv_iadd hx hb dX5_together_205 ?_
                        refine lv_topi (fun y_22 ey_22 => ?_)
                        have i_22 : y_22.toInt = y_21.toInt + lf.toInt := ki_add ey_22 rfl rfl (om_251 b4 LP3_h0 i_21) (by omega)
                        refine lv_aload_n hx hb dX5_together_206 rfl (lv_at hl 4 rfl) ?_
                        refine va_get (D := (dC, dI)) (ci := 5) (v := .ref g_allNumber) (C := RX5) (T := TX5) (N := 30) hx hb hts hi_5 hown hK hP 0 rfl rfl 10 (by decide) hf_35 (fun _ h9 => h9) rfl dX5_together_207 ?_
                        refine lv_iload hx hb dX5_together_210 (lv_at hl 0 rfl) ?_
                        refine va_iald hx hb hK hP 7 0 rfl rfl (ki_in (om_10 LP3_h1) (om_305 b7 i_8 i_13)) dX5_together_212 ?_
                        refine lv_topi (fun y_23 ey_23 => ?_)
                        have j_23 : y_23.toInt = (o_7 k.toNatClampNeg).toInt := congrArg Int32.toInt ey_23
                        have g_24 : 0 < y_23.toInt ∧ y_23.toInt ≤ 1000000 := by rw [ey_23]; exact hbd k.toNatClampNeg (by omega)
                        refine lv_iload hx hb dX5_together_213 (lv_at hl 3 rfl) ?_
                        refine lv_isub hx hb dX5_together_215 ?_
                        refine lv_topi (fun y_25 ey_25 => ?_)
                        have i_25 : y_25.toInt = y_23.toInt - 0 := ki_sub ey_25 rfl rfl (om_307 j_14 i_16 i_17 j_23) (by omega)
                        refine va_iast hx hb hK hP hD hS 5 0 rfl rfl (ki_in (om_253 b4 LP3_h0 i_21 i_22) (by omega)) dX5_together_216 (fun H locs hP hD hS => ?_)
                        obtain ⟨hP, hD⟩ := kx_re (w2 := [kx_5 h0 g_row m_n m_slots m_thrown g_many g_loss g_less g_voteValue g_voteNumber g_allValue g_allNumber bm g_nodeL g_nodeR m_nodes g_part m_partMany g_wasMany g_wasLoss g_wasValue g_wasNumber g_path m_pathMany g_heavyValue g_heavyTimes m_heavyMany g_fewest g_which g_met m_mostMet, kx_a g_many cyI 324 fm, kx_a g_loss cyI 324 fl, kx_a g_less cyI 324 fe, kx_a g_voteValue cyI 1944 (upd wv y_19.toNatClampNeg y_20), kx_a g_voteNumber cyI 1944 (upd wn y_22.toNatClampNeg y_25), kx_a g_allValue cyI 12 o_6, kx_a g_allNumber cyI 12 o_7]) hP hD rfl
                        obtain ⟨x_26, ex_26⟩ : ∃ y : Int32, y = lf + 1 := ⟨_, rfl⟩
                        have i_26 : x_26.toInt = lf.toInt + 1 := ki_add ex_26 rfl rfl (om_13 LP3_h0) (by omega)
                        refine lv_iinc (v := x_26) (lv' := [(7, .int x_26), (8, .int k), (6, .int y_12), (5, .int 0), (0, .ref h0), (1, .int p0), (2, .int p1), (3, .int p2), (4, .int p3)]) hx hb dX5_together_217 hl (k := 1) rfl (by rw [ex_26]; rfl) (by decide) rfl (fun ls hl => ?_)
                        obtain ⟨x_27, ex_27⟩ : ∃ y : Int32, y = k + 1 := ⟨_, rfl⟩
                        have i_27 : x_27.toInt = k.toInt + 1 := ki_add ex_27 rfl rfl (om_13 LP3_h1) (om_308 b7 i_8 i_13)
                        refine lv_iinc (v := x_27) (lv' := [(8, .int x_27), (7, .int x_26), (6, .int y_12), (5, .int 0), (0, .ref h0), (1, .int p0), (2, .int p1), (3, .int p2), (4, .int p3)]) hx hb dX5_together_220 hl (k := 1) rfl (by rw [ex_27]; rfl) (by decide) rfl (fun ls hl => ?_)
                        refine lv_goto (tgt := 151) hx hb dX5_together_223 (by decide) ?_
                        have n_28 := ki_nat x_27 rfl (om_34 LP3_h1 i_27)
                        have n_29 := ki_nat y_19 rfl (om_253 b4 LP3_h0 i_18 i_19)
                        have n_30 := ki_nat y_22 rfl (om_253 b4 LP3_h0 i_21 i_22)
                        have n_31 := ki_nat x_26 rfl (om_34 LP3_h0 i_26)
                        exact ih3 x_26 x_27 (upd wv y_19.toNatClampNeg y_20) (upd wn y_22.toNatClampNeg y_25) (om_34 LP3_h0 i_26) (om_34 LP3_h1 i_27) (om_54 i_13 i_27) (mj_wr_put LP3_h3 w_5.1 (by omega) (by omega) (fun h => absurd h (by omega)) (by omega) ey_20 (by omega) (by omega) (by omega) (by omega) (by omega)) (om_mu hn3 (om_5 i_27) (om_6 i_13)) _ _ hP hD hS ls (lv_sub hl [0, 1, 2, 3, 4, 5, 6, 7, 8] rfl)
                      · have i_17 : y_16.toInt ≤ 0 := kc_nlt c_17
                        refine lv_goto (tgt := 220) hx hb dX5_together_173 (by decide) ?_
                        obtain ⟨x_32, ex_32⟩ : ∃ y : Int32, y = k + 1 := ⟨_, rfl⟩
                        have i_32 : x_32.toInt = k.toInt + 1 := ki_add ex_32 rfl rfl (om_13 LP3_h1) (om_308 b7 i_8 i_13)
                        refine lv_iinc (v := x_32) (lv' := [(8, .int x_32), (7, .int lf), (6, .int y_12), (5, .int 0), (0, .ref h0), (1, .int p0), (2, .int p1), (3, .int p2), (4, .int p3)]) hx hb dX5_together_220 hl (k := 0) rfl (by rw [ex_32]; rfl) (by decide) rfl (fun ls hl => ?_)
                        refine lv_goto (tgt := 151) hx hb dX5_together_223 (by decide) ?_
                        have n_33 := ki_nat x_32 rfl (om_34 LP3_h1 i_32)
                        exact ih3 lf x_32 wv wn (om_10 LP3_h0) (om_34 LP3_h1 i_32) (om_54 i_13 i_32) (mj_wr_skip LP3_h3 (by omega) (by omega)) (om_mu hn3 (om_5 i_32) (om_6 i_13)) _ _ hP hD hS ls (lv_sub hl [0, 1, 2, 3, 4, 5, 6, 7, 8] rfl)
                have k_34 : (0 : Int32).toInt = 0 := rfl
                have k_35 : (0 : Int32).toInt = 0 := rfl
                exact LP3 ((bm.toInt - 0 : Int).toNat + 1) 0 0 vv vn om_35 om_35 (om_10 LP2_h2) (mj_wr_0 _ _ _ _ _ _ _) (Nat.lt_succ_self _) _ _ hP hD hS ls (lv_sub hl [0, 1, 2, 3, 4, 5, 6, 7, 8] rfl)
              · have i_8 : p3.toInt < bm.toInt := kc_nle c_8
                refine lv_aload_n hx hb dX5_together_114 rfl (lv_at hl 1 rfl) ?_
                refine va_get (D := (dC, dI)) (ci := 5) (v := .ref g_allNumber) (C := RX5) (T := TX5) (N := 30) hx hb hts hi_5 hown hK hP 0 rfl rfl 10 (by decide) hf_35 (fun _ h9 => h9) rfl dX5_together_115 ?_
                refine lv_iload hx hb dX5_together_118 (lv_at hl 5 rfl) ?_
                refine va_iald hx hb hK hP 7 0 rfl rfl (ki_in (om_10 b6) (om_309 b7)) dX5_together_120 ?_
                refine lv_topi (fun y_36 ey_36 => ?_)
                have j_36 : y_36.toInt = (o_7 p3.toNatClampNeg).toInt := congrArg Int32.toInt ey_36
                have g_37 : 0 < y_36.toInt ∧ y_36.toInt ≤ 1000000 := by rw [ey_36]; exact hbd p3.toNatClampNeg (by omega)
                refine lv_goto (tgt := 125) hx hb dX5_together_121 (by decide) ?_
                refine lv_istore (lv' := [(5, .int y_36), (0, .ref h0), (1, .int p0), (2, .int p1), (3, .int p2), (4, .int p3)]) hx hb dX5_together_125 hl (by decide) rfl (fun ls hl => ?_)
                refine lv_aload_n hx hb dX5_together_127 rfl (lv_at hl 1 rfl) ?_
                refine va_get (D := (dC, dI)) (ci := 5) (v := .ref g_loss) (C := RX5) (T := TX5) (N := 30) hx hb hts hi_5 hown hK hP 0 rfl rfl 5 (by decide) hf_20 (fun _ h9 => h9) rfl dX5_together_128 ?_
                refine lv_iload_n hx hb dX5_together_131 rfl (lv_at hl 2 rfl) ?_
                refine va_iald hx hb hK hP 2 0 rfl rfl (ki_in (om_10 b0) (om_246 b1)) dX5_together_132 ?_
                refine lv_topi (fun y_38 ey_38 => ?_)
                have j_38 : y_38.toInt = (fl p0.toNatClampNeg).toInt := congrArg Int32.toInt ey_38
                refine lv_aload_n hx hb dX5_together_133 rfl (lv_at hl 1 rfl) ?_
                refine va_get (D := (dC, dI)) (ci := 5) (v := .ref g_loss) (C := RX5) (T := TX5) (N := 30) hx hb hts hi_5 hown hK hP 0 rfl rfl 5 (by decide) hf_20 (fun _ h9 => h9) rfl dX5_together_134 ?_
                refine lv_iload_n hx hb dX5_together_137 rfl (lv_at hl 3 rfl) ?_
                refine va_iald hx hb hK hP 2 0 rfl rfl (ki_in (om_10 b2) (om_246 b3)) dX5_together_138 ?_
                refine lv_topi (fun y_39 ey_39 => ?_)
                have j_39 : y_39.toInt = (fl p1.toNatClampNeg).toInt := congrArg Int32.toInt ey_39
                refine lv_iadd hx hb dX5_together_139 ?_
                refine lv_topi (fun y_40 ey_40 => ?_)
                refine lv_iload hx hb dX5_together_140 (lv_at hl 0 rfl) ?_
                refine lv_iadd hx hb dX5_together_142 ?_
                refine lv_topi (fun y_41 ey_41 => ?_)
                refine lv_istore (lv' := [(6, .int y_41), (5, .int y_36), (0, .ref h0), (1, .int p0), (2, .int p1), (3, .int p2), (4, .int p3)]) hx hb dX5_together_143 hl (by decide) rfl (fun ls hl => ?_)
                refine lv_iconst (v := 0) hx hb dX5_together_145 (by decide) ?_
                refine lv_istore (lv' := [(7, .int 0), (6, .int y_41), (5, .int y_36), (0, .ref h0), (1, .int p0), (2, .int p1), (3, .int p2), (4, .int p3)]) hx hb dX5_together_146 hl (by decide) rfl (fun ls hl => ?_)
                refine lv_iconst (v := 0) hx hb dX5_together_148 (by decide) ?_
                refine lv_istore (lv' := [(8, .int 0), (7, .int 0), (6, .int y_41), (5, .int y_36), (0, .ref h0), (1, .int p0), (2, .int p1), (3, .int p2), (4, .int p3)]) hx hb dX5_together_149 hl (by decide) rfl (fun ls hl => ?_)
                have LP4 : ∀ (n : Nat) (lf : Int32) (k : Int32) (wv : Nat → Int32) (wn : Nat → Int32), (0 ≤ lf.toInt) → (0 ≤ k.toInt) → (k.toInt ≤ bm.toInt) → (mj_wr p3.toNatClampNeg o_6 o_7 y_36.toInt (6 * p2.toNatClampNeg) lf.toNatClampNeg k.toNatClampNeg vv vn wv wn) → (bm.toInt - k.toInt).toNat < n → ∀ (H : Heap) (locs : List Loc), va_P (dC, dI) vwCl [kx_5 h0 g_row m_n m_slots m_thrown g_many g_loss g_less g_voteValue g_voteNumber g_allValue g_allNumber bm g_nodeL g_nodeR m_nodes g_part m_partMany g_wasMany g_wasLoss g_wasValue g_wasNumber g_path m_pathMany g_heavyValue g_heavyTimes m_heavyMany g_fewest g_which g_met m_mostMet, kx_a g_many cyI 324 fm, kx_a g_loss cyI 324 fl, kx_a g_less cyI 324 fe, kx_a g_voteValue cyI 1944 wv, kx_a g_voteNumber cyI 1944 wn, kx_a g_allValue cyI 12 o_6, kx_a g_allNumber cyI 12 o_7] H → va_D A [kx_5 h0 g_row m_n m_slots m_thrown g_many g_loss g_less g_voteValue g_voteNumber g_allValue g_allNumber bm g_nodeL g_nodeR m_nodes g_part m_partMany g_wasMany g_wasLoss g_wasValue g_wasNumber g_path m_pathMany g_heavyValue g_heavyTimes m_heavyMany g_fewest g_which g_met m_mostMet, kx_a g_many cyI 324 fm, kx_a g_loss cyI 324 fl, kx_a g_less cyI 324 fe, kx_a g_voteValue cyI 1944 wv, kx_a g_voteNumber cyI 1944 wn, kx_a g_allValue cyI 12 o_6, kx_a g_allNumber cyI 12 o_7] → va_S A s.heap H locs → ∀ (ls : Array Slot), lv_has ls 9 [(8, .int k), (7, .int lf), (6, .int y_41), (5, .int y_36), (0, .ref h0), (1, .int p0), (2, .int p1), (3, .int p2), (4, .int p3)] → W p l e (headSpec wsX5_together ({ frames := 2, cells := 0, slots := 0, locals := 90 })).room s m ([.ref h0, .int p0, .int p1, .int p2, .int p3] : List Value).toArray below meth c H locs 0 0 (MQ below (va_Qv (fun u : Int32 × Int32 × Int32 × (Int32 → Int) × (Nat → Int32) × (Nat → Int32) × (Nat → Int32) × (Nat → Int32) × (Nat → Int32) × (Nat → Int32) × (Nat → Int32) => mj_tog p3.toNatClampNeg mua mub u.2.2.2.1 u.2.1 ∧ u.2.2.2.2.2.1 = upd fl p2.toNatClampNeg (fl p0.toNatClampNeg + fl p1.toNatClampNeg + u.2.1) ∧ u.2.2.2.2.2.2.1 = upd fe p2.toNatClampNeg u.2.1 ∧ u.2.2.2.2.1 = upd fm p2.toNatClampNeg u.2.2.1 ∧ 0 ≤ u.2.2.1.toInt ∧ u.2.2.1.toInt ≤ p3.toInt ∧ mj_vs u.2.2.2.2.2.2.2.1 u.2.2.2.2.2.2.2.2.1 (6 * p2.toNatClampNeg) u.2.2.1.toNatClampNeg u.2.2.2.1 ∧ mj_srt u.2.2.2.2.2.2.2.1 u.2.2.2.2.2.2.2.2.1 (6 * p2.toNatClampNeg) u.2.2.1.toNatClampNeg ∧ ∀ q : Nat, (q < 6 * p2.toNatClampNeg ∨ 6 * p2.toNatClampNeg + 6 ≤ q) → u.2.2.2.2.2.2.2.1 q = vv q ∧ u.2.2.2.2.2.2.2.2.1 q = vn q) (fun (u : Int32 × Int32 × Int32 × (Int32 → Int) × (Nat → Int32) × (Nat → Int32) × (Nat → Int32) × (Nat → Int32) × (Nat → Int32) × (Nat → Int32) × (Nat → Int32)) (t : State) => va_P (dC, dI) vwCl [kx_5 h0 g_row m_n m_slots m_thrown g_many g_loss g_less g_voteValue g_voteNumber g_allValue g_allNumber u.1 g_nodeL g_nodeR m_nodes g_part m_partMany g_wasMany g_wasLoss g_wasValue g_wasNumber g_path m_pathMany g_heavyValue g_heavyTimes m_heavyMany g_fewest g_which g_met m_mostMet, kx_a g_many cyI 324 u.2.2.2.2.1, kx_a g_loss cyI 324 u.2.2.2.2.2.1, kx_a g_less cyI 324 u.2.2.2.2.2.2.1, kx_a g_voteValue cyI 1944 u.2.2.2.2.2.2.2.1, kx_a g_voteNumber cyI 1944 u.2.2.2.2.2.2.2.2.1, kx_a g_allValue cyI 12 u.2.2.2.2.2.2.2.2.2.1, kx_a g_allNumber cyI 12 u.2.2.2.2.2.2.2.2.2.2] t.heap ∧ va_K (dC, dI) vwCl [(cyI, .int)] t ∧ va_D A [kx_5 h0 g_row m_n m_slots m_thrown g_many g_loss g_less g_voteValue g_voteNumber g_allValue g_allNumber u.1 g_nodeL g_nodeR m_nodes g_part m_partMany g_wasMany g_wasLoss g_wasValue g_wasNumber g_path m_pathMany g_heavyValue g_heavyTimes m_heavyMany g_fewest g_which g_met m_mostMet, kx_a g_many cyI 324 u.2.2.2.2.1, kx_a g_loss cyI 324 u.2.2.2.2.2.1, kx_a g_less cyI 324 u.2.2.2.2.2.2.1, kx_a g_voteValue cyI 1944 u.2.2.2.2.2.2.2.1, kx_a g_voteNumber cyI 1944 u.2.2.2.2.2.2.2.2.1, kx_a g_allValue cyI 12 u.2.2.2.2.2.2.2.2.2.1, kx_a g_allNumber cyI 12 u.2.2.2.2.2.2.2.2.2.2]) A) ([.ref h0, .int p0, .int p1, .int p2, .int p3] : List Value).toArray s 0 0 A) (F0 m 151 ls []) := by
                  intro n
                  induction n with
                  | zero => intro lf k wv wn LP4_h0 LP4_h1 LP4_h2 LP4_h3 hn; exact absurd hn (Nat.not_lt_zero _)
                  | succ n ih4 =>
                    intro lf k wv wn LP4_h0 LP4_h1 LP4_h2 LP4_h3 hn4 H locs hP hD hS ls hl
                    have n_lf := ki_nat lf rfl (om_10 LP4_h0)
                    have n_k := ki_nat k rfl (om_10 LP4_h1)
                    have h_lf := LP4_h3.2.1
                    refine lv_iload hx hb dX5_together_151 (lv_at hl 0 rfl) ?_
                    refine lv_aload_n hx hb dX5_together_153 rfl (lv_at hl 4 rfl) ?_
                    refine va_get (D := (dC, dI)) (ci := 5) (v := .int bm) (C := RX5) (T := TX5) (N := 30) hx hb hts hi_5 hown hK hP 0 rfl rfl 11 (by decide) hf_87 (fun _ h9 => h9) rfl dX5_together_154 ?_
                    refine lv_icmp_ge (tgt := 226) hx hb dX5_together_157 (by decide) (fun c_42 => ?_) (fun c_42 => ?_)
                    · have i_42 : bm.toInt ≤ k.toInt := kc_le c_42
                      refine lv_aload_n hx hb dX5_together_226 rfl (lv_at hl 4 rfl) ?_
                      refine va_get (D := (dC, dI)) (ci := 5) (v := .ref g_many) (C := RX5) (T := TX5) (N := 30) hx hb hts hi_5 hown hK hP 0 rfl rfl 4 (by decide) hf_17 (fun _ h9 => h9) rfl dX5_together_227 ?_
                      refine lv_iload_n hx hb dX5_together_230 rfl (lv_at hl 7 rfl) ?_
                      refine lv_iload hx hb dX5_together_231 (lv_at hl 1 rfl) ?_
                      refine va_iast hx hb hK hP hD hS 1 0 rfl rfl (ki_in (om_10 b4) (om_304 b5)) dX5_together_233 (fun H locs hP hD hS => ?_)
                      obtain ⟨hP, hD⟩ := kx_re (w2 := [kx_5 h0 g_row m_n m_slots m_thrown g_many g_loss g_less g_voteValue g_voteNumber g_allValue g_allNumber bm g_nodeL g_nodeR m_nodes g_part m_partMany g_wasMany g_wasLoss g_wasValue g_wasNumber g_path m_pathMany g_heavyValue g_heavyTimes m_heavyMany g_fewest g_which g_met m_mostMet, kx_a g_many cyI 324 (upd fm p2.toNatClampNeg lf), kx_a g_loss cyI 324 fl, kx_a g_less cyI 324 fe, kx_a g_voteValue cyI 1944 wv, kx_a g_voteNumber cyI 1944 wn, kx_a g_allValue cyI 12 o_6, kx_a g_allNumber cyI 12 o_7]) hP hD rfl
                      refine lv_aload_n hx hb dX5_together_234 rfl (lv_at hl 4 rfl) ?_
                      refine va_get (D := (dC, dI)) (ci := 5) (v := .ref g_loss) (C := RX5) (T := TX5) (N := 30) hx hb hts hi_5 hown hK hP 0 rfl rfl 5 (by decide) hf_20 (fun _ h9 => h9) rfl dX5_together_235 ?_
                      refine lv_iload_n hx hb dX5_together_238 rfl (lv_at hl 7 rfl) ?_
                      refine lv_iload hx hb dX5_together_239 (lv_at hl 2 rfl) ?_
                      refine va_iast hx hb hK hP hD hS 2 0 rfl rfl (ki_in (om_10 b4) (om_304 b5)) dX5_together_241 (fun H locs hP hD hS => ?_)
                      obtain ⟨hP, hD⟩ := kx_re (w2 := [kx_5 h0 g_row m_n m_slots m_thrown g_many g_loss g_less g_voteValue g_voteNumber g_allValue g_allNumber bm g_nodeL g_nodeR m_nodes g_part m_partMany g_wasMany g_wasLoss g_wasValue g_wasNumber g_path m_pathMany g_heavyValue g_heavyTimes m_heavyMany g_fewest g_which g_met m_mostMet, kx_a g_many cyI 324 (upd fm p2.toNatClampNeg lf), kx_a g_loss cyI 324 (upd fl p2.toNatClampNeg y_41), kx_a g_less cyI 324 fe, kx_a g_voteValue cyI 1944 wv, kx_a g_voteNumber cyI 1944 wn, kx_a g_allValue cyI 12 o_6, kx_a g_allNumber cyI 12 o_7]) hP hD rfl
                      refine lv_aload_n hx hb dX5_together_242 rfl (lv_at hl 4 rfl) ?_
                      refine va_get (D := (dC, dI)) (ci := 5) (v := .ref g_less) (C := RX5) (T := TX5) (N := 30) hx hb hts hi_5 hown hK hP 0 rfl rfl 6 (by decide) hf_23 (fun _ h9 => h9) rfl dX5_together_243 ?_
                      refine lv_iload_n hx hb dX5_together_246 rfl (lv_at hl 7 rfl) ?_
                      refine lv_iload hx hb dX5_together_247 (lv_at hl 3 rfl) ?_
                      refine va_iast hx hb hK hP hD hS 3 0 rfl rfl (ki_in (om_10 b4) (om_304 b5)) dX5_together_249 (fun H locs hP hD hS => ?_)
                      obtain ⟨hP, hD⟩ := kx_re (w2 := [kx_5 h0 g_row m_n m_slots m_thrown g_many g_loss g_less g_voteValue g_voteNumber g_allValue g_allNumber bm g_nodeL g_nodeR m_nodes g_part m_partMany g_wasMany g_wasLoss g_wasValue g_wasNumber g_path m_pathMany g_heavyValue g_heavyTimes m_heavyMany g_fewest g_which g_met m_mostMet, kx_a g_many cyI 324 (upd fm p2.toNatClampNeg lf), kx_a g_loss cyI 324 (upd fl p2.toNatClampNeg y_41), kx_a g_less cyI 324 (upd fe p2.toNatClampNeg y_36), kx_a g_voteValue cyI 1944 wv, kx_a g_voteNumber cyI 1944 wn, kx_a g_allValue cyI 12 o_6, kx_a g_allNumber cyI 12 o_7]) hP hD rfl
                      have hP9 := hP
                      have hD9 := hD
                      have hK9 := hK
                      have hen := mj_wr_end LP4_h3 (m := bm.toNatClampNeg) (by omega) hsum w_5.1 (by omega)
                      exact W.vret hx hb hr (hlocks := hlocks) (fun t ht hW => ⟨⟨(bm, y_36, lf, (fun v => if (y_36.toInt : Int) < mua v + mub v then mua v + mub v - y_36.toInt else 0), (upd fm p2.toNatClampNeg lf), (upd fl p2.toNatClampNeg y_41), (upd fe p2.toNatClampNeg y_36), wv, wn, o_6, o_7), rfl, ⟨⟨o_6, o_7, bm.toNatClampNeg, hsum, w_5.1, Or.inr ⟨(by omega), ey_36⟩, (fun v => rfl)⟩, (by (try dsimp only); rw [ey_41, ey_40, ey_38, ey_39]), rfl, rfl, (by (try dsimp only); omega), (by (try dsimp only); omega), hen.1, hen.2, LP4_h3.2.2.2.2⟩, by rw [ht]; exact hP9, va_K.moved hW.alike hK9, hD9⟩, hS.F ht⟩) hS.2.2 dX5_together_250
                    · have i_42 : k.toInt < bm.toInt := kc_nle c_42
                      refine lv_aload_n hx hb dX5_together_160 rfl (lv_at hl 4 rfl) ?_
                      refine va_get (D := (dC, dI)) (ci := 5) (v := .ref g_allNumber) (C := RX5) (T := TX5) (N := 30) hx hb hts hi_5 hown hK hP 0 rfl rfl 10 (by decide) hf_35 (fun _ h9 => h9) rfl dX5_together_161 ?_
                      refine lv_iload hx hb dX5_together_164 (lv_at hl 0 rfl) ?_
                      refine va_iald hx hb hK hP 7 0 rfl rfl (ki_in (om_10 LP4_h1) (om_310 m1 m3 LP2_h1 LP2_h3 i_42)) dX5_together_166 ?_
                      refine lv_topi (fun y_43 ey_43 => ?_)
                      have j_43 : y_43.toInt = (o_7 k.toNatClampNeg).toInt := congrArg Int32.toInt ey_43
                      have g_44 : 0 < y_43.toInt ∧ y_43.toInt ≤ 1000000 := by rw [ey_43]; exact hbd k.toNatClampNeg (by omega)
                      refine lv_iload hx hb dX5_together_167 (lv_at hl 3 rfl) ?_
                      refine lv_isub hx hb dX5_together_169 ?_
                      refine lv_topi (fun y_45 ey_45 => ?_)
                      have i_45 : y_45.toInt = y_43.toInt - y_36.toInt := ki_sub ey_45 rfl rfl (by omega) (by omega)
                      refine lv_if_gt (tgt := 176) hx hb dX5_together_170 (by decide) (fun c_46 => ?_) (fun c_46 => ?_)
                      · have i_46 : 0 < y_45.toInt := kc_lt c_46
                        refine lv_aload_n hx hb dX5_together_176 rfl (lv_at hl 4 rfl) ?_
                        refine va_get (D := (dC, dI)) (ci := 5) (v := .ref g_voteValue) (C := RX5) (T := TX5) (N := 30) hx hb hts hi_5 hown hK hP 0 rfl rfl 7 (by decide) hf_26 (fun _ h9 => h9) rfl dX5_together_177 ?_
                        refine lv_bipush (v := 6) hx hb dX5_together_180 (by decide) ?_
                        refine lv_iload_n hx hb dX5_together_182 rfl (lv_at hl 7 rfl) ?_
                        refine lv_imul hx hb dX5_together_183 ?_
                        refine lv_topi (fun y_47 ey_47 => ?_)
                        have i_47 : y_47.toInt = 6 * p2.toInt := ki_mul ey_47 rfl rfl (om_247 b4) (om_306 b5)
                        refine lv_iload hx hb dX5_together_184 (lv_at hl 1 rfl) ?_
                        refine lv_iadd hx hb dX5_together_186 ?_
                        refine lv_topi (fun y_48 ey_48 => ?_)
                        have i_48 : y_48.toInt = y_47.toInt + lf.toInt := ki_add ey_48 rfl rfl (om_251 b4 LP4_h0 i_47) (by omega)
                        refine lv_aload_n hx hb dX5_together_187 rfl (lv_at hl 4 rfl) ?_
                        refine va_get (D := (dC, dI)) (ci := 5) (v := .ref g_allValue) (C := RX5) (T := TX5) (N := 30) hx hb hts hi_5 hown hK hP 0 rfl rfl 9 (by decide) hf_32 (fun _ h9 => h9) rfl dX5_together_188 ?_
                        refine lv_iload hx hb dX5_together_191 (lv_at hl 0 rfl) ?_
                        refine va_iald hx hb hK hP 6 0 rfl rfl (ki_in (om_10 LP4_h1) (om_310 m1 m3 LP2_h1 LP2_h3 i_42)) dX5_together_193 ?_
                        refine lv_topi (fun y_49 ey_49 => ?_)
                        have j_49 : y_49.toInt = (o_6 k.toNatClampNeg).toInt := congrArg Int32.toInt ey_49
                        refine va_iast hx hb hK hP hD hS 4 0 rfl rfl (ki_in (om_253 b4 LP4_h0 i_47 i_48) (by omega)) dX5_together_194 (fun H locs hP hD hS => ?_)
                        obtain ⟨hP, hD⟩ := kx_re (w2 := [kx_5 h0 g_row m_n m_slots m_thrown g_many g_loss g_less g_voteValue g_voteNumber g_allValue g_allNumber bm g_nodeL g_nodeR m_nodes g_part m_partMany g_wasMany g_wasLoss g_wasValue g_wasNumber g_path m_pathMany g_heavyValue g_heavyTimes m_heavyMany g_fewest g_which g_met m_mostMet, kx_a g_many cyI 324 fm, kx_a g_loss cyI 324 fl, kx_a g_less cyI 324 fe, kx_a g_voteValue cyI 1944 (upd wv y_48.toNatClampNeg y_49), kx_a g_voteNumber cyI 1944 wn, kx_a g_allValue cyI 12 o_6, kx_a g_allNumber cyI 12 o_7]) hP hD rfl
                        refine lv_aload_n hx hb dX5_together_195 rfl (lv_at hl 4 rfl) ?_
                        refine va_get (D := (dC, dI)) (ci := 5) (v := .ref g_voteNumber) (C := RX5) (T := TX5) (N := 30) hx hb hts hi_5 hown hK hP 0 rfl rfl 8 (by decide) hf_29 (fun _ h9 => h9) rfl dX5_together_196 ?_
                        refine lv_bipush (v := 6) hx hb dX5_together_199 (by decide) ?_
                        refine lv_iload_n hx hb dX5_together_201 rfl (lv_at hl 7 rfl) ?_
                        refine lv_imul hx hb dX5_together_202 ?_
                        refine lv_topi (fun y_50 ey_50 => ?_)
                        have i_50 : y_50.toInt = 6 * p2.toInt := ki_mul ey_50 rfl rfl (om_247 b4) (om_306 b5)
                        refine lv_iload hx hb dX5_together_203 (lv_at hl 1 rfl) ?_
                        refine lv_iadd hx hb dX5_together_205 ?_
                        refine lv_topi (fun y_51 ey_51 => ?_)
                        have i_51 : y_51.toInt = y_50.toInt + lf.toInt := ki_add ey_51 rfl rfl (om_251 b4 LP4_h0 i_50) (by omega)
                        refine lv_aload_n hx hb dX5_together_206 rfl (lv_at hl 4 rfl) ?_
                        refine va_get (D := (dC, dI)) (ci := 5) (v := .ref g_allNumber) (C := RX5) (T := TX5) (N := 30) hx hb hts hi_5 hown hK hP 0 rfl rfl 10 (by decide) hf_35 (fun _ h9 => h9) rfl dX5_together_207 ?_
                        refine lv_iload hx hb dX5_together_210 (lv_at hl 0 rfl) ?_
                        refine va_iald hx hb hK hP 7 0 rfl rfl (ki_in (om_10 LP4_h1) (om_310 m1 m3 LP2_h1 LP2_h3 i_42)) dX5_together_212 ?_
                        refine lv_topi (fun y_52 ey_52 => ?_)
                        have j_52 : y_52.toInt = (o_7 k.toNatClampNeg).toInt := congrArg Int32.toInt ey_52
                        have g_53 : 0 < y_52.toInt ∧ y_52.toInt ≤ 1000000 := by rw [ey_52]; exact hbd k.toNatClampNeg (by omega)
                        refine lv_iload hx hb dX5_together_213 (lv_at hl 3 rfl) ?_
                        refine lv_isub hx hb dX5_together_215 ?_
                        refine lv_topi (fun y_54 ey_54 => ?_)
                        have i_54 : y_54.toInt = y_52.toInt - y_36.toInt := ki_sub ey_54 rfl rfl (om_311 j_43 i_45 i_46 j_52) (by omega)
                        refine va_iast hx hb hK hP hD hS 5 0 rfl rfl (ki_in (om_253 b4 LP4_h0 i_50 i_51) (by omega)) dX5_together_216 (fun H locs hP hD hS => ?_)
                        obtain ⟨hP, hD⟩ := kx_re (w2 := [kx_5 h0 g_row m_n m_slots m_thrown g_many g_loss g_less g_voteValue g_voteNumber g_allValue g_allNumber bm g_nodeL g_nodeR m_nodes g_part m_partMany g_wasMany g_wasLoss g_wasValue g_wasNumber g_path m_pathMany g_heavyValue g_heavyTimes m_heavyMany g_fewest g_which g_met m_mostMet, kx_a g_many cyI 324 fm, kx_a g_loss cyI 324 fl, kx_a g_less cyI 324 fe, kx_a g_voteValue cyI 1944 (upd wv y_48.toNatClampNeg y_49), kx_a g_voteNumber cyI 1944 (upd wn y_51.toNatClampNeg y_54), kx_a g_allValue cyI 12 o_6, kx_a g_allNumber cyI 12 o_7]) hP hD rfl
                        obtain ⟨x_55, ex_55⟩ : ∃ y : Int32, y = lf + 1 := ⟨_, rfl⟩
                        have i_55 : x_55.toInt = lf.toInt + 1 := ki_add ex_55 rfl rfl (om_13 LP4_h0) (by omega)
                        refine lv_iinc (v := x_55) (lv' := [(7, .int x_55), (8, .int k), (6, .int y_41), (5, .int y_36), (0, .ref h0), (1, .int p0), (2, .int p1), (3, .int p2), (4, .int p3)]) hx hb dX5_together_217 hl (k := 1) rfl (by rw [ex_55]; rfl) (by decide) rfl (fun ls hl => ?_)
                        obtain ⟨x_56, ex_56⟩ : ∃ y : Int32, y = k + 1 := ⟨_, rfl⟩
                        have i_56 : x_56.toInt = k.toInt + 1 := ki_add ex_56 rfl rfl (om_13 LP4_h1) (om_312 m1 m3 LP2_h1 LP2_h3 i_42)
                        refine lv_iinc (v := x_56) (lv' := [(8, .int x_56), (7, .int x_55), (6, .int y_41), (5, .int y_36), (0, .ref h0), (1, .int p0), (2, .int p1), (3, .int p2), (4, .int p3)]) hx hb dX5_together_220 hl (k := 1) rfl (by rw [ex_56]; rfl) (by decide) rfl (fun ls hl => ?_)
                        refine lv_goto (tgt := 151) hx hb dX5_together_223 (by decide) ?_
                        have n_57 := ki_nat x_56 rfl (om_34 LP4_h1 i_56)
                        have n_58 := ki_nat y_48 rfl (om_253 b4 LP4_h0 i_47 i_48)
                        have n_59 := ki_nat y_51 rfl (om_253 b4 LP4_h0 i_50 i_51)
                        have n_60 := ki_nat x_55 rfl (om_34 LP4_h0 i_55)
                        exact ih4 x_55 x_56 (upd wv y_48.toNatClampNeg y_49) (upd wn y_51.toNatClampNeg y_54) (om_34 LP4_h0 i_55) (om_34 LP4_h1 i_56) (om_54 i_42 i_56) (mj_wr_put LP4_h3 w_5.1 (by omega) (by omega) (fun _ => j_36) (by omega) ey_49 (by omega) (by omega) (by omega) (by omega) (by omega)) (om_mu hn4 (om_5 i_56) (om_6 i_42)) _ _ hP hD hS ls (lv_sub hl [0, 1, 2, 3, 4, 5, 6, 7, 8] rfl)
                      · have i_46 : y_45.toInt ≤ 0 := kc_nlt c_46
                        refine lv_goto (tgt := 220) hx hb dX5_together_173 (by decide) ?_
                        obtain ⟨x_61, ex_61⟩ : ∃ y : Int32, y = k + 1 := ⟨_, rfl⟩
                        have i_61 : x_61.toInt = k.toInt + 1 := ki_add ex_61 rfl rfl (om_13 LP4_h1) (om_312 m1 m3 LP2_h1 LP2_h3 i_42)
                        refine lv_iinc (v := x_61) (lv' := [(8, .int x_61), (7, .int lf), (6, .int y_41), (5, .int y_36), (0, .ref h0), (1, .int p0), (2, .int p1), (3, .int p2), (4, .int p3)]) hx hb dX5_together_220 hl (k := 0) rfl (by rw [ex_61]; rfl) (by decide) rfl (fun ls hl => ?_)
                        refine lv_goto (tgt := 151) hx hb dX5_together_223 (by decide) ?_
                        have n_62 := ki_nat x_61 rfl (om_34 LP4_h1 i_61)
                        exact ih4 lf x_61 wv wn (om_10 LP4_h0) (om_34 LP4_h1 i_61) (om_54 i_42 i_61) (mj_wr_skip LP4_h3 (by omega) (by omega)) (om_mu hn4 (om_5 i_61) (om_6 i_42)) _ _ hP hD hS ls (lv_sub hl [0, 1, 2, 3, 4, 5, 6, 7, 8] rfl)
                have k_63 : (0 : Int32).toInt = 0 := rfl
                have k_64 : (0 : Int32).toInt = 0 := rfl
                exact LP4 ((bm.toInt - 0 : Int).toNat + 1) 0 0 vv vn om_35 om_35 (om_10 LP2_h2) (mj_wr_0 _ _ _ _ _ _ _) (Nat.lt_succ_self _) _ _ hP hD hS ls (lv_sub hl [0, 1, 2, 3, 4, 5, 6, 7, 8] rfl)
            · have i_4 : j.toInt < y_3.toInt := kc_nle c_4
              refine lv_aload_n hx hb dX5_together_67 rfl (lv_at hl 1 rfl) ?_
              refine lv_aload_n hx hb dX5_together_68 rfl (lv_at hl 1 rfl) ?_
              refine va_get (D := (dC, dI)) (ci := 5) (v := .ref g_voteValue) (C := RX5) (T := TX5) (N := 30) hx hb hts hi_5 hown hK hP 0 rfl rfl 7 (by decide) hf_26 (fun _ h9 => h9) rfl dX5_together_69 ?_
              refine lv_bipush (v := 6) hx hb dX5_together_72 (by decide) ?_
              refine lv_iload_n hx hb dX5_together_74 rfl (lv_at hl 3 rfl) ?_
              refine lv_imul hx hb dX5_together_75 ?_
              refine lv_topi (fun y_65 ey_65 => ?_)
              have i_65 : y_65.toInt = 6 * p1.toInt := ki_mul ey_65 rfl rfl (om_247 b2) (om_248 b3)
              refine lv_iload hx hb dX5_together_76 (lv_at hl 0 rfl) ?_
              refine lv_iadd hx hb dX5_together_78 ?_
              refine lv_topi (fun y_66 ey_66 => ?_)
              have i_66 : y_66.toInt = y_65.toInt + j.toInt := ki_add ey_66 rfl rfl (om_251 b2 LP2_h0 i_65) (om_313 b3 m3 LP2_h1 i_65)
              refine va_iald hx hb hK hP 4 0 rfl rfl (ki_in (om_253 b2 LP2_h0 i_65 i_66) (om_314 b3 m3 j_3 i_4 i_65 i_66)) dX5_together_79 ?_
              refine lv_topi (fun y_67 ey_67 => ?_)
              have j_67 : y_67.toInt = (vv y_66.toNatClampNeg).toInt := congrArg Int32.toInt ey_67
              refine lv_aload_n hx hb dX5_together_80 rfl (lv_at hl 1 rfl) ?_
              refine va_get (D := (dC, dI)) (ci := 5) (v := .ref g_voteNumber) (C := RX5) (T := TX5) (N := 30) hx hb hts hi_5 hown hK hP 0 rfl rfl 8 (by decide) hf_29 (fun _ h9 => h9) rfl dX5_together_81 ?_
              refine lv_bipush (v := 6) hx hb dX5_together_84 (by decide) ?_
              refine lv_iload_n hx hb dX5_together_86 rfl (lv_at hl 3 rfl) ?_
              refine lv_imul hx hb dX5_together_87 ?_
              refine lv_topi (fun y_68 ey_68 => ?_)
              have i_68 : y_68.toInt = 6 * p1.toInt := ki_mul ey_68 rfl rfl (om_247 b2) (om_248 b3)
              refine lv_iload hx hb dX5_together_88 (lv_at hl 0 rfl) ?_
              refine lv_iadd hx hb dX5_together_90 ?_
              refine lv_topi (fun y_69 ey_69 => ?_)
              have i_69 : y_69.toInt = y_68.toInt + j.toInt := ki_add ey_69 rfl rfl (om_251 b2 LP2_h0 i_68) (om_313 b3 m3 LP2_h1 i_68)
              refine va_iald hx hb hK hP 5 0 rfl rfl (ki_in (om_253 b2 LP2_h0 i_68 i_69) (om_314 b3 m3 j_3 i_4 i_68 i_69)) dX5_together_91 ?_
              refine lv_topi (fun y_70 ey_70 => ?_)
              have j_70 : y_70.toInt = (vn y_69.toNatClampNeg).toInt := congrArg Int32.toInt ey_70
              obtain ⟨hPc, hDc, hFc, hCc⟩ := kx_preM (wc := [kx_5 h0 g_row m_n m_slots m_thrown g_many g_loss g_less g_voteValue g_voteNumber g_allValue g_allNumber bm g_nodeL g_nodeR m_nodes g_part m_partMany g_wasMany g_wasLoss g_wasValue g_wasNumber g_path m_pathMany g_heavyValue g_heavyTimes m_heavyMany g_fewest g_which g_met m_mostMet, kx_a g_allValue cyI 12 bv, kx_a g_allNumber cyI 12 bn]) hP hD hS hA [true, false, false, false, false, false, true, true] rfl
              have hKc := hK
              refine va_callv (va_runV (As := [.int y_67, .int y_70]) (rest := []) ⟨hx, hb, hml, hown, hts⟩ (kx_un (c_X5_adds_x l dC dI h0 g_row g_many g_loss g_less g_voteValue g_voteNumber g_allValue g_allNumber g_nodeL g_nodeR g_part g_wasMany g_wasLoss g_wasValue g_wasNumber g_path g_heavyValue g_heavyTimes g_fewest g_which g_met m_n m_slots m_thrown bm m_nodes m_partMany m_pathMany m_heavyMany m_mostMet cyI bv bn y_67 y_70 H.size LP2_h2 (om_315 m1 m3 LP2_h3 j_3 i_4))) (cwV 2 hts gX5_together_X5_adds rfl rfl rfl (by decide +kernel) ⟨Nat.le_of_ble_eq_true rfl, Nat.le_of_ble_eq_true rfl⟩) ⟨fun a U g mk q => by obtain ⟨q0, q1, qP, qK, qD⟩ := q; exact ⟨q0, q1, qP, va_K.moved (u := U) (U := U.calling g mk a) (Vm.Alike.refl U.vm) qK, qD⟩, kx_rc5 hKc hPc (q0 := 0) rfl, fun U hU hW => ⟨rfl, by rw [hU], by rw [hU]; exact hPc, va_K.moved hW.alike hKc, hDc.weaken (fun _ _ _ _ => trivial)⟩⟩ rfl rfl hl.1 rfl (lv_room (Nat.le_of_ble_eq_true rfl)) dX5_together_92 ⟨Nat.le_of_ble_eq_true rfl, Nat.le_of_ble_eq_true rfl⟩) hS (fun q _ h => hFc q h) hFc (fun u t H1 locs ht hvm w_71 hB hz1 hk1 hS => ?_)
              obtain ⟨o_72, o_73, o_74⟩ := u
              dsimp only at w_71 hB
              obtain ⟨hP1, hK1, hD1⟩ := hB
              rw [ht] at hP1
              have hK1 := va_K.moved hvm.symm hK1
              obtain ⟨hP, hD⟩ := kx_joinM (w2 := [kx_5 h0 g_row m_n m_slots m_thrown g_many g_loss g_less g_voteValue g_voteNumber g_allValue g_allNumber o_72 g_nodeL g_nodeR m_nodes g_part m_partMany g_wasMany g_wasLoss g_wasValue g_wasNumber g_path m_pathMany g_heavyValue g_heavyTimes m_heavyMany g_fewest g_which g_met m_mostMet, kx_a g_many cyI 324 fm, kx_a g_loss cyI 324 fl, kx_a g_less cyI 324 fe, kx_a g_voteValue cyI 1944 vv, kx_a g_voteNumber cyI 1944 vn, kx_a g_allValue cyI 12 o_73, kx_a g_allNumber cyI 12 o_74]) hP hD hP1 hD1 hk1 hFc [true, false, false, false, false, false, true, true] hCc rfl
              clear hP1 hD1 hK1 hk1 hz1 hFc hDc hPc hKc hCc
              generalize H1 = H at hP hS ⊢
              have w_71 : mj_addR bv bn bm.toNatClampNeg y_67 y_70 o_73 o_74 o_72.toNatClampNeg ∧ bm.toInt ≤ o_72.toInt ∧ o_72.toInt ≤ bm.toInt + 1 := w_71
              obtain ⟨x_75, ex_75⟩ : ∃ y : Int32, y = j + 1 := ⟨_, rfl⟩
              have i_75 : x_75.toInt = j.toInt + 1 := ki_add ex_75 rfl rfl (om_13 LP2_h0) (om_316 m3 LP2_h1)
              refine lv_iinc (v := x_75) (lv' := [(5, .int x_75), (0, .ref h0), (1, .int p0), (2, .int p1), (3, .int p2), (4, .int p3)]) hx hb dX5_together_95 hl (k := 0) rfl (by rw [ex_75]; rfl) (by decide) rfl (fun ls hl => ?_)
              refine lv_goto (tgt := 56) hx hb dX5_together_98 (by decide) ?_
              have n_76 := ki_nat x_75 rfl (om_34 LP2_h0 i_75)
              have n_77 := ki_nat y_66 rfl (om_253 b2 LP2_h0 i_65 i_66)
              have n_78 := ki_nat y_69 rfl (om_253 b2 LP2_h0 i_68 i_69)
              exact ih2 x_75 o_72 o_73 o_74 (om_34 LP2_h0 i_75) (om_317 j_3 i_4 i_75) (om_0 LP2_h2 w_71.2.1) (om_318 LP2_h3 w_71.2.2 i_75) (by rw [show x_75.toNatClampNeg = j.toNatClampNeg + 1 by omega]; exact mj_step (i := j.toNatClampNeg) (q := y_66.toNatClampNeg) (q2 := y_69.toNatClampNeg) vb (by omega) (by omega) (by omega) ey_67 ey_70 (mj_hb2 bd _) LP2_h4 w_71.1) (om_mu hn2 (om_319 m2 i_75) (om_320 j_3 i_4)) _ _ hP hD hS ls (lv_sub hl [0, 1, 2, 3, 4, 5] rfl)
        have k_79 : (0 : Int32).toInt = 0 := rfl
        exact LP2 (((fm p1.toNatClampNeg).toInt - 0 : Int).toNat + 1) 0 am gv gn om_35 (om_10 m2) (om_10 LP1_h2) (om_321 LP1_h1 LP1_h3) (mj_next LP1_h4 va (by omega) rfl) (Nat.lt_succ_self _) _ _ hP hD hS ls (lv_sub hl [0, 1, 2, 3, 4, 5] rfl)
      · have i_2 : i.toInt < y_1.toInt := kc_nle c_2
        refine lv_aload_n hx hb dX5_together_19 rfl (lv_at hl 1 rfl) ?_
        refine lv_aload_n hx hb dX5_together_20 rfl (lv_at hl 1 rfl) ?_
        refine va_get (D := (dC, dI)) (ci := 5) (v := .ref g_voteValue) (C := RX5) (T := TX5) (N := 30) hx hb hts hi_5 hown hK hP 0 rfl rfl 7 (by decide) hf_26 (fun _ h9 => h9) rfl dX5_together_21 ?_
        refine lv_bipush (v := 6) hx hb dX5_together_24 (by decide) ?_
        refine lv_iload_n hx hb dX5_together_26 rfl (lv_at hl 2 rfl) ?_
        refine lv_imul hx hb dX5_together_27 ?_
        refine lv_topi (fun y_80 ey_80 => ?_)
        have i_80 : y_80.toInt = 6 * p0.toInt := ki_mul ey_80 rfl rfl (om_247 b0) (om_248 b1)
        refine lv_iload hx hb dX5_together_28 (lv_at hl 0 rfl) ?_
        refine lv_iadd hx hb dX5_together_30 ?_
        refine lv_topi (fun y_81 ey_81 => ?_)
        have i_81 : y_81.toInt = y_80.toInt + i.toInt := ki_add ey_81 rfl rfl (om_251 b0 LP1_h0 i_80) (om_313 b1 m1 LP1_h1 i_80)
        refine va_iald hx hb hK hP 4 0 rfl rfl (ki_in (om_253 b0 LP1_h0 i_80 i_81) (om_314 b1 m1 j_1 i_2 i_80 i_81)) dX5_together_31 ?_
        refine lv_topi (fun y_82 ey_82 => ?_)
        have j_82 : y_82.toInt = (vv y_81.toNatClampNeg).toInt := congrArg Int32.toInt ey_82
        refine lv_aload_n hx hb dX5_together_32 rfl (lv_at hl 1 rfl) ?_
        refine va_get (D := (dC, dI)) (ci := 5) (v := .ref g_voteNumber) (C := RX5) (T := TX5) (N := 30) hx hb hts hi_5 hown hK hP 0 rfl rfl 8 (by decide) hf_29 (fun _ h9 => h9) rfl dX5_together_33 ?_
        refine lv_bipush (v := 6) hx hb dX5_together_36 (by decide) ?_
        refine lv_iload_n hx hb dX5_together_38 rfl (lv_at hl 2 rfl) ?_
        refine lv_imul hx hb dX5_together_39 ?_
        refine lv_topi (fun y_83 ey_83 => ?_)
        have i_83 : y_83.toInt = 6 * p0.toInt := ki_mul ey_83 rfl rfl (om_247 b0) (om_248 b1)
        refine lv_iload hx hb dX5_together_40 (lv_at hl 0 rfl) ?_
        refine lv_iadd hx hb dX5_together_42 ?_
        refine lv_topi (fun y_84 ey_84 => ?_)
        have i_84 : y_84.toInt = y_83.toInt + i.toInt := ki_add ey_84 rfl rfl (om_251 b0 LP1_h0 i_83) (om_313 b1 m1 LP1_h1 i_83)
        refine va_iald hx hb hK hP 5 0 rfl rfl (ki_in (om_253 b0 LP1_h0 i_83 i_84) (om_314 b1 m1 j_1 i_2 i_83 i_84)) dX5_together_43 ?_
        refine lv_topi (fun y_85 ey_85 => ?_)
        have j_85 : y_85.toInt = (vn y_84.toNatClampNeg).toInt := congrArg Int32.toInt ey_85
        obtain ⟨hPc, hDc, hFc, hCc⟩ := kx_preM (wc := [kx_5 h0 g_row m_n m_slots m_thrown g_many g_loss g_less g_voteValue g_voteNumber g_allValue g_allNumber am g_nodeL g_nodeR m_nodes g_part m_partMany g_wasMany g_wasLoss g_wasValue g_wasNumber g_path m_pathMany g_heavyValue g_heavyTimes m_heavyMany g_fewest g_which g_met m_mostMet, kx_a g_allValue cyI 12 gv, kx_a g_allNumber cyI 12 gn]) hP hD hS hA [true, false, false, false, false, false, true, true] rfl
        have hKc := hK
        refine va_callv (va_runV (As := [.int y_82, .int y_85]) (rest := []) ⟨hx, hb, hml, hown, hts⟩ (kx_un (c_X5_adds_x l dC dI h0 g_row g_many g_loss g_less g_voteValue g_voteNumber g_allValue g_allNumber g_nodeL g_nodeR g_part g_wasMany g_wasLoss g_wasValue g_wasNumber g_path g_heavyValue g_heavyTimes g_fewest g_which g_met m_n m_slots m_thrown am m_nodes m_partMany m_pathMany m_heavyMany m_mostMet cyI gv gn y_82 y_85 H.size LP1_h2 (om_322 m1 LP1_h1 LP1_h3))) (cwV 2 hts gX5_together_X5_adds rfl rfl rfl (by decide +kernel) ⟨Nat.le_of_ble_eq_true rfl, Nat.le_of_ble_eq_true rfl⟩) ⟨fun a U g mk q => by obtain ⟨q0, q1, qP, qK, qD⟩ := q; exact ⟨q0, q1, qP, va_K.moved (u := U) (U := U.calling g mk a) (Vm.Alike.refl U.vm) qK, qD⟩, kx_rc5 hKc hPc (q0 := 0) rfl, fun U hU hW => ⟨rfl, by rw [hU], by rw [hU]; exact hPc, va_K.moved hW.alike hKc, hDc.weaken (fun _ _ _ _ => trivial)⟩⟩ rfl rfl hl.1 rfl (lv_room (Nat.le_of_ble_eq_true rfl)) dX5_together_44 ⟨Nat.le_of_ble_eq_true rfl, Nat.le_of_ble_eq_true rfl⟩) hS (fun q _ h => hFc q h) hFc (fun u t H1 locs ht hvm w_86 hB hz1 hk1 hS => ?_)
        obtain ⟨o_87, o_88, o_89⟩ := u
        dsimp only at w_86 hB
        obtain ⟨hP1, hK1, hD1⟩ := hB
        rw [ht] at hP1
        have hK1 := va_K.moved hvm.symm hK1
        obtain ⟨hP, hD⟩ := kx_joinM (w2 := [kx_5 h0 g_row m_n m_slots m_thrown g_many g_loss g_less g_voteValue g_voteNumber g_allValue g_allNumber o_87 g_nodeL g_nodeR m_nodes g_part m_partMany g_wasMany g_wasLoss g_wasValue g_wasNumber g_path m_pathMany g_heavyValue g_heavyTimes m_heavyMany g_fewest g_which g_met m_mostMet, kx_a g_many cyI 324 fm, kx_a g_loss cyI 324 fl, kx_a g_less cyI 324 fe, kx_a g_voteValue cyI 1944 vv, kx_a g_voteNumber cyI 1944 vn, kx_a g_allValue cyI 12 o_88, kx_a g_allNumber cyI 12 o_89]) hP hD hP1 hD1 hk1 hFc [true, false, false, false, false, false, true, true] hCc rfl
        clear hP1 hD1 hK1 hk1 hz1 hFc hDc hPc hKc hCc
        generalize H1 = H at hP hS ⊢
        have w_86 : mj_addR gv gn am.toNatClampNeg y_82 y_85 o_88 o_89 o_87.toNatClampNeg ∧ am.toInt ≤ o_87.toInt ∧ o_87.toInt ≤ am.toInt + 1 := w_86
        obtain ⟨x_90, ex_90⟩ : ∃ y : Int32, y = i + 1 := ⟨_, rfl⟩
        have i_90 : x_90.toInt = i.toInt + 1 := ki_add ex_90 rfl rfl (om_13 LP1_h0) (om_316 m1 LP1_h1)
        refine lv_iinc (v := x_90) (lv' := [(5, .int x_90), (0, .ref h0), (1, .int p0), (2, .int p1), (3, .int p2), (4, .int p3)]) hx hb dX5_together_47 hl (k := 0) rfl (by rw [ex_90]; rfl) (by decide) rfl (fun ls hl => ?_)
        refine lv_goto (tgt := 8) hx hb dX5_together_50 (by decide) ?_
        have n_91 := ki_nat x_90 rfl (om_34 LP1_h0 i_90)
        have n_92 := ki_nat y_81 rfl (om_253 b0 LP1_h0 i_80 i_81)
        have n_93 := ki_nat y_84 rfl (om_253 b0 LP1_h0 i_83 i_84)
        exact ih1 x_90 o_87 o_88 o_89 (om_34 LP1_h0 i_90) (om_317 j_1 i_2 i_90) (om_0 LP1_h2 w_86.2.1) (om_323 LP1_h3 w_86.2.2 i_90) (by rw [show x_90.toNatClampNeg = i.toNatClampNeg + 1 by omega]; exact mj_step (i := i.toNatClampNeg) (q := y_81.toNatClampNeg) (q2 := y_84.toNatClampNeg) va (by omega) (by omega) (by omega) ey_82 ey_85 (mj_hb1 bd (mj_vs_nn vb) _) LP1_h4 w_86.1) (om_mu hn1 (om_319 m0 i_90) (om_320 j_1 i_2)) _ _ hP hD hS ls (lv_sub hl [0, 1, 2, 3, 4, 5] rfl)
  have k_94 : (0 : Int32).toInt = 0 := rfl
  have k_95 : (0 : Int32).toInt = 0 := rfl
  exact LP1 (((fm p0.toNatClampNeg).toInt - 0 : Int).toNat + 1) 0 0 av an om_35 (om_10 m0) om_35 om_35 (mj_vs_start rfl rfl) (Nat.lt_succ_self _) _ _ hP hD hS ls (lv_sub hl [0, 1, 2, 3, 4, 5] rfl)



abbrev cX5_lays : ByteArray := prog_7_method_13_code
def yX5_lays : MethodName := ⟨RX5, "lays", "(III)I"⟩
def wsX5_lays_r1 : List Cond := [Cond.fieldLink RX5 101 "MajorityIndexModel" "nodes" "I", Cond.fieldLink RX5 38 "MajorityIndexModel" "nodeL" "[I", Cond.fieldLink RX5 41 "MajorityIndexModel" "nodeR" "[I", Cond.fieldLink RX5 7 "MajorityIndexModel" "row" "[I", Cond.methodLink RX5 104 yX5_one, Cond.instanceMethod yX5_one, Cond.selects RX5 yX5_one yX5_one, Cond.initialized RX5, Cond.code yX5_one cX5_one 3 none, Cond.fieldLink RX5 17 "MajorityIndexModel" "many" "[I", Cond.fieldLink RX5 20 "MajorityIndexModel" "loss" "[I", Cond.fieldLink RX5 23 "MajorityIndexModel" "less" "[I", Cond.fieldLink RX5 26 "MajorityIndexModel" "voteValue" "[I", Cond.fieldLink RX5 29 "MajorityIndexModel" "voteNumber" "[I", Cond.methodLink RX5 107 yX5_lays, Cond.instanceMethod yX5_lays, Cond.selects RX5 yX5_lays yX5_lays, Cond.methodLink RX5 111 yX5_together, Cond.instanceMethod yX5_together, Cond.selects RX5 yX5_together yX5_together, Cond.code yX5_together cX5_together 9 none, Cond.fieldLink RX5 87 "MajorityIndexModel" "allMany" "I", Cond.fieldLink RX5 35 "MajorityIndexModel" "allNumber" "[I", Cond.fieldLink RX5 32 "MajorityIndexModel" "allValue" "[I"]
def wsX5_lays_r2 : List Cond := [Cond.methodLink RX5 94 yX5_adds, Cond.instanceMethod yX5_adds, Cond.selects RX5 yX5_adds yX5_adds, Cond.code yX5_adds cX5_adds 4 none, Cond.methodLink RX5 98 yX5_sorts, Cond.instanceMethod yX5_sorts, Cond.selects RX5 yX5_sorts yX5_sorts, Cond.code yX5_sorts cX5_sorts 4 none, Cond.methodLink RX5 90 yX5_isAhead, Cond.instanceMethod yX5_isAhead, Cond.selects RX5 yX5_isAhead yX5_isAhead, Cond.code yX5_isAhead cX5_isAhead 3 (some .boolean)]
def wsX5_lays : List Cond := .code yX5_lays cX5_lays 8 (some .int) :: ((wsX5_lays_r1 ++ wsX5_lays_r2) ++ wsX50)
theorem mi_wsX5_lays_wsX5_lays_r1 : ∀ w ∈ wsX5_lays_r1, w ∈ wsX5_lays := fun _ h => (List.mem_cons_of_mem _ (List.mem_append_left _ (List.mem_append_left _ h)))
theorem mi_wsX5_lays_wsX50 : ∀ w ∈ wsX50, w ∈ wsX5_lays := fun _ h => (List.mem_cons_of_mem _ (List.mem_append_right _ h))
set_option maxRecDepth 20000 in
theorem ggX5_lays_X5_one : GoodIn wsX5_lays wsX5_one := goodIn_m _ [(wsX5_lays_r1, [false, false, false, false, false, false, false, false, true, true, true, true, true, true]), (wsX50, [true, true, true, true, true, true, true, true, true, true, true, true, true, true, true, true, true, true, true, true, true, true, true, true, true, true, true, true, true, true])] (gm_c mi_wsX5_lays_wsX5_lays_r1 (gm_c mi_wsX5_lays_wsX50 gm_n)) rfl (by decide +kernel)
set_option maxRecDepth 20000 in
theorem gX5_lays_X5_one : GoodIn wsX5_lays (wsV RX5 104 RX5 yX5_one wsX5_one) := goodIn_app (goodIn_m _ [(wsX5_lays_r1, [false, false, false, false, true, true, true, true])] (gm_c mi_wsX5_lays_wsX5_lays_r1 gm_n) rfl (by decide +kernel)) ggX5_lays_X5_one
set_option maxRecDepth 20000 in
theorem ggX5_lays_X5_lays : GoodIn wsX5_lays wsX5_lays := goodIn_r _ [0, 1, 2, 3, 4, 5, 6, 7, 8, 9, 10, 11, 12, 13, 14, 15, 16, 17, 18, 19, 20, 21, 22, 23, 24, 25, 26, 27, 28, 29, 30, 31, 32, 33, 34, 35, 36, 37, 38, 39, 40, 41, 42, 43, 44, 45, 46, 47, 48, 49, 50, 51, 52, 53, 54, 55, 56, 57, 58, 59, 60, 61, 62, 63, 64, 65, 66] rfl (by decide +kernel)
set_option maxRecDepth 20000 in
theorem gX5_lays_X5_lays : GoodIn wsX5_lays (wsV RX5 107 RX5 yX5_lays wsX5_lays) := goodIn_app (goodIn_m _ [(wsX5_lays_r1, [false, false, false, false, false, false, false, false, false, false, false, false, false, false, true, true, true]), (wsX5_lays_r1, [false, false, false, false, false, false, false, true])] (gm_c mi_wsX5_lays_wsX5_lays_r1 (gm_c mi_wsX5_lays_wsX5_lays_r1 gm_n)) rfl (by decide +kernel)) ggX5_lays_X5_lays
theorem mi_wsX5_lays_wsX5_lays_r2 : ∀ w ∈ wsX5_lays_r2, w ∈ wsX5_lays := fun _ h => (List.mem_cons_of_mem _ (List.mem_append_left _ (List.mem_append_right _ h)))
set_option maxRecDepth 20000 in
theorem ggX5_lays_X5_together : GoodIn wsX5_lays wsX5_together := goodIn_m _ [(wsX5_lays_r1, [false, false, false, false, false, false, false, false, false, false, false, false, false, false, false, false, false, false, false, false, true, true]), (wsX5_lays_r1, [false, false, false, false, false, false, false, false, false, true, false, false, true, true, false, false, false, false, false, false, false, false, true]), (wsX5_lays_r1, [false, false, false, false, false, false, false, false, false, false, true, false, false, false, false, false, false, false, false, false, false, false, false, true]), (wsX5_lays_r1, [false, false, false, false, false, false, false, false, false, false, false, true]), (wsX5_lays_r2, [true, true, true]), (wsX5_lays_r1, [false, false, false, false, false, false, false, true]), (wsX5_lays_r2, [false, false, false, true, true, true, true, true, true, true, true, true]), (wsX50, [true, true, true, true, true, true, true, true, true, true, true, true, true, true, true, true, true, true, true, true, true, true, true, true, true, true, true, true, true, true])] (gm_c mi_wsX5_lays_wsX5_lays_r1 (gm_c mi_wsX5_lays_wsX5_lays_r1 (gm_c mi_wsX5_lays_wsX5_lays_r1 (gm_c mi_wsX5_lays_wsX5_lays_r1 (gm_c mi_wsX5_lays_wsX5_lays_r2 (gm_c mi_wsX5_lays_wsX5_lays_r1 (gm_c mi_wsX5_lays_wsX5_lays_r2 (gm_c mi_wsX5_lays_wsX50 gm_n)))))))) rfl (by decide +kernel)
set_option maxRecDepth 20000 in
theorem gX5_lays_X5_together : GoodIn wsX5_lays (wsV RX5 111 RX5 yX5_together wsX5_together) := goodIn_app (goodIn_m _ [(wsX5_lays_r1, [false, false, false, false, false, false, false, false, false, false, false, false, false, false, false, false, false, true, true, true]), (wsX5_lays_r1, [false, false, false, false, false, false, false, true])] (gm_c mi_wsX5_lays_wsX5_lays_r1 (gm_c mi_wsX5_lays_wsX5_lays_r1 gm_n)) rfl (by decide +kernel)) ggX5_lays_X5_together
def dt_cX5_lays_0 : List (Nat × Nat × Nat × Nat) := [(0, 42, 0, 0), (1, 180, 2, 101), (4, 54, 1, 4), (6, 42, 0, 0), (7, 89, 0, 0), (8, 180, 2, 101), (11, 4, 0, 0), (12, 96, 0, 0), (13, 181, 2, 101), (16, 42, 0, 0), (17, 180, 2, 38), (20, 21, 1, 4), (22, 27, 0, 0), (23, 79, 0, 0), (24, 42, 0, 0), (25, 180, 2, 41), (28, 21, 1, 4), (30, 28, 0, 0), (31, 79, 0, 0), (32, 28, 0, 0)]
theorem da_cX5_lays_0 : fw dt_cX5_lays_0 0 cX5_lays.data.toList = true := by decide +kernel
theorem dX5_lays_0 : decode cX5_lays 0 = .ok (.aload_n 0, 1) := fo_42 (fw_get da_cX5_lays_0 0 rfl)
theorem dX5_lays_1 : decode cX5_lays 1 = .ok (.getfield 101, 3) := fo_180 (fw_get da_cX5_lays_0 1 rfl)
theorem dX5_lays_4 : decode cX5_lays 4 = .ok (.istore 4, 2) := fo_54 (fw_get da_cX5_lays_0 2 rfl)
theorem dX5_lays_6 : decode cX5_lays 6 = .ok (.aload_n 0, 1) := fo_42 (fw_get da_cX5_lays_0 3 rfl)
theorem dX5_lays_7 : decode cX5_lays 7 = .ok (.dup, 1) := fo_89 (fw_get da_cX5_lays_0 4 rfl)
theorem dX5_lays_8 : decode cX5_lays 8 = .ok (.getfield 101, 3) := fo_180 (fw_get da_cX5_lays_0 5 rfl)
theorem dX5_lays_11 : decode cX5_lays 11 = .ok (.iconst 1, 1) := fo_4 (fw_get da_cX5_lays_0 6 rfl)
theorem dX5_lays_12 : decode cX5_lays 12 = .ok (.iadd, 1) := fo_96 (fw_get da_cX5_lays_0 7 rfl)
theorem dX5_lays_13 : decode cX5_lays 13 = .ok (.putfield 101, 3) := fo_181 (fw_get da_cX5_lays_0 8 rfl)
theorem dX5_lays_16 : decode cX5_lays 16 = .ok (.aload_n 0, 1) := fo_42 (fw_get da_cX5_lays_0 9 rfl)
theorem dX5_lays_17 : decode cX5_lays 17 = .ok (.getfield 38, 3) := fo_180 (fw_get da_cX5_lays_0 10 rfl)
theorem dX5_lays_20 : decode cX5_lays 20 = .ok (.iload 4, 2) := fo_21 (fw_get da_cX5_lays_0 11 rfl)
theorem dX5_lays_22 : decode cX5_lays 22 = .ok (.iload_n 1, 1) := fo_27 (fw_get da_cX5_lays_0 12 rfl)
theorem dX5_lays_23 : decode cX5_lays 23 = .ok (.iastore, 1) := fo_79 (fw_get da_cX5_lays_0 13 rfl)
theorem dX5_lays_24 : decode cX5_lays 24 = .ok (.aload_n 0, 1) := fo_42 (fw_get da_cX5_lays_0 14 rfl)
theorem dX5_lays_25 : decode cX5_lays 25 = .ok (.getfield 41, 3) := fo_180 (fw_get da_cX5_lays_0 15 rfl)
theorem dX5_lays_28 : decode cX5_lays 28 = .ok (.iload 4, 2) := fo_21 (fw_get da_cX5_lays_0 16 rfl)
theorem dX5_lays_30 : decode cX5_lays 30 = .ok (.iload_n 2, 1) := fo_28 (fw_get da_cX5_lays_0 17 rfl)
theorem dX5_lays_31 : decode cX5_lays 31 = .ok (.iastore, 1) := fo_79 (fw_get da_cX5_lays_0 18 rfl)
theorem dX5_lays_32 : decode cX5_lays 32 = .ok (.iload_n 2, 1) := fo_28 (fw_get da_cX5_lays_0 19 rfl)
def dt_cX5_lays_1 : List (Nat × Nat × Nat × Nat) := [(33, 27, 0, 0), (34, 100, 0, 0), (35, 4, 0, 0), (36, 160, 2, 18), (39, 42, 0, 0), (40, 21, 1, 4), (42, 42, 0, 0), (43, 180, 2, 7), (46, 27, 0, 0), (47, 46, 0, 0), (48, 182, 2, 104), (51, 21, 1, 4), (53, 172, 0, 0), (54, 27, 0, 0), (55, 28, 0, 0), (56, 96, 0, 0), (57, 5, 0, 0), (58, 108, 0, 0), (59, 54, 1, 5), (61, 42, 0, 0)]
theorem da_cX5_lays_1 : fw dt_cX5_lays_1 0 cX5_lays.data.toList = true := by decide +kernel
theorem dX5_lays_33 : decode cX5_lays 33 = .ok (.iload_n 1, 1) := fo_27 (fw_get da_cX5_lays_1 0 rfl)
theorem dX5_lays_34 : decode cX5_lays 34 = .ok (.isub, 1) := fo_100 (fw_get da_cX5_lays_1 1 rfl)
theorem dX5_lays_35 : decode cX5_lays 35 = .ok (.iconst 1, 1) := fo_4 (fw_get da_cX5_lays_1 2 rfl)
theorem dX5_lays_36 : decode cX5_lays 36 = .ok (.if_icmp .ne 18, 3) := fo_160 (fw_get da_cX5_lays_1 3 rfl) (by decide +kernel)
theorem dX5_lays_39 : decode cX5_lays 39 = .ok (.aload_n 0, 1) := fo_42 (fw_get da_cX5_lays_1 4 rfl)
theorem dX5_lays_40 : decode cX5_lays 40 = .ok (.iload 4, 2) := fo_21 (fw_get da_cX5_lays_1 5 rfl)
theorem dX5_lays_42 : decode cX5_lays 42 = .ok (.aload_n 0, 1) := fo_42 (fw_get da_cX5_lays_1 6 rfl)
theorem dX5_lays_43 : decode cX5_lays 43 = .ok (.getfield 7, 3) := fo_180 (fw_get da_cX5_lays_1 7 rfl)
theorem dX5_lays_46 : decode cX5_lays 46 = .ok (.iload_n 1, 1) := fo_27 (fw_get da_cX5_lays_1 8 rfl)
theorem dX5_lays_47 : decode cX5_lays 47 = .ok (.iaload, 1) := fo_46 (fw_get da_cX5_lays_1 9 rfl)
theorem dX5_lays_48 : decode cX5_lays 48 = .ok (.invokevirtual 104, 3) := fo_182 (fw_get da_cX5_lays_1 10 rfl)
theorem dX5_lays_51 : decode cX5_lays 51 = .ok (.iload 4, 2) := fo_21 (fw_get da_cX5_lays_1 11 rfl)
theorem dX5_lays_53 : decode cX5_lays 53 = .ok (.ireturn, 1) := fo_172 (fw_get da_cX5_lays_1 12 rfl)
theorem dX5_lays_54 : decode cX5_lays 54 = .ok (.iload_n 1, 1) := fo_27 (fw_get da_cX5_lays_1 13 rfl)
theorem dX5_lays_55 : decode cX5_lays 55 = .ok (.iload_n 2, 1) := fo_28 (fw_get da_cX5_lays_1 14 rfl)
theorem dX5_lays_56 : decode cX5_lays 56 = .ok (.iadd, 1) := fo_96 (fw_get da_cX5_lays_1 15 rfl)
theorem dX5_lays_57 : decode cX5_lays 57 = .ok (.iconst 2, 1) := fo_5 (fw_get da_cX5_lays_1 16 rfl)
theorem dX5_lays_58 : decode cX5_lays 58 = .ok (.idiv, 1) := fo_108 (fw_get da_cX5_lays_1 17 rfl)
theorem dX5_lays_59 : decode cX5_lays 59 = .ok (.istore 5, 2) := fo_54 (fw_get da_cX5_lays_1 18 rfl)
theorem dX5_lays_61 : decode cX5_lays 61 = .ok (.aload_n 0, 1) := fo_42 (fw_get da_cX5_lays_1 19 rfl)
def dt_cX5_lays_2 : List (Nat × Nat × Nat × Nat) := [(62, 27, 0, 0), (63, 21, 1, 5), (65, 29, 0, 0), (66, 182, 2, 107), (69, 54, 1, 6), (71, 42, 0, 0), (72, 21, 1, 5), (74, 28, 0, 0), (75, 29, 0, 0), (76, 182, 2, 107), (79, 54, 1, 7), (81, 42, 0, 0), (82, 21, 1, 6), (84, 21, 1, 7), (86, 21, 1, 4), (88, 29, 0, 0), (89, 182, 2, 111), (92, 21, 1, 4), (94, 172, 0, 0)]
theorem da_cX5_lays_2 : fw dt_cX5_lays_2 0 cX5_lays.data.toList = true := by decide +kernel
theorem dX5_lays_62 : decode cX5_lays 62 = .ok (.iload_n 1, 1) := fo_27 (fw_get da_cX5_lays_2 0 rfl)
theorem dX5_lays_63 : decode cX5_lays 63 = .ok (.iload 5, 2) := fo_21 (fw_get da_cX5_lays_2 1 rfl)
theorem dX5_lays_65 : decode cX5_lays 65 = .ok (.iload_n 3, 1) := fo_29 (fw_get da_cX5_lays_2 2 rfl)
theorem dX5_lays_66 : decode cX5_lays 66 = .ok (.invokevirtual 107, 3) := fo_182 (fw_get da_cX5_lays_2 3 rfl)
theorem dX5_lays_69 : decode cX5_lays 69 = .ok (.istore 6, 2) := fo_54 (fw_get da_cX5_lays_2 4 rfl)
theorem dX5_lays_71 : decode cX5_lays 71 = .ok (.aload_n 0, 1) := fo_42 (fw_get da_cX5_lays_2 5 rfl)
theorem dX5_lays_72 : decode cX5_lays 72 = .ok (.iload 5, 2) := fo_21 (fw_get da_cX5_lays_2 6 rfl)
theorem dX5_lays_74 : decode cX5_lays 74 = .ok (.iload_n 2, 1) := fo_28 (fw_get da_cX5_lays_2 7 rfl)
theorem dX5_lays_75 : decode cX5_lays 75 = .ok (.iload_n 3, 1) := fo_29 (fw_get da_cX5_lays_2 8 rfl)
theorem dX5_lays_76 : decode cX5_lays 76 = .ok (.invokevirtual 107, 3) := fo_182 (fw_get da_cX5_lays_2 9 rfl)
theorem dX5_lays_79 : decode cX5_lays 79 = .ok (.istore 7, 2) := fo_54 (fw_get da_cX5_lays_2 10 rfl)
theorem dX5_lays_81 : decode cX5_lays 81 = .ok (.aload_n 0, 1) := fo_42 (fw_get da_cX5_lays_2 11 rfl)
theorem dX5_lays_82 : decode cX5_lays 82 = .ok (.iload 6, 2) := fo_21 (fw_get da_cX5_lays_2 12 rfl)
theorem dX5_lays_84 : decode cX5_lays 84 = .ok (.iload 7, 2) := fo_21 (fw_get da_cX5_lays_2 13 rfl)
theorem dX5_lays_86 : decode cX5_lays 86 = .ok (.iload 4, 2) := fo_21 (fw_get da_cX5_lays_2 14 rfl)
theorem dX5_lays_88 : decode cX5_lays 88 = .ok (.iload_n 3, 1) := fo_29 (fw_get da_cX5_lays_2 15 rfl)
theorem dX5_lays_89 : decode cX5_lays 89 = .ok (.invokevirtual 111, 3) := fo_182 (fw_get da_cX5_lays_2 16 rfl)
theorem dX5_lays_92 : decode cX5_lays 92 = .ok (.iload 4, 2) := fo_21 (fw_get da_cX5_lays_2 17 rfl)
theorem dX5_lays_94 : decode cX5_lays 94 = .ok (.ireturn, 1) := fo_172 (fw_get da_cX5_lays_2 18 rfl)

