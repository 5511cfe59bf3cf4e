abbrev cX5_sorts : ByteArray := prog_7_method_11_code
def yX5_sorts : MethodName := ⟨RX5, "sorts", "()V"⟩
def wsX5_sorts : List Cond := .code yX5_sorts cX5_sorts 4 none :: ([.fieldLink RX5 87 "MajorityIndexModel" "allMany" "I", .fieldLink RX5 32 "MajorityIndexModel" "allValue" "[I", .fieldLink RX5 35 "MajorityIndexModel" "allNumber" "[I", .methodLink RX5 90 yX5_isAhead, .instanceMethod yX5_isAhead, .selects RX5 yX5_isAhead yX5_isAhead, .initialized RX5, .code yX5_isAhead cX5_isAhead 3 (some .boolean)] ++ wsX50)
set_option maxRecDepth 20000 in
theorem ggX5_sorts_X5_isAhead : GoodIn wsX5_sorts wsX5_isAhead := goodIn_r _ [8, 3, 2, 9, 10, 11, 12, 13, 14, 15, 16, 17, 18, 19, 20, 21, 22, 23, 24, 25, 26, 27, 28, 29, 30, 31, 32, 33, 34, 35, 36, 37, 38] rfl (by decide +kernel)
set_option maxRecDepth 20000 in
theorem gX5_sorts_X5_isAhead : GoodIn wsX5_sorts (wsV RX5 90 RX5 yX5_isAhead wsX5_isAhead) := goodIn_app (goodIn_r _ [4, 5, 6, 7] rfl (by decide +kernel)) ggX5_sorts_X5_isAhead
def dt_cX5_sorts_0 : List (Nat × Nat × Nat × Nat) := [(0, 3, 0, 0), (1, 60, 0, 0), (2, 27, 0, 0), (3, 42, 0, 0), (4, 180, 2, 87), (7, 162, 2, 91), (10, 27, 0, 0), (11, 4, 0, 0), (12, 96, 0, 0), (13, 61, 0, 0), (14, 28, 0, 0), (15, 42, 0, 0), (16, 180, 2, 87), (19, 162, 2, 73), (22, 42, 0, 0), (23, 28, 0, 0), (24, 27, 0, 0), (25, 182, 2, 90), (28, 154, 2, 6), (31, 167, 2, 55)]
theorem da_cX5_sorts_0 : fw dt_cX5_sorts_0 0 cX5_sorts.data.toList = true := by decide +kernel
theorem dX5_sorts_0 : decode cX5_sorts 0 = .ok (.iconst 0, 1) := fo_3 (fw_get da_cX5_sorts_0 0 rfl)
theorem dX5_sorts_1 : decode cX5_sorts 1 = .ok (.istore_n 1, 1) := fo_60 (fw_get da_cX5_sorts_0 1 rfl)
theorem dX5_sorts_2 : decode cX5_sorts 2 = .ok (.iload_n 1, 1) := fo_27 (fw_get da_cX5_sorts_0 2 rfl)
theorem dX5_sorts_3 : decode cX5_sorts 3 = .ok (.aload_n 0, 1) := fo_42 (fw_get da_cX5_sorts_0 3 rfl)
theorem dX5_sorts_4 : decode cX5_sorts 4 = .ok (.getfield 87, 3) := fo_180 (fw_get da_cX5_sorts_0 4 rfl)
theorem dX5_sorts_7 : decode cX5_sorts 7 = .ok (.if_icmp .ge 91, 3) := fo_162 (fw_get da_cX5_sorts_0 5 rfl) (by decide +kernel)
theorem dX5_sorts_10 : decode cX5_sorts 10 = .ok (.iload_n 1, 1) := fo_27 (fw_get da_cX5_sorts_0 6 rfl)
theorem dX5_sorts_11 : decode cX5_sorts 11 = .ok (.iconst 1, 1) := fo_4 (fw_get da_cX5_sorts_0 7 rfl)
theorem dX5_sorts_12 : decode cX5_sorts 12 = .ok (.iadd, 1) := fo_96 (fw_get da_cX5_sorts_0 8 rfl)
theorem dX5_sorts_13 : decode cX5_sorts 13 = .ok (.istore_n 2, 1) := fo_61 (fw_get da_cX5_sorts_0 9 rfl)
theorem dX5_sorts_14 : decode cX5_sorts 14 = .ok (.iload_n 2, 1) := fo_28 (fw_get da_cX5_sorts_0 10 rfl)
theorem dX5_sorts_15 : decode cX5_sorts 15 = .ok (.aload_n 0, 1) := fo_42 (fw_get da_cX5_sorts_0 11 rfl)
theorem dX5_sorts_16 : decode cX5_sorts 16 = .ok (.getfield 87, 3) := fo_180 (fw_get da_cX5_sorts_0 12 rfl)
theorem dX5_sorts_19 : decode cX5_sorts 19 = .ok (.if_icmp .ge 73, 3) := fo_162 (fw_get da_cX5_sorts_0 13 rfl) (by decide +kernel)
theorem dX5_sorts_22 : decode cX5_sorts 22 = .ok (.aload_n 0, 1) := fo_42 (fw_get da_cX5_sorts_0 14 rfl)
theorem dX5_sorts_23 : decode cX5_sorts 23 = .ok (.iload_n 2, 1) := fo_28 (fw_get da_cX5_sorts_0 15 rfl)
theorem dX5_sorts_24 : decode cX5_sorts 24 = .ok (.iload_n 1, 1) := fo_27 (fw_get da_cX5_sorts_0 16 rfl)
theorem dX5_sorts_25 : decode cX5_sorts 25 = .ok (.invokevirtual 90, 3) := fo_182 (fw_get da_cX5_sorts_0 17 rfl)
theorem dX5_sorts_28 : decode cX5_sorts 28 = .ok (.ifCond .ne 6, 3) := fo_154 (fw_get da_cX5_sorts_0 18 rfl) (by decide +kernel)
theorem dX5_sorts_31 : decode cX5_sorts 31 = .ok (.goto 55, 3) := fo_167 (fw_get da_cX5_sorts_0 19 rfl) (by decide +kernel)
def dt_cX5_sorts_1 : List (Nat × Nat × Nat × Nat) := [(34, 42, 0, 0), (35, 180, 2, 32), (38, 27, 0, 0), (39, 46, 0, 0), (40, 62, 0, 0), (41, 42, 0, 0), (42, 180, 2, 32), (45, 27, 0, 0), (46, 42, 0, 0), (47, 180, 2, 32), (50, 28, 0, 0), (51, 46, 0, 0), (52, 79, 0, 0), (53, 42, 0, 0), (54, 180, 2, 32), (57, 28, 0, 0), (58, 29, 0, 0), (59, 79, 0, 0), (60, 42, 0, 0), (61, 180, 2, 35)]
theorem da_cX5_sorts_1 : fw dt_cX5_sorts_1 0 cX5_sorts.data.toList = true := by decide +kernel
theorem dX5_sorts_34 : decode cX5_sorts 34 = .ok (.aload_n 0, 1) := fo_42 (fw_get da_cX5_sorts_1 0 rfl)
theorem dX5_sorts_35 : decode cX5_sorts 35 = .ok (.getfield 32, 3) := fo_180 (fw_get da_cX5_sorts_1 1 rfl)
theorem dX5_sorts_38 : decode cX5_sorts 38 = .ok (.iload_n 1, 1) := fo_27 (fw_get da_cX5_sorts_1 2 rfl)
theorem dX5_sorts_39 : decode cX5_sorts 39 = .ok (.iaload, 1) := fo_46 (fw_get da_cX5_sorts_1 3 rfl)
theorem dX5_sorts_40 : decode cX5_sorts 40 = .ok (.istore_n 3, 1) := fo_62 (fw_get da_cX5_sorts_1 4 rfl)
theorem dX5_sorts_41 : decode cX5_sorts 41 = .ok (.aload_n 0, 1) := fo_42 (fw_get da_cX5_sorts_1 5 rfl)
theorem dX5_sorts_42 : decode cX5_sorts 42 = .ok (.getfield 32, 3) := fo_180 (fw_get da_cX5_sorts_1 6 rfl)
theorem dX5_sorts_45 : decode cX5_sorts 45 = .ok (.iload_n 1, 1) := fo_27 (fw_get da_cX5_sorts_1 7 rfl)
theorem dX5_sorts_46 : decode cX5_sorts 46 = .ok (.aload_n 0, 1) := fo_42 (fw_get da_cX5_sorts_1 8 rfl)
theorem dX5_sorts_47 : decode cX5_sorts 47 = .ok (.getfield 32, 3) := fo_180 (fw_get da_cX5_sorts_1 9 rfl)
theorem dX5_sorts_50 : decode cX5_sorts 50 = .ok (.iload_n 2, 1) := fo_28 (fw_get da_cX5_sorts_1 10 rfl)
theorem dX5_sorts_51 : decode cX5_sorts 51 = .ok (.iaload, 1) := fo_46 (fw_get da_cX5_sorts_1 11 rfl)
theorem dX5_sorts_52 : decode cX5_sorts 52 = .ok (.iastore, 1) := fo_79 (fw_get da_cX5_sorts_1 12 rfl)
theorem dX5_sorts_53 : decode cX5_sorts 53 = .ok (.aload_n 0, 1) := fo_42 (fw_get da_cX5_sorts_1 13 rfl)
theorem dX5_sorts_54 : decode cX5_sorts 54 = .ok (.getfield 32, 3) := fo_180 (fw_get da_cX5_sorts_1 14 rfl)
theorem dX5_sorts_57 : decode cX5_sorts 57 = .ok (.iload_n 2, 1) := fo_28 (fw_get da_cX5_sorts_1 15 rfl)
theorem dX5_sorts_58 : decode cX5_sorts 58 = .ok (.iload_n 3, 1) := fo_29 (fw_get da_cX5_sorts_1 16 rfl)
theorem dX5_sorts_59 : decode cX5_sorts 59 = .ok (.iastore, 1) := fo_79 (fw_get da_cX5_sorts_1 17 rfl)
theorem dX5_sorts_60 : decode cX5_sorts 60 = .ok (.aload_n 0, 1) := fo_42 (fw_get da_cX5_sorts_1 18 rfl)
theorem dX5_sorts_61 : decode cX5_sorts 61 = .ok (.getfield 35, 3) := fo_180 (fw_get da_cX5_sorts_1 19 rfl)
def dt_cX5_sorts_2 : List (Nat × Nat × Nat × Nat) := [(64, 27, 0, 0), (65, 46, 0, 0), (66, 62, 0, 0), (67, 42, 0, 0), (68, 180, 2, 35), (71, 27, 0, 0), (72, 42, 0, 0), (73, 180, 2, 35), (76, 28, 0, 0), (77, 46, 0, 0), (78, 79, 0, 0), (79, 42, 0, 0), (80, 180, 2, 35), (83, 28, 0, 0), (84, 29, 0, 0), (85, 79, 0, 0), (86, 132, 2, 513), (89, 167, 2, 65461), (92, 132, 2, 257), (95, 167, 2, 65443)]
theorem da_cX5_sorts_2 : fw dt_cX5_sorts_2 0 cX5_sorts.data.toList = true := by decide +kernel
theorem dX5_sorts_64 : decode cX5_sorts 64 = .ok (.iload_n 1, 1) := fo_27 (fw_get da_cX5_sorts_2 0 rfl)
theorem dX5_sorts_65 : decode cX5_sorts 65 = .ok (.iaload, 1) := fo_46 (fw_get da_cX5_sorts_2 1 rfl)
theorem dX5_sorts_66 : decode cX5_sorts 66 = .ok (.istore_n 3, 1) := fo_62 (fw_get da_cX5_sorts_2 2 rfl)
theorem dX5_sorts_67 : decode cX5_sorts 67 = .ok (.aload_n 0, 1) := fo_42 (fw_get da_cX5_sorts_2 3 rfl)
theorem dX5_sorts_68 : decode cX5_sorts 68 = .ok (.getfield 35, 3) := fo_180 (fw_get da_cX5_sorts_2 4 rfl)
theorem dX5_sorts_71 : decode cX5_sorts 71 = .ok (.iload_n 1, 1) := fo_27 (fw_get da_cX5_sorts_2 5 rfl)
theorem dX5_sorts_72 : decode cX5_sorts 72 = .ok (.aload_n 0, 1) := fo_42 (fw_get da_cX5_sorts_2 6 rfl)
theorem dX5_sorts_73 : decode cX5_sorts 73 = .ok (.getfield 35, 3) := fo_180 (fw_get da_cX5_sorts_2 7 rfl)
theorem dX5_sorts_76 : decode cX5_sorts 76 = .ok (.iload_n 2, 1) := fo_28 (fw_get da_cX5_sorts_2 8 rfl)
theorem dX5_sorts_77 : decode cX5_sorts 77 = .ok (.iaload, 1) := fo_46 (fw_get da_cX5_sorts_2 9 rfl)
theorem dX5_sorts_78 : decode cX5_sorts 78 = .ok (.iastore, 1) := fo_79 (fw_get da_cX5_sorts_2 10 rfl)
theorem dX5_sorts_79 : decode cX5_sorts 79 = .ok (.aload_n 0, 1) := fo_42 (fw_get da_cX5_sorts_2 11 rfl)
theorem dX5_sorts_80 : decode cX5_sorts 80 = .ok (.getfield 35, 3) := fo_180 (fw_get da_cX5_sorts_2 12 rfl)
theorem dX5_sorts_83 : decode cX5_sorts 83 = .ok (.iload_n 2, 1) := fo_28 (fw_get da_cX5_sorts_2 13 rfl)
theorem dX5_sorts_84 : decode cX5_sorts 84 = .ok (.iload_n 3, 1) := fo_29 (fw_get da_cX5_sorts_2 14 rfl)
theorem dX5_sorts_85 : decode cX5_sorts 85 = .ok (.iastore, 1) := fo_79 (fw_get da_cX5_sorts_2 15 rfl)
theorem dX5_sorts_86 : decode cX5_sorts 86 = .ok (.iinc 2 1, 3) := fo_132 (fw_get da_cX5_sorts_2 16 rfl) rfl (by decide +kernel)
theorem dX5_sorts_89 : decode cX5_sorts 89 = .ok (.goto (-75), 3) := fo_167 (fw_get da_cX5_sorts_2 17 rfl) (by decide +kernel)
theorem dX5_sorts_92 : decode cX5_sorts 92 = .ok (.iinc 1 1, 3) := fo_132 (fw_get da_cX5_sorts_2 18 rfl) rfl (by decide +kernel)
theorem dX5_sorts_95 : decode cX5_sorts 95 = .ok (.goto (-93), 3) := fo_167 (fw_get da_cX5_sorts_2 19 rfl) (by decide +kernel)
def dt_cX5_sorts_3 : List (Nat × Nat × Nat × Nat) := [(98, 177, 0, 0)]
theorem da_cX5_sorts_3 : fw dt_cX5_sorts_3 0 cX5_sorts.data.toList = true := by decide +kernel
theorem dX5_sorts_98 : decode cX5_sorts 98 = .ok (.return_, 1) := fo_177 (fw_get da_cX5_sorts_3 0 rfl)


set_option maxHeartbeats 4000000 in
set_option maxRecDepth 100000 in
theorem c_X5_adds_x (l : Launch) (dC : Nat → ClassId) (dI : Nat → Nat → Nat) (h0 : Nat) (g_row : Nat) (g_many : Nat) (g_loss : Nat) (g_less : Nat) (g_voteValue : Nat) (g_voteNumber : Nat) (g_allValue : Nat) (g_allNumber : Nat) (g_nodeL : Nat) (g_nodeR : Nat) (g_part : Nat) (g_wasMany : Nat) (g_wasLoss : Nat) (g_wasValue : Nat) (g_wasNumber : Nat) (g_path : Nat) (g_heavyValue : Nat) (g_heavyTimes : Nat) (g_fewest : Nat) (g_which : Nat) (g_met : Nat) (m_n : Int32) (m_slots : Int32) (m_thrown : Int32) (m_allMany : Int32) (m_nodes : Int32) (m_partMany : Int32) (m_pathMany : Int32) (m_heavyMany : Int32) (m_mostMet : Int32) (cyI : ClassId) (av : Nat → Int32) (an : Nat → Int32) (p0 : Int32) (p1 : Int32) (sz : Nat) (b0 : 0 ≤ m_allMany.toInt) (b1 : m_allMany.toInt < 12) : kx_MQ l (dC, dI) yX5_adds wsX5_adds ({ frames := 0, cells := 0, slots := 0, locals := 0 }) [.ref h0, .int p0, .int p1] [kx_5 h0 g_row m_n m_slots m_thrown g_many g_loss g_less g_voteValue g_voteNumber g_allValue g_allNumber m_allMany g_nodeL g_nodeR m_nodes g_part m_partMany g_wasMany g_wasLoss g_wasValue g_wasNumber g_path m_pathMany g_heavyValue g_heavyTimes m_heavyMany g_fewest g_which g_met m_mostMet, kx_a g_allValue cyI 12 av, kx_a g_allNumber cyI 12 an] [(cyI, .int)] sz (fun A => va_Qv (fun u : Int32 × (Nat → Int32) × (Nat → Int32) => mj_addR av an m_allMany.toNatClampNeg p0 p1 u.2.1 u.2.2 u.1.toNatClampNeg ∧ m_allMany.toInt ≤ u.1.toInt ∧ u.1.toInt ≤ m_allMany.toInt + 1) (fun (u : Int32 × (Nat → Int32) × (Nat → Int32)) (t : State) => va_P (dC, dI) vwCl [kx_5 h0 g_row m_n m_slots m_thrown g_many g_loss g_less g_voteValue g_voteNumber g_allValue g_allNumber u.1 g_nodeL g_nodeR m_nodes g_part m_partMany g_wasMany g_wasLoss g_wasValue g_wasNumber g_path m_pathMany g_heavyValue g_heavyTimes m_heavyMany g_fewest g_which g_met m_mostMet, kx_a g_allValue cyI 12 u.2.1, kx_a g_allNumber cyI 12 u.2.2] t.heap ∧ va_K (dC, dI) vwCl [(cyI, .int)] t ∧ va_D A [kx_5 h0 g_row m_n m_slots m_thrown g_many g_loss g_less g_voteValue g_voteNumber g_allValue g_allNumber u.1 g_nodeL g_nodeR m_nodes g_part m_partMany g_wasMany g_wasLoss g_wasValue g_wasNumber g_path m_pathMany g_heavyValue g_heavyTimes m_heavyMany g_fewest g_which g_met m_mostMet, kx_a g_allValue cyI 12 u.2.1, kx_a g_allNumber cyI 12 u.2.2]) A) := by
  refine kx_stQ (ws := wsX5_adds) (cc := cX5_adds) (maxL := 4) (ret := none) (by decide) rfl (Nat.le_of_ble_eq_true rfl) ?_
  intro p e s m below meth c A ls hx hb hr hlocks hts hown hml hA hS hP hK hD hl
  have hown : s.vm.findClass RX5 = some m.cls := hown
  have hl : lv_has ls 4 [(0, .ref h0), (1, .int p0), (2, .int p1)] := hl
  have hf_87 := hts (.fieldLink RX5 87 "MajorityIndexModel" "allMany" "I") (List.mem_of_getElem? (i := 1) rfl)
  have hi_5 : ∀ w ∈ u_ws RX5 TX5 30, w ∈ wsX5_adds := fun w h => List.mem_cons_of_mem _ (List.mem_append_right _ h)
  have hf_32 := hts (.fieldLink RX5 32 "MajorityIndexModel" "allValue" "[I") (List.mem_of_getElem? (i := 2) rfl)
  have hf_35 := hts (.fieldLink RX5 35 "MajorityIndexModel" "allNumber" "[I") (List.mem_of_getElem? (i := 3) rfl)
  refine lv_iconst (v := 0) hx hb dX5_adds_0 (by decide) ?_
  refine lv_istore_n (lv' := [(3, .int 0), (0, .ref h0), (1, .int p0), (2, .int p1)]) hx hb dX5_adds_1 rfl hl (by decide) rfl (fun ls hl => ?_)
  have LP1 : ∀ (n : Nat) (i : Int32), (0 ≤ i.toInt) → (∀ k : Nat, k < i.toNatClampNeg → ¬ av k = p0) → (m_allMany.toInt - i.toInt).toNat < n → ∀ (H : Heap) (locs : List Loc), va_P (dC, dI) vwCl [kx_5 h0 g_row m_n m_slots m_thrown g_many g_loss g_less g_voteValue g_voteNumber g_allValue g_allNumber m_allMany g_nodeL g_nodeR m_nodes g_part m_partMany g_wasMany g_wasLoss g_wasValue g_wasNumber g_path m_pathMany g_heavyValue g_heavyTimes m_heavyMany g_fewest g_which g_met m_mostMet, kx_a g_allValue cyI 12 av, kx_a g_allNumber cyI 12 an] H → va_D A [kx_5 h0 g_row m_n m_slots m_thrown g_many g_loss g_less g_voteValue g_voteNumber g_allValue g_allNumber m_allMany g_nodeL g_nodeR m_nodes g_part m_partMany g_wasMany g_wasLoss g_wasValue g_wasNumber g_path m_pathMany g_heavyValue g_heavyTimes m_heavyMany g_fewest g_which g_met m_mostMet, kx_a g_allValue cyI 12 av, kx_a g_allNumber cyI 12 an] → va_S A s.heap H locs → ∀ (ls : Array Slot), lv_has ls 4 [(3, .int i), (0, .ref h0), (1, .int p0), (2, .int p1)] → W p l e (headSpec wsX5_adds ({ frames := 0, cells := 0, slots := 0, locals := 0 })).room s m ([.ref h0, .int p0, .int p1] : List Value).toArray below meth c H locs 0 0 (MQ below (va_Qv (fun u : Int32 × (Nat → Int32) × (Nat → Int32) => mj_addR av an m_allMany.toNatClampNeg p0 p1 u.2.1 u.2.2 u.1.toNatClampNeg ∧ m_allMany.toInt ≤ u.1.toInt ∧ u.1.toInt ≤ m_allMany.toInt + 1) (fun (u : Int32 × (Nat → Int32) × (Nat → Int32)) (t : State) => va_P (dC, dI) vwCl [kx_5 h0 g_row m_n m_slots m_thrown g_many g_loss g_less g_voteValue g_voteNumber g_allValue g_allNumber u.1 g_nodeL g_nodeR m_nodes g_part m_partMany g_wasMany g_wasLoss g_wasValue g_wasNumber g_path m_pathMany g_heavyValue g_heavyTimes m_heavyMany g_fewest g_which g_met m_mostMet, kx_a g_allValue cyI 12 u.2.1, kx_a g_allNumber cyI 12 u.2.2] t.heap ∧ va_K (dC, dI) vwCl [(cyI, .int)] t ∧ va_D A [kx_5 h0 g_row m_n m_slots m_thrown g_many g_loss g_less g_voteValue g_voteNumber g_allValue g_allNumber u.1 g_nodeL g_nodeR m_nodes g_part m_partMany g_wasMany g_wasLoss g_wasValue g_wasNumber g_path m_pathMany g_heavyValue g_heavyTimes m_heavyMany g_fewest g_which g_met m_mostMet, kx_a g_allValue cyI 12 u.2.1, kx_a g_allNumber cyI 12 u.2.2]) A) ([.ref h0, .int p0, .int p1] : List Value).toArray s 0 0 A) (F0 m 2 ls []) := by
    intro n
    induction n with
    | zero => intro i LP1_h0 LP1_h1 hn; exact absurd hn (Nat.not_lt_zero _)
    | succ n ih1 =>
      intro i LP1_h0 LP1_h1 hn1 H locs hP hD hS ls hl
      have n_i := ki_nat i rfl (om_10 LP1_h0)
      refine lv_iload_n hx hb dX5_adds_2 rfl (lv_at hl 0 rfl) ?_
      refine lv_aload_n hx hb dX5_adds_3 rfl (lv_at hl 1 rfl) ?_
      refine va_get (D := (dC, dI)) (ci := 5) (v := .int m_allMany) (C := RX5) (T := TX5) (N := 30) hx hb hts hi_5 hown hK hP 0 rfl rfl 11 (by decide) hf_87 (fun _ h9 => h9) rfl dX5_adds_4 ?_
      refine lv_icmp_ge (tgt := 40) hx hb dX5_adds_7 (by decide) (fun c_1 => ?_) (fun c_1 => ?_)
      · have i_1 : m_allMany.toInt ≤ i.toInt := kc_le c_1
        refine lv_aload_n hx hb dX5_adds_40 rfl (lv_at hl 1 rfl) ?_
        refine va_get (D := (dC, dI)) (ci := 5) (v := .ref g_allValue) (C := RX5) (T := TX5) (N := 30) hx hb hts hi_5 hown hK hP 0 rfl rfl 9 (by decide) hf_32 (fun _ h9 => h9) rfl dX5_adds_41 ?_
        refine lv_aload_n hx hb dX5_adds_44 rfl (lv_at hl 1 rfl) ?_
        refine va_get (D := (dC, dI)) (ci := 5) (v := .int m_allMany) (C := RX5) (T := TX5) (N := 30) hx hb hts hi_5 hown hK hP 0 rfl rfl 11 (by decide) hf_87 (fun _ h9 => h9) rfl dX5_adds_45 ?_
        refine lv_iload_n hx hb dX5_adds_48 rfl (lv_at hl 2 rfl) ?_
        refine va_iast hx hb hK hP hD hS 1 0 rfl rfl (ki_in (om_10 b0) (om_30 b1)) dX5_adds_49 (fun H locs hP hD hS => ?_)
        obtain ⟨hP, hD⟩ := kx_re (w2 := [kx_5 h0 g_row m_n m_slots m_thrown g_many g_loss g_less g_voteValue g_voteNumber g_allValue g_allNumber m_allMany g_nodeL g_nodeR m_nodes g_part m_partMany g_wasMany g_wasLoss g_wasValue g_wasNumber g_path m_pathMany g_heavyValue g_heavyTimes m_heavyMany g_fewest g_which g_met m_mostMet, kx_a g_allValue cyI 12 (upd av m_allMany.toNatClampNeg p0), kx_a g_allNumber cyI 12 an]) hP hD rfl
        refine lv_aload_n hx hb dX5_adds_50 rfl (lv_at hl 1 rfl) ?_
        refine va_get (D := (dC, dI)) (ci := 5) (v := .ref g_allNumber) (C := RX5) (T := TX5) (N := 30) hx hb hts hi_5 hown hK hP 0 rfl rfl 10 (by decide) hf_35 (fun _ h9 => h9) rfl dX5_adds_51 ?_
        refine lv_aload_n hx hb dX5_adds_54 rfl (lv_at hl 1 rfl) ?_
        refine va_get (D := (dC, dI)) (ci := 5) (v := .int m_allMany) (C := RX5) (T := TX5) (N := 30) hx hb hts hi_5 hown hK hP 0 rfl rfl 11 (by decide) hf_87 (fun _ h9 => h9) rfl dX5_adds_55 ?_
        refine lv_iload_n hx hb dX5_adds_58 rfl (lv_at hl 3 rfl) ?_
        refine va_iast hx hb hK hP hD hS 2 0 rfl rfl (ki_in (om_10 b0) (om_30 b1)) dX5_adds_59 (fun H locs hP hD hS => ?_)
        obtain ⟨hP, hD⟩ := kx_re (w2 := [kx_5 h0 g_row m_n m_slots m_thrown g_many g_loss g_less g_voteValue g_voteNumber g_allValue g_allNumber m_allMany g_nodeL g_nodeR m_nodes g_part m_partMany g_wasMany g_wasLoss g_wasValue g_wasNumber g_path m_pathMany g_heavyValue g_heavyTimes m_heavyMany g_fewest g_which g_met m_mostMet, kx_a g_allValue cyI 12 (upd av m_allMany.toNatClampNeg p0), kx_a g_allNumber cyI 12 (upd an m_allMany.toNatClampNeg p1)]) hP hD rfl
        refine lv_aload_n hx hb dX5_adds_60 rfl (lv_at hl 1 rfl) ?_
        refine lv_dup hx hb dX5_adds_61 rfl ?_
        refine va_get (D := (dC, dI)) (ci := 5) (v := .int m_allMany) (C := RX5) (T := TX5) (N := 30) hx hb hts hi_5 hown hK hP 0 rfl rfl 11 (by decide) hf_87 (fun _ h9 => h9) rfl dX5_adds_62 ?_
        refine lv_iconst (v := 1) hx hb dX5_adds_65 (by decide) ?_
        refine lv_iadd hx hb dX5_adds_66 ?_
        refine lv_topi (fun y_2 ey_2 => ?_)
        have i_2 : y_2.toInt = m_allMany.toInt + 1 := ki_add ey_2 rfl rfl (om_13 b0) (om_242 b1)
        refine va_put (D := (dC, dI)) (ci := 5) (v := .int y_2) (ty := .int) (C := RX5) (T := TX5) (N := 30) hx hb hts hi_5 tyX5 tyX5_ok nmX5 hown hK hP hD hS 0 rfl rfl 11 (by decide) hf_87 (fun _ h9 => h9) rfl (by decide +kernel) rfl rfl (Nat.le_of_ble_eq_true rfl) dX5_adds_67 (fun H locs hP hD hS => ?_)
        obtain ⟨hP, hD⟩ := kx_re (w2 := [kx_5 h0 g_row m_n m_slots m_thrown g_many g_loss g_less g_voteValue g_voteNumber g_allValue g_allNumber y_2 g_nodeL g_nodeR m_nodes g_part m_partMany g_wasMany g_wasLoss g_wasValue g_wasNumber g_path m_pathMany g_heavyValue g_heavyTimes m_heavyMany g_fewest g_which g_met m_mostMet, kx_a g_allValue cyI 12 (upd av m_allMany.toNatClampNeg p0), kx_a g_allNumber cyI 12 (upd an m_allMany.toNatClampNeg p1)]) hP hD rfl
        have hP9 := hP
        have hD9 := hD
        have hK9 := hK
        have n_3 := ki_nat m_allMany rfl (om_10 b0)
        have n_4 := ki_nat y_2 rfl (om_34 b0 i_2)
        exact W.vret hx hb hr (hlocks := hlocks) (fun t ht hW => ⟨⟨(y_2, (upd av m_allMany.toNatClampNeg p0), (upd an m_allMany.toNatClampNeg p1)), rfl, ⟨Or.inr ⟨(fun k hk => LP1_h1 k (by omega)), rfl, rfl, (by (try dsimp only); omega)⟩, (by (try dsimp only); omega), (by (try dsimp only); omega)⟩, by rw [ht]; exact hP9, va_K.moved hW.alike hK9, hD9⟩, hS.F ht⟩) hS.2.2 dX5_adds_70
      · have i_1 : i.toInt < m_allMany.toInt := kc_nle c_1
        refine lv_aload_n hx hb dX5_adds_10 rfl (lv_at hl 1 rfl) ?_
        refine va_get (D := (dC, dI)) (ci := 5) (v := .ref g_allValue) (C := RX5) (T := TX5) (N := 30) hx hb hts hi_5 hown hK hP 0 rfl rfl 9 (by decide) hf_32 (fun _ h9 => h9) rfl dX5_adds_11 ?_
        refine lv_iload_n hx hb dX5_adds_14 rfl (lv_at hl 0 rfl) ?_
        refine va_iald hx hb hK hP 1 0 rfl rfl (ki_in (om_10 LP1_h0) (om_243 b1 i_1)) dX5_adds_15 ?_
        refine lv_topi (fun y_5 ey_5 => ?_)
        have j_5 : y_5.toInt = (av i.toNatClampNeg).toInt := congrArg Int32.toInt ey_5
        refine lv_iload_n hx hb dX5_adds_16 rfl (lv_at hl 2 rfl) ?_
        refine lv_icmp_eq (tgt := 23) hx hb dX5_adds_17 (by decide) (fun c_6 => ?_) (fun c_6 => ?_)
        · have i_6 : y_5.toInt = p0.toInt := kc_eq c_6
          refine lv_aload_n hx hb dX5_adds_23 rfl (lv_at hl 1 rfl) ?_
          refine va_get (D := (dC, dI)) (ci := 5) (v := .ref g_allNumber) (C := RX5) (T := TX5) (N := 30) hx hb hts hi_5 hown hK hP 0 rfl rfl 10 (by decide) hf_35 (fun _ h9 => h9) rfl dX5_adds_24 ?_
          refine lv_iload_n hx hb dX5_adds_27 rfl (lv_at hl 0 rfl) ?_
          refine lv_dup2_11 hx hb dX5_adds_28 rfl rfl ?_
          refine va_iald hx hb hK hP 2 0 rfl rfl (ki_in (om_10 LP1_h0) (om_243 b1 i_1)) dX5_adds_29 ?_
          refine lv_topi (fun y_7 ey_7 => ?_)
          have j_7 : y_7.toInt = (an i.toNatClampNeg).toInt := congrArg Int32.toInt ey_7
          refine lv_iload_n hx hb dX5_adds_30 rfl (lv_at hl 3 rfl) ?_
          refine lv_iadd hx hb dX5_adds_31 ?_
          refine lv_topi (fun y_8 ey_8 => ?_)
          refine va_iast hx hb hK hP hD hS 2 0 rfl rfl (ki_in (om_10 LP1_h0) (om_243 b1 i_1)) dX5_adds_32 (fun H locs hP hD hS => ?_)
          obtain ⟨hP, hD⟩ := kx_re (w2 := [kx_5 h0 g_row m_n m_slots m_thrown g_many g_loss g_less g_voteValue g_voteNumber g_allValue g_allNumber m_allMany g_nodeL g_nodeR m_nodes g_part m_partMany g_wasMany g_wasLoss g_wasValue g_wasNumber g_path m_pathMany g_heavyValue g_heavyTimes m_heavyMany g_fewest g_which g_met m_mostMet, kx_a g_allValue cyI 12 av, kx_a g_allNumber cyI 12 (upd an i.toNatClampNeg y_8)]) hP hD rfl
          have hP9 := hP
          have hD9 := hD
          have hK9 := hK
          have n_9 := ki_nat m_allMany rfl (om_10 b0)
          exact W.vret hx hb hr (hlocks := hlocks) (fun t ht hW => ⟨⟨(m_allMany, av, (upd an i.toNatClampNeg y_8)), rfl, ⟨Or.inl ⟨i.toNatClampNeg, (by (try dsimp only); omega), (ey_5.symm.trans c_6), rfl, (by (try dsimp only); rw [ey_8, ey_7]), rfl⟩, (by (try dsimp only); omega), (by (try dsimp only); omega)⟩, by rw [ht]; exact hP9, va_K.moved hW.alike hK9, hD9⟩, hS.F ht⟩) hS.2.2 dX5_adds_33
        · have i_6 : ¬ y_5.toInt = p0.toInt := kc_ne c_6
          refine lv_goto (tgt := 34) hx hb dX5_adds_20 (by decide) ?_
          obtain ⟨x_10, ex_10⟩ : ∃ y : Int32, y = i + 1 := ⟨_, rfl⟩
          have i_10 : x_10.toInt = i.toInt + 1 := ki_add ex_10 rfl rfl (om_13 LP1_h0) (om_244 b1 i_1)
          refine lv_iinc (v := x_10) (lv' := [(3, .int x_10), (0, .ref h0), (1, .int p0), (2, .int p1)]) hx hb dX5_adds_34 hl (k := 0) rfl (by rw [ex_10]; rfl) (by decide) rfl (fun ls hl => ?_)
          refine lv_goto (tgt := 2) hx hb dX5_adds_37 (by decide) ?_
          have n_11 := ki_nat x_10 rfl (om_34 LP1_h0 i_10)
          exact ih1 x_10 (om_34 LP1_h0 i_10) (fun k hk => if h9 : k < i.toNatClampNeg then LP1_h1 k h9 else (by rw [show k = i.toNatClampNeg by omega]; exact fun h => c_6 (ey_5.trans h))) (om_mu hn1 (om_5 i_10) (om_6 i_1)) _ _ hP hD hS ls (lv_sub hl [0, 1, 2, 3] rfl)
  have k_12 : (0 : Int32).toInt = 0 := rfl
  exact LP1 ((m_allMany.toInt - 0 : Int).toNat + 1) 0 om_35 (fun k hk => absurd hk (Nat.not_lt_zero k)) (Nat.lt_succ_self _) _ _ hP hD hS ls (lv_sub hl [0, 1, 2, 3] rfl)

set_option maxHeartbeats 4000000 in
set_option maxRecDepth 100000 in
theorem c_X5_sorts (l : Launch) (dC : Nat → ClassId) (dI : Nat → Nat → Nat) (h0 : Nat) (g_row : Nat) (g_many : Nat) (g_loss : Nat) (g_less : Nat) (g_voteValue : Nat) (g_voteNumber : Nat) (g_allValue : Nat) (g_allNumber : Nat) (g_nodeL : Nat) (g_nodeR : Nat) (g_part : Nat) (g_wasMany : Nat) (g_wasLoss : Nat) (g_wasValue : Nat) (g_wasNumber : Nat) (g_path : Nat) (g_heavyValue : Nat) (g_heavyTimes : Nat) (g_fewest : Nat) (g_which : Nat) (g_met : Nat) (m_n : Int32) (m_slots : Int32) (m_thrown : Int32) (m_allMany : Int32) (m_nodes : Int32) (m_partMany : Int32) (m_pathMany : Int32) (m_heavyMany : Int32) (m_mostMet : Int32) (cyI : ClassId) (av : Nat → Int32) (an : Nat → Int32) (sz : Nat) (b0 : 0 ≤ m_allMany.toInt) (b1 : m_allMany.toInt ≤ 12) : kx_MQ l (dC, dI) yX5_sorts wsX5_sorts ({ frames := 1, cells := 0, slots := 0, locals := 45 }) [.ref h0] [kx_5 h0 g_row m_n m_slots m_thrown g_many g_loss g_less g_voteValue g_voteNumber g_allValue g_allNumber m_allMany g_nodeL g_nodeR m_nodes g_part m_partMany g_wasMany g_wasLoss g_wasValue g_wasNumber g_path m_pathMany g_heavyValue g_heavyTimes m_heavyMany g_fewest g_which g_met m_mostMet, kx_a g_allValue cyI 12 av, kx_a g_allNumber cyI 12 an] [(cyI, .int)] sz (fun A => va_Qv (fun u : (Nat → Int32) × (Nat → Int32) => mj_srt u.1 u.2 0 m_allMany.toNatClampNeg ∧ ∀ mu : Int32 → Int, mj_vs av an 0 m_allMany.toNatClampNeg mu → mj_vs u.1 u.2 0 m_allMany.toNatClampNeg mu) (fun (u : (Nat → Int32) × (Nat → Int32)) (t : State) => va_P (dC, dI) vwCl [kx_5 h0 g_row m_n m_slots m_thrown g_many g_loss g_less g_voteValue g_voteNumber g_allValue g_allNumber m_allMany g_nodeL g_nodeR m_nodes g_part m_partMany g_wasMany g_wasLoss g_wasValue g_wasNumber g_path m_pathMany g_heavyValue g_heavyTimes m_heavyMany g_fewest g_which g_met m_mostMet, kx_a g_allValue cyI 12 u.1, kx_a g_allNumber cyI 12 u.2] t.heap ∧ va_K (dC, dI) vwCl [(cyI, .int)] t ∧ va_D A [kx_5 h0 g_row m_n m_slots m_thrown g_many g_loss g_less g_voteValue g_voteNumber g_allValue g_allNumber m_allMany g_nodeL g_nodeR m_nodes g_part m_partMany g_wasMany g_wasLoss g_wasValue g_wasNumber g_path m_pathMany g_heavyValue g_heavyTimes m_heavyMany g_fewest g_which g_met m_mostMet, kx_a g_allValue cyI 12 u.1, kx_a g_allNumber cyI 12 u.2]) A) := by
  refine kx_stQ (ws := wsX5_sorts) (cc := cX5_sorts) (maxL := 4) (ret := none) (by decide) rfl (Nat.le_of_ble_eq_true rfl) ?_
  intro p e s m below meth c A ls hx hb hr hlocks hts hown hml hA hS hP hK hD hl
  have hown : s.vm.findClass RX5 = some m.cls := hown
  have hl : lv_has ls 4 [(0, .ref h0)] := hl
  have hf_87 := hts (.fieldLink RX5 87 "MajorityIndexModel" "allMany" "I") (List.mem_of_getElem? (i := 1) rfl)
  have hi_5 : ∀ w ∈ u_ws RX5 TX5 30, w ∈ wsX5_sorts := fun w h => List.mem_cons_of_mem _ (List.mem_append_right _ h)
  have hf_32 := hts (.fieldLink RX5 32 "MajorityIndexModel" "allValue" "[I") (List.mem_of_getElem? (i := 2) rfl)
  have hf_35 := hts (.fieldLink RX5 35 "MajorityIndexModel" "allNumber" "[I") (List.mem_of_getElem? (i := 3) rfl)
  have n_m := ki_nat m_allMany rfl (om_10 b0)
  refine lv_iconst (v := 0) hx hb dX5_sorts_0 (by decide) ?_
  refine lv_istore_n (lv' := [(1, .int 0), (0, .ref h0)]) hx hb dX5_sorts_1 rfl hl (by decide) rfl (fun ls hl => ?_)
  have LP1 : ∀ (n : Nat) (i : Int32) (gv : Nat → Int32) (gn : Nat → Int32), (0 ≤ i.toInt) → (i.toInt ≤ 12) → (mj_so gv gn m_allMany.toNatClampNeg i.toNatClampNeg (i.toNatClampNeg + 1)) → (∀ mu : Int32 → Int, mj_vs av an 0 m_allMany.toNatClampNeg mu → mj_vs gv gn 0 m_allMany.toNatClampNeg mu) → (m_allMany.toInt - i.toInt).toNat < n → ∀ (H : Heap) (locs : List Loc), va_P (dC, dI) vwCl [kx_5 h0 g_row m_n m_slots m_thrown g_many g_loss g_less g_voteValue g_voteNumber g_allValue g_allNumber m_allMany g_nodeL g_nodeR m_nodes g_part m_partMany g_wasMany g_wasLoss g_wasValue g_wasNumber g_path m_pathMany g_heavyValue g_heavyTimes m_heavyMany g_fewest g_which g_met m_mostMet, kx_a g_allValue cyI 12 gv, kx_a g_allNumber cyI 12 gn] H → va_D A [kx_5 h0 g_row m_n m_slots m_thrown g_many g_loss g_less g_voteValue g_voteNumber g_allValue g_allNumber m_allMany g_nodeL g_nodeR m_nodes g_part m_partMany g_wasMany g_wasLoss g_wasValue g_wasNumber g_path m_pathMany g_heavyValue g_heavyTimes m_heavyMany g_fewest g_which g_met m_mostMet, kx_a g_allValue cyI 12 gv, kx_a g_allNumber cyI 12 gn] → va_S A s.heap H locs → ∀ (ls : Array Slot), lv_has ls 4 [(1, .int i), (0, .ref h0)] → W p l e (headSpec wsX5_sorts ({ frames := 1, cells := 0, slots := 0, locals := 45 })).room s m ([.ref h0] : List Value).toArray below meth c H locs 0 0 (MQ below (va_Qv (fun u : (Nat → Int32) × (Nat → Int32) => mj_srt u.1 u.2 0 m_allMany.toNatClampNeg ∧ ∀ mu : Int32 → Int, mj_vs av an 0 m_allMany.toNatClampNeg mu → mj_vs u.1 u.2 0 m_allMany.toNatClampNeg mu) (fun (u : (Nat → Int32) × (Nat → Int32)) (t : State) => va_P (dC, dI) vwCl [kx_5 h0 g_row m_n m_slots m_thrown g_many g_loss g_less g_voteValue g_voteNumber g_allValue g_allNumber m_allMany g_nodeL g_nodeR m_nodes g_part m_partMany g_wasMany g_wasLoss g_wasValue g_wasNumber g_path m_pathMany g_heavyValue g_heavyTimes m_heavyMany g_fewest g_which g_met m_mostMet, kx_a g_allValue cyI 12 u.1, kx_a g_allNumber cyI 12 u.2] t.heap ∧ va_K (dC, dI) vwCl [(cyI, .int)] t ∧ va_D A [kx_5 h0 g_row m_n m_slots m_thrown g_many g_loss g_less g_voteValue g_voteNumber g_allValue g_allNumber m_allMany g_nodeL g_nodeR m_nodes g_part m_partMany g_wasMany g_wasLoss g_wasValue g_wasNumber g_path m_pathMany g_heavyValue g_heavyTimes m_heavyMany g_fewest g_which g_met m_mostMet, kx_a g_allValue cyI 12 u.1, kx_a g_allNumber cyI 12 u.2]) A) ([.ref h0] : List Value).toArray s 0 0 A) (F0 m 2 ls []) := by
    intro n
    induction n with
    | zero => intro i gv gn LP1_h0 LP1_h1 LP1_h2 LP1_h3 hn; exact absurd hn (Nat.not_lt_zero _)
    | succ n ih1 =>
      intro i gv gn LP1_h0 LP1_h1 LP1_h2 LP1_h3 hn1 H locs hP hD hS ls hl
      have n_i := ki_nat i rfl (om_10 LP1_h0)
      refine lv_iload_n hx hb dX5_sorts_2 rfl (lv_at hl 0 rfl) ?_
      refine lv_aload_n hx hb dX5_sorts_3 rfl (lv_at hl 1 rfl) ?_
      refine va_get (D := (dC, dI)) (ci := 5) (v := .int m_allMany) (C := RX5) (T := TX5) (N := 30) hx hb hts hi_5 hown hK hP 0 rfl rfl 11 (by decide) hf_87 (fun _ h9 => h9) rfl dX5_sorts_4 ?_
      refine lv_icmp_ge (tgt := 98) hx hb dX5_sorts_7 (by decide) (fun c_1 => ?_) (fun c_1 => ?_)
      · have i_1 : m_allMany.toInt ≤ i.toInt := kc_le c_1
        have hP9 := hP
        have hD9 := hD
        have hK9 := hK
        exact W.vret hx hb hr (hlocks := hlocks) (fun t ht hW => ⟨⟨(gv, gn), rfl, ⟨mj_so_end LP1_h2 (by (try dsimp only); omega), LP1_h3⟩, by rw [ht]; exact hP9, va_K.moved hW.alike hK9, hD9⟩, hS.F ht⟩) hS.2.2 dX5_sorts_98
      · have i_1 : i.toInt < m_allMany.toInt := kc_nle c_1
        refine lv_iload_n hx hb dX5_sorts_10 rfl (lv_at hl 0 rfl) ?_
        refine lv_iconst (v := 1) hx hb dX5_sorts_11 (by decide) ?_
        refine lv_iadd hx hb dX5_sorts_12 ?_
        refine lv_topi (fun y_2 ey_2 => ?_)
        have i_2 : y_2.toInt = i.toInt + 1 := ki_add ey_2 rfl rfl (om_13 LP1_h0) (om_31 LP1_h1)
        refine lv_istore_n (lv' := [(2, .int y_2), (1, .int i), (0, .ref h0)]) hx hb dX5_sorts_13 rfl hl (by decide) rfl (fun ls hl => ?_)
        have LP2 : ∀ (n : Nat) (k : Int32) (kv : Nat → Int32) (kn : Nat → Int32), (i.toInt < k.toInt) → (k.toInt ≤ 13) → (mj_so kv kn m_allMany.toNatClampNeg i.toNatClampNeg k.toNatClampNeg) → (∀ mu : Int32 → Int, mj_vs av an 0 m_allMany.toNatClampNeg mu → mj_vs kv kn 0 m_allMany.toNatClampNeg mu) → (m_allMany.toInt - k.toInt).toNat < n → ∀ (H : Heap) (locs : List Loc), va_P (dC, dI) vwCl [kx_5 h0 g_row m_n m_slots m_thrown g_many g_loss g_less g_voteValue g_voteNumber g_allValue g_allNumber m_allMany g_nodeL g_nodeR m_nodes g_part m_partMany g_wasMany g_wasLoss g_wasValue g_wasNumber g_path m_pathMany g_heavyValue g_heavyTimes m_heavyMany g_fewest g_which g_met m_mostMet, kx_a g_allValue cyI 12 kv, kx_a g_allNumber cyI 12 kn] H → va_D A [kx_5 h0 g_row m_n m_slots m_thrown g_many g_loss g_less g_voteValue g_voteNumber g_allValue g_allNumber m_allMany g_nodeL g_nodeR m_nodes g_part m_partMany g_wasMany g_wasLoss g_wasValue g_wasNumber g_path m_pathMany g_heavyValue g_heavyTimes m_heavyMany g_fewest g_which g_met m_mostMet, kx_a g_allValue cyI 12 kv, kx_a g_allNumber cyI 12 kn] → va_S A s.heap H locs → ∀ (ls : Array Slot), lv_has ls 4 [(2, .int k), (1, .int i), (0, .ref h0)] → W p l e (headSpec wsX5_sorts ({ frames := 1, cells := 0, slots := 0, locals := 45 })).room s m ([.ref h0] : List Value).toArray below meth c H locs 0 0 (MQ below (va_Qv (fun u : (Nat → Int32) × (Nat → Int32) => mj_srt u.1 u.2 0 m_allMany.toNatClampNeg ∧ ∀ mu : Int32 → Int, mj_vs av an 0 m_allMany.toNatClampNeg mu → mj_vs u.1 u.2 0 m_allMany.toNatClampNeg mu) (fun (u : (Nat → Int32) × (Nat → Int32)) (t : State) => va_P (dC, dI) vwCl [kx_5 h0 g_row m_n m_slots m_thrown g_many g_loss g_less g_voteValue g_voteNumber g_allValue g_allNumber m_allMany g_nodeL g_nodeR m_nodes g_part m_partMany g_wasMany g_wasLoss g_wasValue g_wasNumber g_path m_pathMany g_heavyValue g_heavyTimes m_heavyMany g_fewest g_which g_met m_mostMet, kx_a g_allValue cyI 12 u.1, kx_a g_allNumber cyI 12 u.2] t.heap ∧ va_K (dC, dI) vwCl [(cyI, .int)] t ∧ va_D A [kx_5 h0 g_row m_n m_slots m_thrown g_many g_loss g_less g_voteValue g_voteNumber g_allValue g_allNumber m_allMany g_nodeL g_nodeR m_nodes g_part m_partMany g_wasMany g_wasLoss g_wasValue g_wasNumber g_path m_pathMany g_heavyValue g_heavyTimes m_heavyMany g_fewest g_which g_met m_mostMet, kx_a g_allValue cyI 12 u.1, kx_a g_allNumber cyI 12 u.2]) A) ([.ref h0] : List Value).toArray s 0 0 A) (F0 m 14 ls []) := by
          intro n
          induction n with
          | zero => intro k kv kn LP2_h0 LP2_h1 LP2_h2 LP2_h3 hn; exact absurd hn (Nat.not_lt_zero _)
          | succ n ih2 =>
            intro k kv kn LP2_h0 LP2_h1 LP2_h2 LP2_h3 hn2 H locs hP hD hS ls hl
            have n_k := ki_nat k rfl (om_21 LP1_h0 LP2_h0)
            refine lv_iload_n hx hb dX5_sorts_14 rfl (lv_at hl 0 rfl) ?_
            refine lv_aload_n hx hb dX5_sorts_15 rfl (lv_at hl 2 rfl) ?_
            refine va_get (D := (dC, dI)) (ci := 5) (v := .int m_allMany) (C := RX5) (T := TX5) (N := 30) hx hb hts hi_5 hown hK hP 0 rfl rfl 11 (by decide) hf_87 (fun _ h9 => h9) rfl dX5_sorts_16 ?_
            refine lv_icmp_ge (tgt := 92) hx hb dX5_sorts_19 (by decide) (fun c_3 => ?_) (fun c_3 => ?_)
            · have i_3 : m_allMany.toInt ≤ k.toInt := kc_le c_3
              obtain ⟨x_4, ex_4⟩ : ∃ y : Int32, y = i + 1 := ⟨_, rfl⟩
              have i_4 : x_4.toInt = i.toInt + 1 := ki_add ex_4 rfl rfl (om_13 LP1_h0) (om_31 LP1_h1)
              refine lv_iinc (v := x_4) (lv' := [(1, .int x_4), (2, .int k), (0, .ref h0)]) hx hb dX5_sorts_92 hl (k := 1) rfl (by rw [ex_4]; rfl) (by decide) rfl (fun ls hl => ?_)
              refine lv_goto (tgt := 2) hx hb dX5_sorts_95 (by decide) ?_
              have n_5 := ki_nat x_4 rfl (om_34 LP1_h0 i_4)
              exact ih1 x_4 kv kn (om_34 LP1_h0 i_4) (om_293 b1 i_1 i_4) (by rw [show x_4.toNatClampNeg = i.toNatClampNeg + 1 by omega]; exact mj_so_next LP2_h2 (by omega)) LP2_h3 (om_mu hn1 (om_5 i_4) (om_6 i_1)) _ _ hP hD hS ls (lv_sub hl [0, 2] rfl)
            · have i_3 : k.toInt < m_allMany.toInt := kc_nle c_3
              refine lv_aload_n hx hb dX5_sorts_22 rfl (lv_at hl 2 rfl) ?_
              refine lv_iload_n hx hb dX5_sorts_23 rfl (lv_at hl 0 rfl) ?_
              refine lv_iload_n hx hb dX5_sorts_24 rfl (lv_at hl 1 rfl) ?_
              have hPc := hP
              have hKc := hK
              refine vp_callSi (W.runV (As := [.int k, .int i]) (rest := []) ⟨hx, hb, hml, hown, hts⟩ (c_X5_isAhead l dC dI h0 g_row g_many g_loss g_less g_voteValue g_voteNumber g_allValue g_allNumber g_nodeL g_nodeR g_part g_wasMany g_wasLoss g_wasValue g_wasNumber g_path g_heavyValue g_heavyTimes g_fewest g_which g_met m_n m_slots m_thrown m_allMany m_nodes m_partMany m_pathMany m_heavyMany m_mostMet cyI kv kn k i (om_21 LP1_h0 LP2_h0) (om_58 b1 i_3) LP1_h0 (om_294 b1 LP1_h1 LP2_h0 i_3)) (cwV 2 hts gX5_sorts_X5_isAhead rfl rfl rfl (by decide +kernel) ⟨Nat.le_of_ble_eq_true rfl, Nat.le_of_ble_eq_true rfl⟩) ⟨fun a U g mk q => by obtain ⟨q0, qP, qK⟩ := q; exact ⟨q0, qP, va_K.moved (u := U) (U := U.calling g mk a) (Vm.Alike.refl U.vm) qK⟩, kx_rc5 hKc hPc (q0 := 0) rfl, fun U hU hW => ⟨rfl, by rw [hU]; exact hPc, va_K.moved hW.alike hKc⟩⟩ rfl rfl hl.1 rfl (lv_room (Nat.le_of_ble_eq_true rfl)) dX5_sorts_25 ⟨Nat.le_of_ble_eq_true rfl, Nat.le_of_ble_eq_true rfl⟩) (fun r_6 w_6 => ?_)
              rcases w_6 with ⟨rfl, w_6⟩ | ⟨rfl, w_6⟩
              · have w_6 : ((kn i.toNatClampNeg).toInt < (kn k.toNatClampNeg).toInt ∨ ((kn k.toNatClampNeg).toInt = (kn i.toNatClampNeg).toInt ∧ (kv k.toNatClampNeg).toInt < (kv i.toNatClampNeg).toInt)) := w_6
                refine lv_if_ne (tgt := 34) hx hb dX5_sorts_28 (by decide) (fun c_7 => ?_) (fun c_7 => ?_)
                · refine lv_aload_n hx hb dX5_sorts_34 rfl (lv_at hl 2 rfl) ?_
                  refine va_get (D := (dC, dI)) (ci := 5) (v := .ref g_allValue) (C := RX5) (T := TX5) (N := 30) hx hb hts hi_5 hown hK hP 0 rfl rfl 9 (by decide) hf_32 (fun _ h9 => h9) rfl dX5_sorts_35 ?_
                  refine lv_iload_n hx hb dX5_sorts_38 rfl (lv_at hl 1 rfl) ?_
                  refine va_iald hx hb hK hP 1 0 rfl rfl (ki_in (om_10 LP1_h0) (om_295 b1 LP1_h1 LP2_h0 i_3)) dX5_sorts_39 ?_
                  refine lv_topi (fun y_8 ey_8 => ?_)
                  have j_8 : y_8.toInt = (kv i.toNatClampNeg).toInt := congrArg Int32.toInt ey_8
                  refine lv_istore_n (lv' := [(3, .int y_8), (2, .int k), (1, .int i), (0, .ref h0)]) hx hb dX5_sorts_40 rfl hl (by decide) rfl (fun ls hl => ?_)
                  refine lv_aload_n hx hb dX5_sorts_41 rfl (lv_at hl 3 rfl) ?_
                  refine va_get (D := (dC, dI)) (ci := 5) (v := .ref g_allValue) (C := RX5) (T := TX5) (N := 30) hx hb hts hi_5 hown hK hP 0 rfl rfl 9 (by decide) hf_32 (fun _ h9 => h9) rfl dX5_sorts_42 ?_
                  refine lv_iload_n hx hb dX5_sorts_45 rfl (lv_at hl 2 rfl) ?_
                  refine lv_aload_n hx hb dX5_sorts_46 rfl (lv_at hl 3 rfl) ?_
                  refine va_get (D := (dC, dI)) (ci := 5) (v := .ref g_allValue) (C := RX5) (T := TX5) (N := 30) hx hb hts hi_5 hown hK hP 0 rfl rfl 9 (by decide) hf_32 (fun _ h9 => h9) rfl dX5_sorts_47 ?_
                  refine lv_iload_n hx hb dX5_sorts_50 rfl (lv_at hl 1 rfl) ?_
                  refine va_iald hx hb hK hP 1 0 rfl rfl (ki_in (om_21 LP1_h0 LP2_h0) (om_32 b1 i_3)) dX5_sorts_51 ?_
                  refine lv_topi (fun y_9 ey_9 => ?_)
                  have j_9 : y_9.toInt = (kv k.toNatClampNeg).toInt := congrArg Int32.toInt ey_9
                  refine va_iast hx hb hK hP hD hS 1 0 rfl rfl (ki_in (om_10 LP1_h0) (om_295 b1 LP1_h1 LP2_h0 i_3)) dX5_sorts_52 (fun H locs hP hD hS => ?_)
                  obtain ⟨hP, hD⟩ := kx_re (w2 := [kx_5 h0 g_row m_n m_slots m_thrown g_many g_loss g_less g_voteValue g_voteNumber g_allValue g_allNumber m_allMany g_nodeL g_nodeR m_nodes g_part m_partMany g_wasMany g_wasLoss g_wasValue g_wasNumber g_path m_pathMany g_heavyValue g_heavyTimes m_heavyMany g_fewest g_which g_met m_mostMet, kx_a g_allValue cyI 12 (upd kv i.toNatClampNeg y_9), kx_a g_allNumber cyI 12 kn]) hP hD rfl
                  refine lv_aload_n hx hb dX5_sorts_53 rfl (lv_at hl 3 rfl) ?_
                  refine va_get (D := (dC, dI)) (ci := 5) (v := .ref g_allValue) (C := RX5) (T := TX5) (N := 30) hx hb hts hi_5 hown hK hP 0 rfl rfl 9 (by decide) hf_32 (fun _ h9 => h9) rfl dX5_sorts_54 ?_
                  refine lv_iload_n hx hb dX5_sorts_57 rfl (lv_at hl 1 rfl) ?_
                  refine lv_iload_n hx hb dX5_sorts_58 rfl (lv_at hl 0 rfl) ?_
                  refine va_iast hx hb hK hP hD hS 1 0 rfl rfl (ki_in (om_21 LP1_h0 LP2_h0) (om_32 b1 i_3)) dX5_sorts_59 (fun H locs hP hD hS => ?_)
                  obtain ⟨hP, hD⟩ := kx_re (w2 := [kx_5 h0 g_row m_n m_slots m_thrown g_many g_loss g_less g_voteValue g_voteNumber g_allValue g_allNumber m_allMany g_nodeL g_nodeR m_nodes g_part m_partMany g_wasMany g_wasLoss g_wasValue g_wasNumber g_path m_pathMany g_heavyValue g_heavyTimes m_heavyMany g_fewest g_which g_met m_mostMet, kx_a g_allValue cyI 12 (upd (upd kv i.toNatClampNeg y_9) k.toNatClampNeg y_8), kx_a g_allNumber cyI 12 kn]) hP hD rfl
                  refine lv_aload_n hx hb dX5_sorts_60 rfl (lv_at hl 3 rfl) ?_
                  refine va_get (D := (dC, dI)) (ci := 5) (v := .ref g_allNumber) (C := RX5) (T := TX5) (N := 30) hx hb hts hi_5 hown hK hP 0 rfl rfl 10 (by decide) hf_35 (fun _ h9 => h9) rfl dX5_sorts_61 ?_
                  refine lv_iload_n hx hb dX5_sorts_64 rfl (lv_at hl 2 rfl) ?_
                  refine va_iald hx hb hK hP 2 0 rfl rfl (ki_in (om_10 LP1_h0) (om_295 b1 LP1_h1 LP2_h0 i_3)) dX5_sorts_65 ?_
                  refine lv_topi (fun y_10 ey_10 => ?_)
                  have j_10 : y_10.toInt = (kn i.toNatClampNeg).toInt := congrArg Int32.toInt ey_10
                  refine lv_istore_n (lv' := [(3, .int y_10), (2, .int k), (1, .int i), (0, .ref h0)]) hx hb dX5_sorts_66 rfl hl (by decide) rfl (fun ls hl => ?_)
                  refine lv_aload_n hx hb dX5_sorts_67 rfl (lv_at hl 3 rfl) ?_
                  refine va_get (D := (dC, dI)) (ci := 5) (v := .ref g_allNumber) (C := RX5) (T := TX5) (N := 30) hx hb hts hi_5 hown hK hP 0 rfl rfl 10 (by decide) hf_35 (fun _ h9 => h9) rfl dX5_sorts_68 ?_
                  refine lv_iload_n hx hb dX5_sorts_71 rfl (lv_at hl 2 rfl) ?_
                  refine lv_aload_n hx hb dX5_sorts_72 rfl (lv_at hl 3 rfl) ?_
                  refine va_get (D := (dC, dI)) (ci := 5) (v := .ref g_allNumber) (C := RX5) (T := TX5) (N := 30) hx hb hts hi_5 hown hK hP 0 rfl rfl 10 (by decide) hf_35 (fun _ h9 => h9) rfl dX5_sorts_73 ?_
                  refine lv_iload_n hx hb dX5_sorts_76 rfl (lv_at hl 1 rfl) ?_
                  refine va_iald hx hb hK hP 2 0 rfl rfl (ki_in (om_21 LP1_h0 LP2_h0) (om_32 b1 i_3)) dX5_sorts_77 ?_
                  refine lv_topi (fun y_11 ey_11 => ?_)
                  have j_11 : y_11.toInt = (kn k.toNatClampNeg).toInt := congrArg Int32.toInt ey_11
                  refine va_iast hx hb hK hP hD hS 2 0 rfl rfl (ki_in (om_10 LP1_h0) (om_295 b1 LP1_h1 LP2_h0 i_3)) dX5_sorts_78 (fun H locs hP hD hS => ?_)
                  obtain ⟨hP, hD⟩ := kx_re (w2 := [kx_5 h0 g_row m_n m_slots m_thrown g_many g_loss g_less g_voteValue g_voteNumber g_allValue g_allNumber m_allMany g_nodeL g_nodeR m_nodes g_part m_partMany g_wasMany g_wasLoss g_wasValue g_wasNumber g_path m_pathMany g_heavyValue g_heavyTimes m_heavyMany g_fewest g_which g_met m_mostMet, kx_a g_allValue cyI 12 (upd (upd kv i.toNatClampNeg y_9) k.toNatClampNeg y_8), kx_a g_allNumber cyI 12 (upd kn i.toNatClampNeg y_11)]) hP hD rfl
                  refine lv_aload_n hx hb dX5_sorts_79 rfl (lv_at hl 3 rfl) ?_
                  refine va_get (D := (dC, dI)) (ci := 5) (v := .ref g_allNumber) (C := RX5) (T := TX5) (N := 30) hx hb hts hi_5 hown hK hP 0 rfl rfl 10 (by decide) hf_35 (fun _ h9 => h9) rfl dX5_sorts_80 ?_
                  refine lv_iload_n hx hb dX5_sorts_83 rfl (lv_at hl 1 rfl) ?_
                  refine lv_iload_n hx hb dX5_sorts_84 rfl (lv_at hl 0 rfl) ?_
                  refine va_iast hx hb hK hP hD hS 2 0 rfl rfl (ki_in (om_21 LP1_h0 LP2_h0) (om_32 b1 i_3)) dX5_sorts_85 (fun H locs hP hD hS => ?_)
                  obtain ⟨hP, hD⟩ := kx_re (w2 := [kx_5 h0 g_row m_n m_slots m_thrown g_many g_loss g_less g_voteValue g_voteNumber g_allValue g_allNumber m_allMany g_nodeL g_nodeR m_nodes g_part m_partMany g_wasMany g_wasLoss g_wasValue g_wasNumber g_path m_pathMany g_heavyValue g_heavyTimes m_heavyMany g_fewest g_which g_met m_mostMet, kx_a g_allValue cyI 12 (upd (upd kv i.toNatClampNeg y_9) k.toNatClampNeg y_8), kx_a g_allNumber cyI 12 (upd (upd kn i.toNatClampNeg y_11) k.toNatClampNeg y_10)]) hP hD rfl
                  obtain ⟨x_12, ex_12⟩ : ∃ y : Int32, y = k + 1 := ⟨_, rfl⟩
                  have i_12 : x_12.toInt = k.toInt + 1 := ki_add ex_12 rfl rfl (om_296 LP1_h0 LP2_h0) (om_297 LP2_h1)
                  refine lv_iinc (v := x_12) (lv' := [(2, .int x_12), (3, .int y_10), (1, .int i), (0, .ref h0)]) hx hb dX5_sorts_86 hl (k := 1) rfl (by rw [ex_12]; rfl) (by decide) rfl (fun ls hl => ?_)
                  refine lv_goto (tgt := 14) hx hb dX5_sorts_89 (by decide) ?_
                  have n_13 := ki_nat x_12 rfl (om_300 LP1_h0 LP2_h0 i_12)
                  exact ih2 x_12 (upd (upd kv i.toNatClampNeg y_9) k.toNatClampNeg y_8) (upd (upd kn i.toNatClampNeg y_11) k.toNatClampNeg y_10) (om_298 LP2_h0 i_12) (om_299 b1 LP2_h1 i_3 i_12) (by rw [ey_9, ey_8, ey_11, ey_10, show x_12.toNatClampNeg = k.toNatClampNeg + 1 by omega]; exact (show mj_so (mj_ex kv i.toNatClampNeg k.toNatClampNeg) (mj_ex kn i.toNatClampNeg k.toNatClampNeg) m_allMany.toNatClampNeg i.toNatClampNeg (k.toNatClampNeg + 1) from mj_so_swap (by omega) (by omega) LP2_h2 (by unfold mj_lea; omega))) (fun mu h => (by rw [ey_9, ey_8, ey_11, ey_10]; exact (show mj_vs (mj_ex kv i.toNatClampNeg k.toNatClampNeg) (mj_ex kn i.toNatClampNeg k.toNatClampNeg) 0 m_allMany.toNatClampNeg mu from mj_vs_ex (by omega) (by omega) (LP2_h3 mu h)))) (om_mu hn2 (om_5 i_12) (om_6 i_3)) _ _ hP hD hS ls (lv_sub hl [0, 2, 3] rfl)
                · exact absurd c_7 (by decide)
              · have w_6 : ((kn k.toNatClampNeg).toInt < (kn i.toNatClampNeg).toInt ∨ ((kn k.toNatClampNeg).toInt = (kn i.toNatClampNeg).toInt ∧ (kv i.toNatClampNeg).toInt ≤ (kv k.toNatClampNeg).toInt)) := w_6
                refine lv_if_ne (tgt := 34) hx hb dX5_sorts_28 (by decide) (fun c_14 => ?_) (fun c_14 => ?_)
                · exact absurd c_14 (by decide)
                · refine lv_goto (tgt := 86) hx hb dX5_sorts_31 (by decide) ?_
                  obtain ⟨x_15, ex_15⟩ : ∃ y : Int32, y = k + 1 := ⟨_, rfl⟩
                  have i_15 : x_15.toInt = k.toInt + 1 := ki_add ex_15 rfl rfl (om_296 LP1_h0 LP2_h0) (om_297 LP2_h1)
                  refine lv_iinc (v := x_15) (lv' := [(2, .int x_15), (1, .int i), (0, .ref h0)]) hx hb dX5_sorts_86 hl (k := 0) rfl (by rw [ex_15]; rfl) (by decide) rfl (fun ls hl => ?_)
                  refine lv_goto (tgt := 14) hx hb dX5_sorts_89 (by decide) ?_
                  have n_16 := ki_nat x_15 rfl (om_300 LP1_h0 LP2_h0 i_15)
                  exact ih2 x_15 kv kn (om_298 LP2_h0 i_15) (om_299 b1 LP2_h1 i_3 i_15) (by rw [show x_15.toNatClampNeg = k.toNatClampNeg + 1 by omega]; exact mj_so_keep LP2_h2 (by unfold mj_lea; omega)) LP2_h3 (om_mu hn2 (om_5 i_15) (om_6 i_3)) _ _ hP hD hS ls (lv_sub hl [0, 1, 2] rfl)
        have n_17 := ki_nat y_2 rfl (by omega)
        exact LP2 ((m_allMany.toInt - y_2.toInt : Int).toNat + 1) y_2 gv gn (om_301 i_2) (om_302 LP1_h1 i_2) (by rw [show y_2.toNatClampNeg = i.toNatClampNeg + 1 by omega]; exact LP1_h2) LP1_h3 (Nat.lt_succ_self _) _ _ hP hD hS ls (lv_sub hl [0, 1, 2] rfl)
  have k_18 : (0 : Int32).toInt = 0 := rfl
  exact LP1 ((m_allMany.toInt - 0 : Int).toNat + 1) 0 av an om_35 om_104 (mj_so_0 _ _ rfl (Nat.le_refl _)) (fun mu h => h) (Nat.lt_succ_self _) _ _ hP hD hS ls (lv_sub hl [0, 1] rfl)



abbrev cX5_together : ByteArray := prog_7_method_12_code
def yX5_together : MethodName := ⟨RX5, "together", "(IIII)V"⟩
def wsX5_together : List Cond := .code yX5_together cX5_together 9 none :: ([.fieldLink RX5 87 "MajorityIndexModel" "allMany" "I", .fieldLink RX5 17 "MajorityIndexModel" "many" "[I", .fieldLink RX5 26 "MajorityIndexModel" "voteValue" "[I", .fieldLink RX5 29 "MajorityIndexModel" "voteNumber" "[I", .fieldLink RX5 35 "MajorityIndexModel" "allNumber" "[I", .fieldLink RX5 20 "MajorityIndexModel" "loss" "[I", .fieldLink RX5 32 "MajorityIndexModel" "allValue" "[I", .fieldLink RX5 23 "MajorityIndexModel" "less" "[I", .methodLink RX5 94 yX5_adds, .instanceMethod yX5_adds, .selects RX5 yX5_adds yX5_adds, .initialized RX5, .code yX5_adds cX5_adds 4 none, .methodLink RX5 98 yX5_sorts, .instanceMethod yX5_sorts, .selects RX5 yX5_sorts yX5_sorts, .code yX5_sorts cX5_sorts 4 none, .methodLink RX5 90 yX5_isAhead, .instanceMethod yX5_isAhead, .selects RX5 yX5_isAhead yX5_isAhead, .code yX5_isAhead cX5_isAhead 3 (some .boolean)] ++ wsX50)
set_option maxRecDepth 20000 in
theorem ggX5_together_X5_adds : GoodIn wsX5_together wsX5_adds := goodIn_r _ [13, 1, 7, 5, 22, 23, 24, 25, 26, 27, 28, 29, 30, 31, 32, 33, 34, 35, 36, 37, 38, 39, 40, 41, 42, 43, 44, 45, 46, 47, 48, 49, 50, 51] rfl (by decide +kernel)
set_option maxRecDepth 20000 in
theorem gX5_together_X5_adds : GoodIn wsX5_together (wsV RX5 94 RX5 yX5_adds wsX5_adds) := goodIn_app (goodIn_r _ [9, 10, 11, 12] rfl (by decide +kernel)) ggX5_together_X5_adds
set_option maxRecDepth 20000 in
theorem ggX5_together_X5_sorts : GoodIn wsX5_together wsX5_sorts := goodIn_r _ [17, 1, 7, 5, 18, 19, 20, 12, 21, 22, 23, 24, 25, 26, 27, 28, 29, 30, 31, 32, 33, 34, 35, 36, 37, 38, 39, 40, 41, 42, 43, 44, 45, 46, 47, 48, 49, 50, 51] rfl (by decide +kernel)
set_option maxRecDepth 20000 in
theorem gX5_together_X5_sorts : GoodIn wsX5_together (wsV RX5 98 RX5 yX5_sorts wsX5_sorts) := goodIn_app (goodIn_r _ [14, 15, 16, 12] rfl (by decide +kernel)) ggX5_together_X5_sorts
def dt_cX5_together_0 : List (Nat × Nat × Nat × Nat) := [(0, 42, 0, 0), (1, 3, 0, 0), (2, 181, 2, 87), (5, 3, 0, 0), (6, 54, 1, 5), (8, 21, 1, 5), (10, 42, 0, 0), (11, 180, 2, 17), (14, 27, 0, 0), (15, 46, 0, 0), (16, 162, 2, 37), (19, 42, 0, 0), (20, 42, 0, 0), (21, 180, 2, 26), (24, 16, 1, 6), (26, 27, 0, 0), (27, 104, 0, 0), (28, 21, 1, 5), (30, 96, 0, 0), (31, 46, 0, 0)]
theorem da_cX5_together_0 : fw dt_cX5_together_0 0 cX5_together.data.toList = true := by decide +kernel
theorem dX5_together_0 : decode cX5_together 0 = .ok (.aload_n 0, 1) := fo_42 (fw_get da_cX5_together_0 0 rfl)
theorem dX5_together_1 : decode cX5_together 1 = .ok (.iconst 0, 1) := fo_3 (fw_get da_cX5_together_0 1 rfl)
theorem dX5_together_2 : decode cX5_together 2 = .ok (.putfield 87, 3) := fo_181 (fw_get da_cX5_together_0 2 rfl)
theorem dX5_together_5 : decode cX5_together 5 = .ok (.iconst 0, 1) := fo_3 (fw_get da_cX5_together_0 3 rfl)
theorem dX5_together_6 : decode cX5_together 6 = .ok (.istore 5, 2) := fo_54 (fw_get da_cX5_together_0 4 rfl)
theorem dX5_together_8 : decode cX5_together 8 = .ok (.iload 5, 2) := fo_21 (fw_get da_cX5_together_0 5 rfl)
theorem dX5_together_10 : decode cX5_together 10 = .ok (.aload_n 0, 1) := fo_42 (fw_get da_cX5_together_0 6 rfl)
theorem dX5_together_11 : decode cX5_together 11 = .ok (.getfield 17, 3) := fo_180 (fw_get da_cX5_together_0 7 rfl)
theorem dX5_together_14 : decode cX5_together 14 = .ok (.iload_n 1, 1) := fo_27 (fw_get da_cX5_together_0 8 rfl)
theorem dX5_together_15 : decode cX5_together 15 = .ok (.iaload, 1) := fo_46 (fw_get da_cX5_together_0 9 rfl)
theorem dX5_together_16 : decode cX5_together 16 = .ok (.if_icmp .ge 37, 3) := fo_162 (fw_get da_cX5_together_0 10 rfl) (by decide +kernel)
theorem dX5_together_19 : decode cX5_together 19 = .ok (.aload_n 0, 1) := fo_42 (fw_get da_cX5_together_0 11 rfl)
theorem dX5_together_20 : decode cX5_together 20 = .ok (.aload_n 0, 1) := fo_42 (fw_get da_cX5_together_0 12 rfl)
theorem dX5_together_21 : decode cX5_together 21 = .ok (.getfield 26, 3) := fo_180 (fw_get da_cX5_together_0 13 rfl)
theorem dX5_together_24 : decode cX5_together 24 = .ok (.bipush 6, 2) := fo_16 (fw_get da_cX5_together_0 14 rfl) (by decide +kernel)
theorem dX5_together_26 : decode cX5_together 26 = .ok (.iload_n 1, 1) := fo_27 (fw_get da_cX5_together_0 15 rfl)
theorem dX5_together_27 : decode cX5_together 27 = .ok (.imul, 1) := fo_104 (fw_get da_cX5_together_0 16 rfl)
theorem dX5_together_28 : decode cX5_together 28 = .ok (.iload 5, 2) := fo_21 (fw_get da_cX5_together_0 17 rfl)
theorem dX5_together_30 : decode cX5_together 30 = .ok (.iadd, 1) := fo_96 (fw_get da_cX5_together_0 18 rfl)
theorem dX5_together_31 : decode cX5_together 31 = .ok (.iaload, 1) := fo_46 (fw_get da_cX5_together_0 19 rfl)
def dt_cX5_together_1 : List (Nat × Nat × Nat × Nat) := [(32, 42, 0, 0), (33, 180, 2, 29), (36, 16, 1, 6), (38, 27, 0, 0), (39, 104, 0, 0), (40, 21, 1, 5), (42, 96, 0, 0), (43, 46, 0, 0), (44, 182, 2, 94), (47, 132, 2, 1281), (50, 167, 2, 65494), (53, 3, 0, 0), (54, 54, 1, 5), (56, 21, 1, 5), (58, 42, 0, 0), (59, 180, 2, 17), (62, 28, 0, 0), (63, 46, 0, 0), (64, 162, 2, 37), (67, 42, 0, 0)]
theorem da_cX5_together_1 : fw dt_cX5_together_1 0 cX5_together.data.toList = true := by decide +kernel
theorem dX5_together_32 : decode cX5_together 32 = .ok (.aload_n 0, 1) := fo_42 (fw_get da_cX5_together_1 0 rfl)
theorem dX5_together_33 : decode cX5_together 33 = .ok (.getfield 29, 3) := fo_180 (fw_get da_cX5_together_1 1 rfl)
theorem dX5_together_36 : decode cX5_together 36 = .ok (.bipush 6, 2) := fo_16 (fw_get da_cX5_together_1 2 rfl) (by decide +kernel)
theorem dX5_together_38 : decode cX5_together 38 = .ok (.iload_n 1, 1) := fo_27 (fw_get da_cX5_together_1 3 rfl)
theorem dX5_together_39 : decode cX5_together 39 = .ok (.imul, 1) := fo_104 (fw_get da_cX5_together_1 4 rfl)
theorem dX5_together_40 : decode cX5_together 40 = .ok (.iload 5, 2) := fo_21 (fw_get da_cX5_together_1 5 rfl)
theorem dX5_together_42 : decode cX5_together 42 = .ok (.iadd, 1) := fo_96 (fw_get da_cX5_together_1 6 rfl)
theorem dX5_together_43 : decode cX5_together 43 = .ok (.iaload, 1) := fo_46 (fw_get da_cX5_together_1 7 rfl)
theorem dX5_together_44 : decode cX5_together 44 = .ok (.invokevirtual 94, 3) := fo_182 (fw_get da_cX5_together_1 8 rfl)
theorem dX5_together_47 : decode cX5_together 47 = .ok (.iinc 5 1, 3) := fo_132 (fw_get da_cX5_together_1 9 rfl) rfl (by decide +kernel)
theorem dX5_together_50 : decode cX5_together 50 = .ok (.goto (-42), 3) := fo_167 (fw_get da_cX5_together_1 10 rfl) (by decide +kernel)
theorem dX5_together_53 : decode cX5_together 53 = .ok (.iconst 0, 1) := fo_3 (fw_get da_cX5_together_1 11 rfl)
theorem dX5_together_54 : decode cX5_together 54 = .ok (.istore 5, 2) := fo_54 (fw_get da_cX5_together_1 12 rfl)
theorem dX5_together_56 : decode cX5_together 56 = .ok (.iload 5, 2) := fo_21 (fw_get da_cX5_together_1 13 rfl)
theorem dX5_together_58 : decode cX5_together 58 = .ok (.aload_n 0, 1) := fo_42 (fw_get da_cX5_together_1 14 rfl)
theorem dX5_together_59 : decode cX5_together 59 = .ok (.getfield 17, 3) := fo_180 (fw_get da_cX5_together_1 15 rfl)
theorem dX5_together_62 : decode cX5_together 62 = .ok (.iload_n 2, 1) := fo_28 (fw_get da_cX5_together_1 16 rfl)
theorem dX5_together_63 : decode cX5_together 63 = .ok (.iaload, 1) := fo_46 (fw_get da_cX5_together_1 17 rfl)
theorem dX5_together_64 : decode cX5_together 64 = .ok (.if_icmp .ge 37, 3) := fo_162 (fw_get da_cX5_together_1 18 rfl) (by decide +kernel)
theorem dX5_together_67 : decode cX5_together 67 = .ok (.aload_n 0, 1) := fo_42 (fw_get da_cX5_together_1 19 rfl)
def dt_cX5_together_2 : List (Nat × Nat × Nat × Nat) := [(68, 42, 0, 0), (69, 180, 2, 26), (72, 16, 1, 6), (74, 28, 0, 0), (75, 104, 0, 0), (76, 21, 1, 5), (78, 96, 0, 0), (79, 46, 0, 0), (80, 42, 0, 0), (81, 180, 2, 29), (84, 16, 1, 6), (86, 28, 0, 0), (87, 104, 0, 0), (88, 21, 1, 5), (90, 96, 0, 0), (91, 46, 0, 0), (92, 182, 2, 94), (95, 132, 2, 1281), (98, 167, 2, 65494), (101, 42, 0, 0)]
theorem da_cX5_together_2 : fw dt_cX5_together_2 0 cX5_together.data.toList = true := by decide +kernel
theorem dX5_together_68 : decode cX5_together 68 = .ok (.aload_n 0, 1) := fo_42 (fw_get da_cX5_together_2 0 rfl)
theorem dX5_together_69 : decode cX5_together 69 = .ok (.getfield 26, 3) := fo_180 (fw_get da_cX5_together_2 1 rfl)
theorem dX5_together_72 : decode cX5_together 72 = .ok (.bipush 6, 2) := fo_16 (fw_get da_cX5_together_2 2 rfl) (by decide +kernel)
theorem dX5_together_74 : decode cX5_together 74 = .ok (.iload_n 2, 1) := fo_28 (fw_get da_cX5_together_2 3 rfl)
theorem dX5_together_75 : decode cX5_together 75 = .ok (.imul, 1) := fo_104 (fw_get da_cX5_together_2 4 rfl)
theorem dX5_together_76 : decode cX5_together 76 = .ok (.iload 5, 2) := fo_21 (fw_get da_cX5_together_2 5 rfl)
theorem dX5_together_78 : decode cX5_together 78 = .ok (.iadd, 1) := fo_96 (fw_get da_cX5_together_2 6 rfl)
theorem dX5_together_79 : decode cX5_together 79 = .ok (.iaload, 1) := fo_46 (fw_get da_cX5_together_2 7 rfl)
theorem dX5_together_80 : decode cX5_together 80 = .ok (.aload_n 0, 1) := fo_42 (fw_get da_cX5_together_2 8 rfl)
theorem dX5_together_81 : decode cX5_together 81 = .ok (.getfield 29, 3) := fo_180 (fw_get da_cX5_together_2 9 rfl)
theorem dX5_together_84 : decode cX5_together 84 = .ok (.bipush 6, 2) := fo_16 (fw_get da_cX5_together_2 10 rfl) (by decide +kernel)
theorem dX5_together_86 : decode cX5_together 86 = .ok (.iload_n 2, 1) := fo_28 (fw_get da_cX5_together_2 11 rfl)
theorem dX5_together_87 : decode cX5_together 87 = .ok (.imul, 1) := fo_104 (fw_get da_cX5_together_2 12 rfl)
theorem dX5_together_88 : decode cX5_together 88 = .ok (.iload 5, 2) := fo_21 (fw_get da_cX5_together_2 13 rfl)
theorem dX5_together_90 : decode cX5_together 90 = .ok (.iadd, 1) := fo_96 (fw_get da_cX5_together_2 14 rfl)
theorem dX5_together_91 : decode cX5_together 91 = .ok (.iaload, 1) := fo_46 (fw_get da_cX5_together_2 15 rfl)
theorem dX5_together_92 : decode cX5_together 92 = .ok (.invokevirtual 94, 3) := fo_182 (fw_get da_cX5_together_2 16 rfl)
theorem dX5_together_95 : decode cX5_together 95 = .ok (.iinc 5 1, 3) := fo_132 (fw_get da_cX5_together_2 17 rfl) rfl (by decide +kernel)
theorem dX5_together_98 : decode cX5_together 98 = .ok (.goto (-42), 3) := fo_167 (fw_get da_cX5_together_2 18 rfl) (by decide +kernel)
theorem dX5_together_101 : decode cX5_together 101 = .ok (.aload_n 0, 1) := fo_42 (fw_get da_cX5_together_2 19 rfl)
def dt_cX5_together_3 : List (Nat × Nat × Nat × Nat) := [(102, 182, 2, 98), (105, 42, 0, 0), (106, 180, 2, 87), (109, 21, 1, 4), (111, 164, 2, 13), (114, 42, 0, 0), (115, 180, 2, 35), (118, 21, 1, 4), (120, 46, 0, 0), (121, 167, 2, 4), (124, 3, 0, 0), (125, 54, 1, 5), (127, 42, 0, 0), (128, 180, 2, 20), (131, 27, 0, 0), (132, 46, 0, 0), (133, 42, 0, 0), (134, 180, 2, 20), (137, 28, 0, 0), (138, 46, 0, 0)]
theorem da_cX5_together_3 : fw dt_cX5_together_3 0 cX5_together.data.toList = true := by decide +kernel
theorem dX5_together_102 : decode cX5_together 102 = .ok (.invokevirtual 98, 3) := fo_182 (fw_get da_cX5_together_3 0 rfl)
theorem dX5_together_105 : decode cX5_together 105 = .ok (.aload_n 0, 1) := fo_42 (fw_get da_cX5_together_3 1 rfl)
theorem dX5_together_106 : decode cX5_together 106 = .ok (.getfield 87, 3) := fo_180 (fw_get da_cX5_together_3 2 rfl)
theorem dX5_together_109 : decode cX5_together 109 = .ok (.iload 4, 2) := fo_21 (fw_get da_cX5_together_3 3 rfl)
theorem dX5_together_111 : decode cX5_together 111 = .ok (.if_icmp .le 13, 3) := fo_164 (fw_get da_cX5_together_3 4 rfl) (by decide +kernel)
theorem dX5_together_114 : decode cX5_together 114 = .ok (.aload_n 0, 1) := fo_42 (fw_get da_cX5_together_3 5 rfl)
theorem dX5_together_115 : decode cX5_together 115 = .ok (.getfield 35, 3) := fo_180 (fw_get da_cX5_together_3 6 rfl)
theorem dX5_together_118 : decode cX5_together 118 = .ok (.iload 4, 2) := fo_21 (fw_get da_cX5_together_3 7 rfl)
theorem dX5_together_120 : decode cX5_together 120 = .ok (.iaload, 1) := fo_46 (fw_get da_cX5_together_3 8 rfl)
theorem dX5_together_121 : decode cX5_together 121 = .ok (.goto 4, 3) := fo_167 (fw_get da_cX5_together_3 9 rfl) (by decide +kernel)
theorem dX5_together_124 : decode cX5_together 124 = .ok (.iconst 0, 1) := fo_3 (fw_get da_cX5_together_3 10 rfl)
theorem dX5_together_125 : decode cX5_together 125 = .ok (.istore 5, 2) := fo_54 (fw_get da_cX5_together_3 11 rfl)
theorem dX5_together_127 : decode cX5_together 127 = .ok (.aload_n 0, 1) := fo_42 (fw_get da_cX5_together_3 12 rfl)
theorem dX5_together_128 : decode cX5_together 128 = .ok (.getfield 20, 3) := fo_180 (fw_get da_cX5_together_3 13 rfl)
theorem dX5_together_131 : decode cX5_together 131 = .ok (.iload_n 1, 1) := fo_27 (fw_get da_cX5_together_3 14 rfl)
theorem dX5_together_132 : decode cX5_together 132 = .ok (.iaload, 1) := fo_46 (fw_get da_cX5_together_3 15 rfl)
theorem dX5_together_133 : decode cX5_together 133 = .ok (.aload_n 0, 1) := fo_42 (fw_get da_cX5_together_3 16 rfl)
theorem dX5_together_134 : decode cX5_together 134 = .ok (.getfield 20, 3) := fo_180 (fw_get da_cX5_together_3 17 rfl)
theorem dX5_together_137 : decode cX5_together 137 = .ok (.iload_n 2, 1) := fo_28 (fw_get da_cX5_together_3 18 rfl)
theorem dX5_together_138 : decode cX5_together 138 = .ok (.iaload, 1) := fo_46 (fw_get da_cX5_together_3 19 rfl)
def dt_cX5_together_4 : List (Nat × Nat × Nat × Nat) := [(139, 96, 0, 0), (140, 21, 1, 5), (142, 96, 0, 0), (143, 54, 1, 6), (145, 3, 0, 0), (146, 54, 1, 7), (148, 3, 0, 0), (149, 54, 1, 8), (151, 21, 1, 8), (153, 42, 0, 0), (154, 180, 2, 87), (157, 162, 2, 69), (160, 42, 0, 0), (161, 180, 2, 35), (164, 21, 1, 8), (166, 46, 0, 0), (167, 21, 1, 5), (169, 100, 0, 0), (170, 157, 2, 6), (173, 167, 2, 47)]
theorem da_cX5_together_4 : fw dt_cX5_together_4 0 cX5_together.data.toList = true := by decide +kernel
theorem dX5_together_139 : decode cX5_together 139 = .ok (.iadd, 1) := fo_96 (fw_get da_cX5_together_4 0 rfl)
theorem dX5_together_140 : decode cX5_together 140 = .ok (.iload 5, 2) := fo_21 (fw_get da_cX5_together_4 1 rfl)
theorem dX5_together_142 : decode cX5_together 142 = .ok (.iadd, 1) := fo_96 (fw_get da_cX5_together_4 2 rfl)
theorem dX5_together_143 : decode cX5_together 143 = .ok (.istore 6, 2) := fo_54 (fw_get da_cX5_together_4 3 rfl)
theorem dX5_together_145 : decode cX5_together 145 = .ok (.iconst 0, 1) := fo_3 (fw_get da_cX5_together_4 4 rfl)
theorem dX5_together_146 : decode cX5_together 146 = .ok (.istore 7, 2) := fo_54 (fw_get da_cX5_together_4 5 rfl)
theorem dX5_together_148 : decode cX5_together 148 = .ok (.iconst 0, 1) := fo_3 (fw_get da_cX5_together_4 6 rfl)
theorem dX5_together_149 : decode cX5_together 149 = .ok (.istore 8, 2) := fo_54 (fw_get da_cX5_together_4 7 rfl)
theorem dX5_together_151 : decode cX5_together 151 = .ok (.iload 8, 2) := fo_21 (fw_get da_cX5_together_4 8 rfl)
theorem dX5_together_153 : decode cX5_together 153 = .ok (.aload_n 0, 1) := fo_42 (fw_get da_cX5_together_4 9 rfl)
theorem dX5_together_154 : decode cX5_together 154 = .ok (.getfield 87, 3) := fo_180 (fw_get da_cX5_together_4 10 rfl)
theorem dX5_together_157 : decode cX5_together 157 = .ok (.if_icmp .ge 69, 3) := fo_162 (fw_get da_cX5_together_4 11 rfl) (by decide +kernel)
theorem dX5_together_160 : decode cX5_together 160 = .ok (.aload_n 0, 1) := fo_42 (fw_get da_cX5_together_4 12 rfl)
theorem dX5_together_161 : decode cX5_together 161 = .ok (.getfield 35, 3) := fo_180 (fw_get da_cX5_together_4 13 rfl)
theorem dX5_together_164 : decode cX5_together 164 = .ok (.iload 8, 2) := fo_21 (fw_get da_cX5_together_4 14 rfl)
theorem dX5_together_166 : decode cX5_together 166 = .ok (.iaload, 1) := fo_46 (fw_get da_cX5_together_4 15 rfl)
theorem dX5_together_167 : decode cX5_together 167 = .ok (.iload 5, 2) := fo_21 (fw_get da_cX5_together_4 16 rfl)
theorem dX5_together_169 : decode cX5_together 169 = .ok (.isub, 1) := fo_100 (fw_get da_cX5_together_4 17 rfl)
theorem dX5_together_170 : decode cX5_together 170 = .ok (.ifCond .gt 6, 3) := fo_157 (fw_get da_cX5_together_4 18 rfl) (by decide +kernel)
theorem dX5_together_173 : decode cX5_together 173 = .ok (.goto 47, 3) := fo_167 (fw_get da_cX5_together_4 19 rfl) (by decide +kernel)
def dt_cX5_together_5 : List (Nat × Nat × Nat × Nat) := [(176, 42, 0, 0), (177, 180, 2, 26), (180, 16, 1, 6), (182, 29, 0, 0), (183, 104, 0, 0), (184, 21, 1, 7), (186, 96, 0, 0), (187, 42, 0, 0), (188, 180, 2, 32), (191, 21, 1, 8), (193, 46, 0, 0), (194, 79, 0, 0), (195, 42, 0, 0), (196, 180, 2, 29), (199, 16, 1, 6), (201, 29, 0, 0), (202, 104, 0, 0), (203, 21, 1, 7), (205, 96, 0, 0), (206, 42, 0, 0)]
theorem da_cX5_together_5 : fw dt_cX5_together_5 0 cX5_together.data.toList = true := by decide +kernel
theorem dX5_together_176 : decode cX5_together 176 = .ok (.aload_n 0, 1) := fo_42 (fw_get da_cX5_together_5 0 rfl)
theorem dX5_together_177 : decode cX5_together 177 = .ok (.getfield 26, 3) := fo_180 (fw_get da_cX5_together_5 1 rfl)
theorem dX5_together_180 : decode cX5_together 180 = .ok (.bipush 6, 2) := fo_16 (fw_get da_cX5_together_5 2 rfl) (by decide +kernel)
theorem dX5_together_182 : decode cX5_together 182 = .ok (.iload_n 3, 1) := fo_29 (fw_get da_cX5_together_5 3 rfl)
theorem dX5_together_183 : decode cX5_together 183 = .ok (.imul, 1) := fo_104 (fw_get da_cX5_together_5 4 rfl)
theorem dX5_together_184 : decode cX5_together 184 = .ok (.iload 7, 2) := fo_21 (fw_get da_cX5_together_5 5 rfl)
theorem dX5_together_186 : decode cX5_together 186 = .ok (.iadd, 1) := fo_96 (fw_get da_cX5_together_5 6 rfl)
theorem dX5_together_187 : decode cX5_together 187 = .ok (.aload_n 0, 1) := fo_42 (fw_get da_cX5_together_5 7 rfl)
theorem dX5_together_188 : decode cX5_together 188 = .ok (.getfield 32, 3) := fo_180 (fw_get da_cX5_together_5 8 rfl)
theorem dX5_together_191 : decode cX5_together 191 = .ok (.iload 8, 2) := fo_21 (fw_get da_cX5_together_5 9 rfl)
theorem dX5_together_193 : decode cX5_together 193 = .ok (.iaload, 1) := fo_46 (fw_get da_cX5_together_5 10 rfl)
theorem dX5_together_194 : decode cX5_together 194 = .ok (.iastore, 1) := fo_79 (fw_get da_cX5_together_5 11 rfl)
theorem dX5_together_195 : decode cX5_together 195 = .ok (.aload_n 0, 1) := fo_42 (fw_get da_cX5_together_5 12 rfl)
theorem dX5_together_196 : decode cX5_together 196 = .ok (.getfield 29, 3) := fo_180 (fw_get da_cX5_together_5 13 rfl)
theorem dX5_together_199 : decode cX5_together 199 = .ok (.bipush 6, 2) := fo_16 (fw_get da_cX5_together_5 14 rfl) (by decide +kernel)
theorem dX5_together_201 : decode cX5_together 201 = .ok (.iload_n 3, 1) := fo_29 (fw_get da_cX5_together_5 15 rfl)
theorem dX5_together_202 : decode cX5_together 202 = .ok (.imul, 1) := fo_104 (fw_get da_cX5_together_5 16 rfl)
theorem dX5_together_203 : decode cX5_together 203 = .ok (.iload 7, 2) := fo_21 (fw_get da_cX5_together_5 17 rfl)
theorem dX5_together_205 : decode cX5_together 205 = .ok (.iadd, 1) := fo_96 (fw_get da_cX5_together_5 18 rfl)
theorem dX5_together_206 : decode cX5_together 206 = .ok (.aload_n 0, 1) := fo_42 (fw_get da_cX5_together_5 19 rfl)
def dt_cX5_together_6 : List (Nat × Nat × Nat × Nat) := [(207, 180, 2, 35), (210, 21, 1, 8), (212, 46, 0, 0), (213, 21, 1, 5), (215, 100, 0, 0), (216, 79, 0, 0), (217, 132, 2, 1793), (220, 132, 2, 2049), (223, 167, 2, 65464), (226, 42, 0, 0), (227, 180, 2, 17), (230, 29, 0, 0), (231, 21, 1, 7), (233, 79, 0, 0), (234, 42, 0, 0), (235, 180, 2, 20), (238, 29, 0, 0), (239, 21, 1, 6), (241, 79, 0, 0), (242, 42, 0, 0)]
theorem da_cX5_together_6 : fw dt_cX5_together_6 0 cX5_together.data.toList = true := by decide +kernel
theorem dX5_together_207 : decode cX5_together 207 = .ok (.getfield 35, 3) := fo_180 (fw_get da_cX5_together_6 0 rfl)
theorem dX5_together_210 : decode cX5_together 210 = .ok (.iload 8, 2) := fo_21 (fw_get da_cX5_together_6 1 rfl)
theorem dX5_together_212 : decode cX5_together 212 = .ok (.iaload, 1) := fo_46 (fw_get da_cX5_together_6 2 rfl)
theorem dX5_together_213 : decode cX5_together 213 = .ok (.iload 5, 2) := fo_21 (fw_get da_cX5_together_6 3 rfl)
theorem dX5_together_215 : decode cX5_together 215 = .ok (.isub, 1) := fo_100 (fw_get da_cX5_together_6 4 rfl)
theorem dX5_together_216 : decode cX5_together 216 = .ok (.iastore, 1) := fo_79 (fw_get da_cX5_together_6 5 rfl)
theorem dX5_together_217 : decode cX5_together 217 = .ok (.iinc 7 1, 3) := fo_132 (fw_get da_cX5_together_6 6 rfl) rfl (by decide +kernel)
theorem dX5_together_220 : decode cX5_together 220 = .ok (.iinc 8 1, 3) := fo_132 (fw_get da_cX5_together_6 7 rfl) rfl (by decide +kernel)
theorem dX5_together_223 : decode cX5_together 223 = .ok (.goto (-72), 3) := fo_167 (fw_get da_cX5_together_6 8 rfl) (by decide +kernel)
theorem dX5_together_226 : decode cX5_together 226 = .ok (.aload_n 0, 1) := fo_42 (fw_get da_cX5_together_6 9 rfl)
theorem dX5_together_227 : decode cX5_together 227 = .ok (.getfield 17, 3) := fo_180 (fw_get da_cX5_together_6 10 rfl)
theorem dX5_together_230 : decode cX5_together 230 = .ok (.iload_n 3, 1) := fo_29 (fw_get da_cX5_together_6 11 rfl)
theorem dX5_together_231 : decode cX5_together 231 = .ok (.iload 7, 2) := fo_21 (fw_get da_cX5_together_6 12 rfl)
theorem dX5_together_233 : decode cX5_together 233 = .ok (.iastore, 1) := fo_79 (fw_get da_cX5_together_6 13 rfl)
theorem dX5_together_234 : decode cX5_together 234 = .ok (.aload_n 0, 1) := fo_42 (fw_get da_cX5_together_6 14 rfl)
theorem dX5_together_235 : decode cX5_together 235 = .ok (.getfield 20, 3) := fo_180 (fw_get da_cX5_together_6 15 rfl)
theorem dX5_together_238 : decode cX5_together 238 = .ok (.iload_n 3, 1) := fo_29 (fw_get da_cX5_together_6 16 rfl)
theorem dX5_together_239 : decode cX5_together 239 = .ok (.iload 6, 2) := fo_21 (fw_get da_cX5_together_6 17 rfl)
theorem dX5_together_241 : decode cX5_together 241 = .ok (.iastore, 1) := fo_79 (fw_get da_cX5_together_6 18 rfl)
theorem dX5_together_242 : decode cX5_together 242 = .ok (.aload_n 0, 1) := fo_42 (fw_get da_cX5_together_6 19 rfl)
def dt_cX5_together_7 : List (Nat × Nat × Nat × Nat) := [(243, 180, 2, 23), (246, 29, 0, 0), (247, 21, 1, 5), (249, 79, 0, 0), (250, 177, 0, 0)]
theorem da_cX5_together_7 : fw dt_cX5_together_7 0 cX5_together.data.toList = true := by decide +kernel
theorem dX5_together_243 : decode cX5_together 243 = .ok (.getfield 23, 3) := fo_180 (fw_get da_cX5_together_7 0 rfl)
theorem dX5_together_246 : decode cX5_together 246 = .ok (.iload_n 3, 1) := fo_29 (fw_get da_cX5_together_7 1 rfl)
theorem dX5_together_247 : decode cX5_together 247 = .ok (.iload 5, 2) := fo_21 (fw_get da_cX5_together_7 2 rfl)
theorem dX5_together_249 : decode cX5_together 249 = .ok (.iastore, 1) := fo_79 (fw_get da_cX5_together_7 3 rfl)
theorem dX5_together_250 : decode cX5_together 250 = .ok (.return_, 1) := fo_177 (fw_get da_cX5_together_7 4 rfl)


set_option maxHeartbeats 4000000 in
set_option maxRecDepth 100000 in
theorem c_X5_together (l : Launch) (dC : Nat → ClassId) (dI : Nat → Nat → Nat) (h0 : Nat) (g_row : Nat) (g_many : Nat) (g_loss : Nat) (g_less : Nat) (g_voteValue : Nat) (g_voteNumber : Nat) (g_allValue : Nat) (g_allNumber : Nat) (g_nodeL : Nat) (g_nodeR : Nat) (g_part : Nat) (g_wasMany : Nat) (g_wasLoss : Nat) (g_wasValue : Nat) (g_wasNumber : Nat) (g_path : Nat) (g_heavyValue : Nat) (g_heavyTimes : Nat) (g_fewest : Nat) (g_which : Nat) (g_met : Nat) (m_n : Int32) (m_slots : Int32) (m_thrown : Int32) (m_allMany : Int32) (m_nodes : Int32) (m_partMany : Int32) (m_pathMany : Int32) (m_heavyMany : Int32) (m_mostMet : Int32) (cyI : ClassId) (fm : Nat → Int32) (fl : Nat → Int32) (fe : Nat → Int32) (vv : Nat → Int32) (vn : Nat → Int32) (av : Nat → Int32) (an : Nat → Int32) (mua : Int32 → Int) (mub : Int32 → Int) (p0 : Int32) (p1 : Int32) (p2 : Int32) (p3 : Int32) (sz : Nat) (b0 : 0 ≤ p0.toInt) (b1 : p0.toInt < 324) (b2 : 0 ≤ p1.toInt) (b3 : p1.toInt < 324) (b4 : 0 ≤ p2.toInt) (b5 : p2.toInt ≤ 322) (b6 : 0 ≤ p3.toInt) (b7 : p3.toInt ≤ 6) (m0 : 0 ≤ (fm p0.toNatClampNeg).toInt) (m1 : (fm p0.toNatClampNeg).toInt ≤ 6) (m2 : 0 ≤ (fm p1.toNatClampNeg).toInt) (m3 : (fm p1.toNatClampNeg).toInt ≤ 6) (va : mj_vs vv vn (6 * p0.toNatClampNeg) (fm p0.toNatClampNeg).toNatClampNeg mua) (vb : mj_vs vv vn (6 * p1.toNatClampNeg) (fm p1.toNatClampNeg).toNatClampNeg mub) (bd : ∀ v : Int32, mua v + mub v ≤ 1000000) : kx_MQ l (dC, dI) yX5_together wsX5_together ({ frames := 2, cells := 0, slots := 0, locals := 90 }) [.ref h0, .int p0, .int p1, .int p2, .int p3] [kx_5 h0 g_row m_n m_slots m_thrown g_many g_loss g_less g_voteValue g_voteNumber g_allValue g_allNumber m_allMany g_nodeL g_nodeR m_nodes g_part m_partMany g_wasMany g_wasLoss g_wasValue g_wasNumber g_path m_pathMany g_heavyValue g_heavyTimes m_heavyMany g_fewest g_which g_met m_mostMet, kx_a g_many cyI 324 fm, kx_a g_loss cyI 324 fl, kx_a g_less cyI 324 fe, kx_a g_voteValue cyI 1944 vv, kx_a g_voteNumber cyI 1944 vn, kx_a g_allValue cyI 12 av, kx_a g_allNumber cyI 12 an] [(cyI, .int)] sz (fun A => va_Qv (fun u : Int32 × Int32 × Int32 × (Int32 → Int) × (Nat → Int32) × (Nat → Int32) × (Nat → Int32) × (Nat → Int32) × (Nat → Int32) × (Nat → Int32) × (Nat → Int32) => mj_tog p3.toNatClampNeg mua mub u.2.2.2.1 u.2.1 ∧ u.2.2.2.2.2.1 = upd fl p2.toNatClampNeg (fl p0.toNatClampNeg + fl p1.toNatClampNeg + u.2.1) ∧ u.2.2.2.2.2.2.1 = upd fe p2.toNatClampNeg u.2.1 ∧ u.2.2.2.2.1 = upd fm p2.toNatClampNeg u.2.2.1 ∧ 0 ≤ u.2.2.1.toInt ∧ u.2.2.1.toInt ≤ p3.toInt ∧ mj_vs u.2.2.2.2.2.2.2.1 u.2.2.2.2.2.2.2.2.1 (6 * p2.toNatClampNeg) u.2.2.1.toNatClampNeg u.2.2.2.1 ∧ mj_srt u.2.2.2.2.2.2.2.1 u.2.2.2.2.2.2.2.2.1 (6 * p2.toNatClampNeg) u.2.2.1.toNatClampNeg ∧ ∀ q : Nat, (q < 6 * p2.toNatClampNeg ∨ 6 * p2.toNatClampNeg + 6 ≤ q) → u.2.2.2.2.2.2.2.1 q = vv q ∧ u.2.2.2.2.2.2.2.2.1 q = vn q) (fun (u : Int32 × Int32 × Int32 × (Int32 → Int) × (Nat → Int32) × (Nat → Int32) × (Nat → Int32) × (Nat → Int32) × (Nat → Int32) × (Nat → Int32) × (Nat → Int32)) (t : State) => va_P (dC, dI) vwCl [kx_5 h0 g_row m_n m_slots m_thrown g_many g_loss g_less g_voteValue g_voteNumber g_allValue g_allNumber u.1 g_nodeL g_nodeR m_nodes g_part m_partMany g_wasMany g_wasLoss g_wasValue g_wasNumber g_path m_pathMany g_heavyValue g_heavyTimes m_heavyMany g_fewest g_which g_met m_mostMet, kx_a g_many cyI 324 u.2.2.2.2.1, kx_a g_loss cyI 324 u.2.2.2.2.2.1, kx_a g_less cyI 324 u.2.2.2.2.2.2.1, kx_a g_voteValue cyI 1944 u.2.2.2.2.2.2.2.1, kx_a g_voteNumber cyI 1944 u.2.2.2.2.2.2.2.2.1, kx_a g_allValue cyI 12 u.2.2.2.2.2.2.2.2.2.1, kx_a g_allNumber cyI 12 u.2.2.2.2.2.2.2.2.2.2] t.heap ∧ va_K (dC, dI) vwCl [(cyI, .int)] t ∧ va_D A [kx_5 h0 g_row m_n m_slots m_thrown g_many g_loss g_less g_voteValue g_voteNumber g_allValue g_allNumber u.1 g_nodeL g_nodeR m_nodes g_part m_partMany g_wasMany g_wasLoss g_wasValue g_wasNumber g_path m_pathMany g_heavyValue g_heavyTimes m_heavyMany g_fewest g_which g_met m_mostMet, kx_a g_many cyI 324 u.2.2.2.2.1, kx_a g_loss cyI 324 u.2.2.2.2.2.1, kx_a g_less cyI 324 u.2.2.2.2.2.2.1, kx_a g_voteValue cyI 1944 u.2.2.2.2.2.2.2.1, kx_a g_voteNumber cyI 1944 u.2.2.2.2.2.2.2.2.1, kx_a g_allValue cyI 12 u.2.2.2.2.2.2.2.2.2.1, kx_a g_allNumber cyI 12 u.2.2.2.2.2.2.2.2.2.2]) A) := by
  refine kx_stQ (ws := wsX5_together) (cc := cX5_together) (maxL := 9) (ret := none) (by decide) rfl (Nat.le_of_ble_eq_true rfl) ?_
  intro p e s m below meth c A ls hx hb hr hlocks hts hown hml hA hS hP hK hD hl
  have hown : s.vm.findClass RX5 = some m.cls := hown
  have hl : lv_has ls 9 [(0, .ref h0), (1, .int p0), (2, .int p1), (3, .int p2), (4, .int p3)] := hl
  have hf_87 := hts (.fieldLink RX5 87 "MajorityIndexModel" "allMany" "I") (List.mem_of_getElem? (i := 1) rfl)
  have hi_5 : ∀ w ∈ u_ws RX5 TX5 30, w ∈ wsX5_together := fun w h => List.mem_cons_of_mem _ (List.mem_append_right _ h)
  have hf_17 := hts (.fieldLink RX5 17 "MajorityIndexModel" "many" "[I") (List.mem_of_getElem? (i := 2) rfl)
  have hf_20 := hts (.fieldLink RX5 20 "MajorityIndexModel" "loss" "[I") (List.mem_of_getElem? (i := 6) rfl)
  have hf_23 := hts (.fieldLink RX5 23 "MajorityIndexModel" "less" "[I") (List.mem_of_getElem? (i := 8) rfl)
  have hf_35 := hts (.fieldLink RX5 35 "MajorityIndexModel" "allNumber" "[I") (List.mem_of_getElem? (i := 5) rfl)
  have hf_26 := hts (.fieldLink RX5 26 "MajorityIndexModel" "voteValue" "[I") (List.mem_of_getElem? (i := 3) rfl)
  have hf_32 := hts (.fieldLink RX5 32 "MajorityIndexModel" "allValue" "[I") (List.mem_of_getElem? (i := 7) rfl)
  have hf_29 := hts (.fieldLink RX5 29 "MajorityIndexModel" "voteNumber" "[I") (List.mem_of_getElem? (i := 4) rfl)
  have n_p0 := ki_nat p0 rfl (om_10 b0)
  have n_p1 := ki_nat p1 rfl (om_10 b2)
  refine lv_aload_n hx hb dX5_together_0 rfl (lv_at hl 0 rfl) ?_
  refine lv_iconst (v := 0) hx hb dX5_together_1 (by decide) ?_
  refine va_put (D := (dC, dI)) (ci := 5) (v := .int 0) (ty := .int) (C := RX5) (T := TX5) (N := 30) hx hb hts hi_5 tyX5 tyX5_ok nmX5 hown hK hP hD hS 0 rfl rfl 11 (by decide) hf_87 (fun _ h9 => h9) rfl (by decide +kernel) rfl rfl (Nat.le_of_ble_eq_true rfl) dX5_together_2 (fun H locs hP hD hS => ?_)
  obtain ⟨hP, hD⟩ := kx_re (w2 := [kx_5 h0 g_row m_n m_slots m_thrown g_many g_loss g_less g_voteValue g_voteNumber g_allValue g_allNumber 0 g_nodeL g_nodeR m_nodes g_part m_partMany g_wasMany g_wasLoss g_wasValue g_wasNumber g_path m_pathMany g_heavyValue g_heavyTimes m_heavyMany g_fewest g_which g_met m_mostMet, kx_a g_many cyI 324 fm, kx_a g_loss cyI 324 fl, kx_a g_less cyI 324 fe, kx_a g_voteValue cyI 1944 vv, kx_a g_voteNumber cyI 1944 vn, kx_a g_allValue cyI 12 av, kx_a g_allNumber cyI 12 an]) hP hD rfl
  refine lv_iconst (v := 0) hx hb dX5_together_5 (by decide) ?_
  refine lv_istore (lv' := [(5, .int 0), (0, .ref h0), (1, .int p0), (2, .int p1), (3, .int p2), (4, .int p3)]) hx hb dX5_together_6 hl (by decide) rfl (fun ls hl => ?_)
  have LP1 : ∀ (n : Nat) (i : Int32) (am : Int32) (gv : Nat → Int32) (gn : Nat → Int32), (0 ≤ i.toInt) → (i.toInt ≤ (fm p0.toNatClampNeg).toInt) → (0 ≤ am.toInt) → (am.toInt ≤ i.toInt) → (mj_vs gv gn 0 am.toNatClampNeg (fun w => mj_z w + mj_pm vv vn (6 * p0.toNatClampNeg) i.toNatClampNeg w)) → ((fm p0.toNatClampNeg).toInt - i.toInt).toNat < n → ∀ (H : Heap) (locs : List Loc), va_P (dC, dI) vwCl [kx_5 h0 g_row m_n m_slots m_thrown g_many g_loss g_less g_voteValue g_voteNumber g_allValue g_allNumber am g_nodeL g_nodeR m_nodes g_part m_partMany g_wasMany g_wasLoss g_wasValue g_wasNumber g_path m_pathMany g_heavyValue g_heavyTimes m_heavyMany g_fewest g_which g_met m_mostMet, kx_a g_many cyI 324 fm, kx_a g_loss cyI 324 fl, kx_a g_less cyI 324 fe, kx_a g_voteValue cyI 1944 vv, kx_a g_voteNumber cyI 1944 vn, kx_a g_allValue cyI 12 gv, kx_a g_allNumber cyI 12 gn] H → va_D A [kx_5 h0 g_row m_n m_slots m_thrown g_many g_loss g_less g_voteValue g_voteNumber g_allValue g_allNumber am g_nodeL g_nodeR m_nodes g_part m_partMany g_wasMany g_wasLoss g_wasValue g_wasNumber g_path m_pathMany g_heavyValue g_heavyTimes m_heavyMany g_fewest g_which g_met m_mostMet, kx_a g_many cyI 324 fm, kx_a g_loss cyI 324 fl, kx_a g_less cyI 324 fe, kx_a g_voteValue cyI 1944 vv, kx_a g_voteNumber cyI 1944 vn, kx_a g_allValue cyI 12 gv, kx_a g_allNumber cyI 12 gn] → va_S A s.heap H locs → ∀ (ls : Array Slot), lv_has ls 9 [(5, .int i), (0, .ref h0), (1, .int p0), (2, .int p1), (3, .int p2), (4, .int p3)] → W p l e (headSpec wsX5_together ({ frames := 2, cells := 0, slots := 0, locals := 90 })).room s m ([.ref h0, .int p0, .int p1, .int p2, .int p3] : List Value).toArray below meth c H locs 0 0 (MQ below (va_Qv (fun u : Int32 × Int32 × Int32 × (Int32 → Int) × (Nat → Int32) × (Nat → Int32) × (Nat → Int32) × (Nat → Int32) × (Nat → Int32) × (Nat → Int32) × (Nat → Int32) => mj_tog p3.toNatClampNeg mua mub u.2.2.2.1 u.2.1 ∧ u.2.2.2.2.2.1 = upd fl p2.toNatClampNeg (fl p0.toNatClampNeg + fl p1.toNatClampNeg + u.2.1) ∧ u.2.2.2.2.2.2.1 = upd fe p2.toNatClampNeg u.2.1 ∧ u.2.2.2.2.1 = upd fm p2.toNatClampNeg u.2.2.1 ∧ 0 ≤ u.2.2.1.toInt ∧ u.2.2.1.toInt ≤ p3.toInt ∧ mj_vs u.2.2.2.2.2.2.2.1 u.2.2.2.2.2.2.2.2.1 (6 * p2.toNatClampNeg) u.2.2.1.toNatClampNeg u.2.2.2.1 ∧ mj_srt u.2.2.2.2.2.2.2.1 u.2.2.2.2.2.2.2.2.1 (6 * p2.toNatClampNeg) u.2.2.1.toNatClampNeg ∧ ∀ q : Nat, (q < 6 * p2.toNatClampNeg ∨ 6 * p2.toNatClampNeg + 6 ≤ q) → u.2.2.2.2.2.2.2.1 q = vv q ∧ u.2.2.2.2.2.2.2.2.1 q = vn q) (fun (u : Int32 × Int32 × Int32 × (Int32 → Int) × (Nat → Int32) × (Nat → Int32) × (Nat → Int32) × (Nat → Int32) × (Nat → Int32) × (Nat → Int32) × (Nat → Int32)) (t : State) => va_P (dC, dI) vwCl [kx_5 h0 g_row m_n m_slots m_thrown g_many g_loss g_less g_voteValue g_voteNumber g_allValue g_allNumber u.1 g_nodeL g_nodeR m_nodes g_part m_partMany g_wasMany g_wasLoss g_wasValue g_wasNumber g_path m_pathMany g_heavyValue g_heavyTimes m_heavyMany g_fewest g_which g_met m_mostMet, kx_a g_many cyI 324 u.2.2.2.2.1, kx_a g_loss cyI 324 u.2.2.2.2.2.1, kx_a g_less cyI 324 u.2.2.2.2.2.2.1, kx_a g_voteValue cyI 1944 u.2.2.2.2.2.2.2.1, kx_a g_voteNumber cyI 1944 u.2.2.2.2.2.2.2.2.1, kx_a g_allValue cyI 12 u.2.2.2.2.2.2.2.2.2.1, kx_a g_allNumber cyI 12 u.2.2.2.2.2.2.2.2.2.2] t.heap ∧ va_K (dC, dI) vwCl [(cyI, .int)] t ∧ va_D A [kx_5 h0 g_row m_n m_slots m_thrown g_many g_loss g_less g_voteValue g_voteNumber g_allValue g_allNumber u.1 g_nodeL g_nodeR m_nodes g_part m_partMany g_wasMany g_wasLoss g_wasValue g_wasNumber g_path m_pathMany g_heavyValue g_heavyTimes m_heavyMany g_fewest g_which g_met m_mostMet, kx_a g_many cyI 324 u.2.2.2.2.1, kx_a g_loss cyI 324 u.2.2.2.2.2.1, kx_a g_less cyI 324 u.2.2.2.2.2.2.1, kx_a g_voteValue cyI 1944 u.2.2.2.2.2.2.2.1, kx_a g_voteNumber cyI 1944 u.2.2.2.2.2.2.2.2.1, kx_a g_allValue cyI 12 u.2.2.2.2.2.2.2.2.2.1, kx_a g_allNumber cyI 12 u.2.2.2.2.2.2.2.2.2.2]) A) ([.ref h0, .int p0, .int p1, .int p2, .int p3] : List Value).toArray s 0 0 A) (F0 m 8 ls []) := by
    intro n
    induction n with
    | zero => intro i am gv gn LP1_h0 LP1_h1 LP1_h2 LP1_h3 LP1_h4 hn; exact absurd hn (Nat.not_lt_zero _)
    | succ n ih1 =>
      intro i am gv gn LP1_h0 LP1_h1 LP1_h2 LP1_h3 LP1_h4 hn1 H locs hP hD hS ls hl
      have n_i := ki_nat i rfl (om_10 LP1_h0)
      have n_ma := ki_nat (fm p0.toNatClampNeg) rfl (om_10 m0)
      refine lv_iload hx hb dX5_together_8 (lv_at hl 0 rfl) ?_
      refine lv_aload_n hx hb dX5_together_10 rfl (lv_at hl 1 rfl) ?_
      refine va_get (D := (dC, dI)) (ci := 5) (v := .ref g_many) (C := RX5) (T := TX5) (N := 30) hx hb hts hi_5 hown hK hP 0 rfl rfl 4 (by decide) hf_17 (fun _ h9 => h9) rfl dX5_together_11 ?_
      refine lv_iload_n hx hb dX5_together_14 rfl (lv_at hl 2 rfl) ?_
      refine va_iald hx hb hK hP 1 0 rfl rfl (ki_in (om_10 b0) (om_246 b1)) dX5_together_15 ?_
      refine lv_topi (fun y_1 ey_1 => ?_)
      have j_1 : y_1.toInt = (fm p0.toNatClampNeg).toInt := congrArg Int32.toInt ey_1
      refine lv_icmp_ge (tgt := 53) hx hb dX5_together_16 (by decide) (fun c_2 => ?_) (fun c_2 => ?_)
      · have i_2 : y_1.toInt ≤ i.toInt := kc_le c_2
        refine lv_iconst (v := 0) hx hb dX5_together_53 (by decide) ?_
        refine lv_istore (lv' := [(5, .int 0), (0, .ref h0), (1, .int p0), (2, .int p1), (3, .int p2), (4, .int p3)]) hx hb dX5_together_54 hl (by decide) rfl (fun ls hl => ?_)
        have LP2 : ∀ (n : Nat) (j : Int32) (bm : Int32) (bv : Nat → Int32) (bn : Nat → Int32), (0 ≤ j.toInt) → (j.toInt ≤ (fm p1.toNatClampNeg).toInt) → (0 ≤ bm.toInt) → (bm.toInt ≤ (fm p0.toNatClampNeg).toInt + j.toInt) → (mj_vs bv bn 0 bm.toNatClampNeg (fun w => mua w + mj_pm vv vn (6 * p1.toNatClampNeg) j.toNatClampNeg w)) → ((fm p1.toNatClampNeg).toInt - j.toInt).toNat < n → ∀ (H : Heap) (locs : List Loc), va_P (dC, dI) vwCl [kx_5 h0 g_row m_n m_slots m_thrown g_many g_loss g_less g_voteValue g_voteNumber g_allValue g_allNumber bm g_nodeL g_nodeR m_nodes g_part m_partMany g_wasMany g_wasLoss g_wasValue g_wasNumber g_path m_pathMany g_heavyValue g_heavyTimes m_heavyMany g_fewest g_which g_met m_mostMet, kx_a g_many cyI 324 fm, kx_a g_loss cyI 324 fl, kx_a g_less cyI 324 fe, kx_a g_voteValue cyI 1944 vv, kx_a g_voteNumber cyI 1944 vn, kx_a g_allValue cyI 12 bv, kx_a g_allNumber cyI 12 bn] H → va_D A [kx_5 h0 g_row m_n m_slots m_thrown g_many g_loss g_less g_voteValue g_voteNumber g_allValue g_allNumber bm g_nodeL g_nodeR m_nodes g_part m_partMany g_wasMany g_wasLoss g_wasValue g_wasNumber g_path m_pathMany g_heavyValue g_heavyTimes m_heavyMany g_fewest g_which g_met m_mostMet, kx_a g_many cyI 324 fm, kx_a g_loss cyI 324 fl, kx_a g_less cyI 324 fe, kx_a g_voteValue cyI 1944 vv, kx_a g_voteNumber cyI 1944 vn, kx_a g_allValue cyI 12 bv, kx_a g_allNumber cyI 12 bn] → va_S A s.heap H locs → ∀ (ls : Array Slot), lv_has ls 9 [(5, .int j), (0, .ref h0), (1, .int p0), (2, .int p1), (3, .int p2), (4, .int p3)] → W p l e (headSpec wsX5_together ({ frames := 2, cells := 0, slots := 0, locals := 90 })).room s m ([.ref h0, .int p0, .int p1, .int p2, .int p3] : List Value).toArray below meth c H locs 0 0 (MQ below (va_Qv (fun u : Int32 × Int32 × Int32 × (Int32 → Int) × (Nat → Int32) × (Nat → Int32) × (Nat → Int32) × (Nat → Int32) × (Nat → Int32) × (Nat → Int32) × (Nat → Int32) => mj_tog p3.toNatClampNeg mua mub u.2.2.2.1 u.2.1 ∧ u.2.2.2.2.2.1 = upd fl p2.toNatClampNeg (fl p0.toNatClampNeg + fl p1.toNatClampNeg + u.2.1) ∧ u.2.2.2.2.2.2.1 = upd fe p2.toNatClampNeg u.2.1 ∧ u.2.2.2.2.1 = upd fm p2.toNatClampNeg u.2.2.1 ∧ 0 ≤ u.2.2.1.toInt ∧ u.2.2.1.toInt ≤ p3.toInt ∧ mj_vs u.2.2.2.2.2.2.2.1 u.2.2.2.2.2.2.2.2.1 (6 * p2.toNatClampNeg) u.2.2.1.toNatClampNeg u.2.2.2.1 ∧ mj_srt u.2.2.2.2.2.2.2.1 u.2.2.2.2.2.2.2.2.1 (6 * p2.toNatClampNeg) u.2.2.1.toNatClampNeg ∧ ∀ q : Nat, (q < 6 * p2.toNatClampNeg ∨ 6 * p2.toNatClampNeg + 6 ≤ q) → u.2.2.2.2.2.2.2.1 q = vv q ∧ u.2.2.2.2.2.2.2.2.1 q = vn q) (fun (u : Int32 × Int32 × Int32 × (Int32 → Int) × (Nat → Int32) × (Nat → Int32) × (Nat → Int32) × (Nat → Int32) × (Nat → Int32) × (Nat → Int32) × (Nat → Int32)) (t : State) => va_P (dC, dI) vwCl [kx_5 h0 g_row m_n m_slots m_thrown g_many g_loss g_less g_voteValue g_voteNumber g_allValue g_allNumber u.1 g_nodeL g_nodeR m_nodes g_part m_partMany g_wasMany g_wasLoss g_wasValue g_wasNumber g_path m_pathMany g_heavyValue g_heavyTimes m_heavyMany g_fewest g_which g_met m_mostMet, kx_a g_many cyI 324 u.2.2.2.2.1, kx_a g_loss cyI 324 u.2.2.2.2.2.1, kx_a g_less cyI 324 u.2.2.2.2.2.2.1, kx_a g_voteValue cyI 1944 u.2.2.2.2.2.2.2.1, kx_a g_voteNumber cyI 1944 u.2.2.2.2.2.2.2.2.1, kx_a g_allValue cyI 12 u.2.2.2.2.2.2.2.2.2.1, kx_a g_allNumber cyI 12 u.2.2.2.2.2.2.2.2.2.2] t.heap ∧ va_K (dC, dI) vwCl [(cyI, .int)] t ∧ va_D A [kx_5 h0 g_row m_n m_slots m_thrown g_many g_loss g_less g_voteValue g_voteNumber g_allValue g_allNumber u.1 g_nodeL g_nodeR m_nodes g_part m_partMany g_wasMany g_wasLoss g_wasValue g_wasNumber g_path m_pathMany g_heavyValue g_heavyTimes m_heavyMany g_fewest g_which g_met m_mostMet, kx_a g_many cyI 324 u.2.2.2.2.1, kx_a g_loss cyI 324 u.2.2.2.2.2.1, kx_a g_less cyI 324 u.2.2.2.2.2.2.1, kx_a g_voteValue cyI 1944 u.2.2.2.2.2.2.2.1, kx_a g_voteNumber cyI 1944 u.2.2.2.2.2.2.2.2.1, kx_a g_allValue cyI 12 u.2.2.2.2.2.2.2.2.2.1, kx_a g_allNumber cyI 12 u.2.2.2.2.2.2.2.2.2.2]) A) ([.ref h0, .int p0, .int p1, .int p2, .int p3] : List Value).toArray s 0 0 A) (F0 m 56 ls []) := by
          intro n
          induction n with
          | zero => intro j bm bv bn LP2_h0 LP2_h1 LP2_h2 LP2_h3 LP2_h4 hn; exact absurd hn (Nat.not_lt_zero _)
          | succ n ih2 =>
            intro j bm bv bn LP2_h0 LP2_h1 LP2_h2 LP2_h3 LP2_h4 hn2 H locs hP hD hS ls hl
            have n_j := ki_nat j rfl (om_10 LP2_h0)
            have n_mb := ki_nat (fm p1.toNatClampNeg) rfl (om_10 m2)
            refine lv_iload hx hb dX5_together_56 (lv_at hl 0 rfl) ?_
            refine lv_aload_n hx hb dX5_together_58 rfl (lv_at hl 1 rfl) ?_
            refine va_get (D := (dC, dI)) (ci := 5) (v := .ref g_many) (C := RX5) (T := TX5) (N := 30) hx hb hts hi_5 hown hK hP 0 rfl rfl 4 (by decide) hf_17 (fun _ h9 => h9) rfl dX5_together_59 ?_
            refine lv_iload_n hx hb dX5_together_62 rfl (lv_at hl 3 rfl) ?_
            refine va_iald hx hb hK hP 1 0 rfl rfl (ki_in (om_10 b2) (om_246 b3)) dX5_together_63 ?_
            refine lv_topi (fun y_3 ey_3 => ?_)
            have j_3 : y_3.toInt = (fm p1.toNatClampNeg).toInt := congrArg Int32.toInt ey_3
            refine lv_icmp_ge (tgt := 101) hx hb dX5_together_64 (by decide) (fun c_4 => ?_) (fun c_4 => ?_)
            · have i_4 : y_3.toInt ≤ j.toInt := kc_le c_4
              refine lv_aload_n hx hb dX5_together_101 rfl (lv_at hl 1 rfl) ?_
              obtain ⟨hPc, hDc, hFc, hCc⟩ := kx_preM (wc := [kx_5 h0 g_row m_n m_slots m_thrown g_many g_loss g_less g_voteValue g_voteNumber g_allValue g_allNumber bm g_nodeL g_nodeR m_nodes g_part m_partMany g_wasMany g_wasLoss g_wasValue g_wasNumber g_path m_pathMany g_heavyValue g_heavyTimes m_heavyMany g_fewest g_which g_met m_mostMet, kx_a g_allValue cyI 12 bv, kx_a g_allNumber cyI 12 bn]) hP hD hS hA [true, false, false, false, false, false, true, true] rfl
              have hKc := hK
              refine va_callv (va_runV (As := []) (rest := []) ⟨hx, hb, hml, hown, hts⟩ (kx_un (c_X5_sorts l dC dI h0 g_row g_many g_loss g_less g_voteValue g_voteNumber g_allValue g_allNumber g_nodeL g_nodeR g_part g_wasMany g_wasLoss g_wasValue g_wasNumber g_path g_heavyValue g_heavyTimes g_fewest g_which g_met m_n m_slots m_thrown bm m_nodes m_partMany m_pathMany m_heavyMany m_mostMet cyI bv bn H.size LP2_h2 (om_303 m1 m3 LP2_h1 LP2_h3))) (cwV 0 hts gX5_together_X5_sorts rfl rfl rfl (by decide +kernel) ⟨Nat.le_of_ble_eq_true rfl, Nat.le_of_ble_eq_true rfl⟩) ⟨fun a U g mk q => by obtain ⟨q0, q1, qP, qK, qD⟩ := q; exact ⟨q0, q1, qP, va_K.moved (u := U) (U := U.calling g mk a) (Vm.Alike.refl U.vm) qK, qD⟩, kx_rc5 hKc hPc (q0 := 0) rfl, fun U hU hW => ⟨rfl, by rw [hU], by rw [hU]; exact hPc, va_K.moved hW.alike hKc, hDc.weaken (fun _ _ _ _ => trivial)⟩⟩ rfl rfl hl.1 rfl (lv_room (Nat.le_of_ble_eq_true rfl)) dX5_together_102 ⟨Nat.le_of_ble_eq_true rfl, Nat.le_of_ble_eq_true rfl⟩) hS (fun q _ h => hFc q h) hFc (fun u t H1 locs ht hvm w_5 hB hz1 hk1 hS => ?_)
              obtain ⟨o_6, o_7⟩ := u
              dsimp only at w_5 hB
              obtain ⟨hP1, hK1, hD1⟩ := hB
              rw [ht] at hP1
              have hK1 := va_K.moved hvm.symm hK1
              obtain ⟨hP, hD⟩ := kx_joinM (w2 := [kx_5 h0 g_row m_n m_slots m_thrown g_many g_loss g_less g_voteValue g_voteNumber g_allValue g_allNumber bm g_nodeL g_nodeR m_nodes g_part m_partMany g_wasMany g_wasLoss g_wasValue g_wasNumber g_path m_pathMany g_heavyValue g_heavyTimes m_heavyMany g_fewest g_which g_met m_mostMet, kx_a g_many cyI 324 fm, kx_a g_loss cyI 324 fl, kx_a g_less cyI 324 fe, kx_a g_voteValue cyI 1944 vv, kx_a g_voteNumber cyI 1944 vn, kx_a g_allValue cyI 12 o_6, kx_a g_allNumber cyI 12 o_7]) hP hD hP1 hD1 hk1 hFc [true, false, false, false, false, false, true, true] hCc rfl
              clear hP1 hD1 hK1 hk1 hz1 hFc hDc hPc hKc hCc
              generalize H1 = H at hP hS ⊢
              have w_5 : mj_srt o_6 o_7 0 bm.toNatClampNeg ∧ ∀ mu : Int32 → Int, mj_vs bv bn 0 bm.toNatClampNeg mu → mj_vs o_6 o_7 0 bm.toNatClampNeg mu := w_5
              have n_bm := ki_nat bm rfl (om_10 LP2_h2)
              have n_p3 := ki_nat p3 rfl (om_10 b6)
              have n_p2 := ki_nat p2 rfl (om_10 b4)
              have hsum : mj_vs o_6 o_7 0 bm.toNatClampNeg (fun w => mua w + mub w) := w_5.2 _ (mj_done LP2_h4 vb (by omega))
              have hbd := mj_bd hsum bd
              refine lv_aload_n hx hb dX5_together_105 rfl (lv_at hl 1 rfl) ?_
              refine va_get (D := (dC, dI)) (ci := 5) (v := .int bm) (C := RX5) (T := TX5) (N := 30) hx hb hts hi_5 hown hK hP 0 rfl rfl 11 (by decide) hf_87 (fun _ h9 => h9) rfl dX5_together_106 ?_
              refine lv_iload hx hb dX5_together_109 (lv_at hl 5 rfl) ?_
              refine lv_icmp_le (tgt := 124) hx hb dX5_together_111 (by decide) (fun c_8 => ?_) (fun c_8 => ?_)
              · have i_8 : bm.toInt ≤ p3.toInt := kc_le c_8
                refine lv_iconst (v := 0) hx hb dX5_together_124 (by decide) ?_
                refine lv_istore (lv' := [(5, .int 0), (0, .ref h0), (1, .int p0), (2, .int p1), (3, .int p2), (4, .int p3)]) hx hb dX5_together_125 hl (by decide) rfl (fun ls hl => ?_)
                refine lv_aload_n hx hb dX5_together_127 rfl (lv_at hl 1 rfl) ?_
                refine va_get (D := (dC, dI)) (ci := 5) (v := .ref g_loss) (C := RX5) (T := TX5) (N := 30) hx hb hts hi_5 hown hK hP 0 rfl rfl 5 (by decide) hf_20 (fun _ h9 => h9) rfl dX5_together_128 ?_
                refine lv_iload_n hx hb dX5_together_131 rfl (lv_at hl 2 rfl) ?_
                refine va_iald hx hb hK hP 2 0 rfl rfl (ki_in (om_10 b0) (om_246 b1)) dX5_together_132 ?_
                refine lv_topi (fun y_9 ey_9 => ?_)
                have j_9 : y_9.toInt = (fl p0.toNatClampNeg).toInt := congrArg Int32.toInt ey_9
                refine lv_aload_n hx hb dX5_together_133 rfl (lv_at hl 1 rfl) ?_
                refine va_get (D := (dC, dI)) (ci := 5) (v := .ref g_loss) (C := RX5) (T := TX5) (N := 30) hx hb hts hi_5 hown hK hP 0 rfl rfl 5 (by decide) hf_20 (fun _ h9 => h9) rfl dX5_together_134 ?_
                refine lv_iload_n hx hb dX5_together_137 rfl (lv_at hl 3 rfl) ?_
                refine va_iald hx hb hK hP 2 0 rfl rfl (ki_in (om_10 b2) (om_246 b3)) dX5_together_138 ?_
                refine lv_topi (fun y_10 ey_10 => ?_)
                have j_10 : y_10.toInt = (fl p1.toNatClampNeg).toInt := congrArg Int32.toInt ey_10
                refine lv_iadd hx hb dX5_together_139 ?_
                refine lv_topi (fun y_11 ey_11 => ?_)
                refine lv_iload hx hb dX5_together_140 (lv_at hl 0 rfl) ?_
                refine lv_iadd hx hb dX5_together_142 ?_
                refine lv_topi (fun y_12 ey_12 => ?_)
                refine lv_istore (lv' := [(6, .int y_12), (5, .int 0), (0, .ref h0), (1, .int p0), (2, .int p1), (3, .int p2), (4, .int p3)]) hx hb dX5_together_143 hl (by decide) rfl (fun ls hl => ?_)
                refine lv_iconst (v := 0) hx hb dX5_together_145 (by decide) ?_
                refine lv_istore (lv' := [(7, .int 0), (6, .int y_12), (5, .int 0), (0, .ref h0), (1, .int p0), (2, .int p1), (3, .int p2), (4, .int p3)]) hx hb dX5_together_146 hl (by decide) rfl (fun ls hl => ?_)
                refine lv_iconst (v := 0) hx hb dX5_together_148 (by decide) ?_
                refine lv_istore (lv' := [(8, .int 0), (7, .int 0), (6, .int y_12), (5, .int 0), (0, .ref h0), (1, .int p0), (2, .int p1), (3, .int p2), (4, .int p3)]) hx hb dX5_together_149 hl (by decide) rfl (fun ls hl => ?_)
                have LP3 : ∀ (n : Nat) (lf : Int32) (k : Int32) (wv : Nat → Int32) (wn : Nat → Int32), (0 ≤ lf.toInt) → (0 ≤ k.toInt) → (k.toInt ≤ bm.toInt) → (mj_wr p3.toNatClampNeg o_6 o_7 0 (6 * p2.toNatClampNeg) lf.toNatClampNeg k.toNatClampNeg vv vn wv wn) → (bm.toInt - k.toInt).toNat < n → ∀ (H : Heap) (locs : List Loc), va_P (dC, dI) vwCl [kx_5 h0 g_row m_n m_slots m_thrown g_many g_loss g_less g_voteValue g_voteNumber g_allValue g_allNumber bm g_nodeL g_nodeR m_nodes g_part m_partMany g_wasMany g_wasLoss g_wasValue g_wasNumber g_path m_pathMany g_heavyValue g_heavyTimes m_heavyMany g_fewest g_which g_met m_mostMet, kx_a g_many cyI 324 fm, kx_a g_loss cyI 324 fl, kx_a g_less cyI 324 fe, kx_a g_voteValue cyI 1944 wv, kx_a g_voteNumber cyI 1944 wn, kx_a g_allValue cyI 12 o_6, kx_a g_allNumber cyI 12 o_7] H → va_D A [kx_5 h0 g_row m_n m_slots m_thrown g_many g_loss g_less g_voteValue g_voteNumber g_allValue g_allNumber bm g_nodeL g_nodeR m_nodes g_part m_partMany g_wasMany g_wasLoss g_wasValue g_wasNumber g_path m_pathMany g_heavyValue g_heavyTimes m_heavyMany g_fewest g_which g_met m_mostMet, kx_a g_many cyI 324 fm, kx_a g_loss cyI 324 fl, kx_a g_less cyI 324 fe, kx_a g_voteValue cyI 1944 wv, kx_a g_voteNumber cyI 1944 wn, kx_a g_allValue cyI 12 o_6, kx_a g_allNumber cyI 12 o_7] → va_S A s.heap H locs → ∀ (ls : Array Slot), lv_has ls 9 [(8, .int k), (7, .int lf), (6, .int y_12), (5, .int 0), (0, .ref h0), (1, .int p0), (2, .int p1), (3, .int p2), (4, .int p3)] → W p l e (headSpec wsX5_together ({ frames := 2, cells := 0, slots := 0, locals := 90 })).room s m ([.ref h0, .int p0, .int p1, .int p2, .int p3] : List Value).toArray below meth c H locs 0 0 (MQ below (va_Qv (fun u : Int32 × Int32 × Int32 × (Int32 → Int) × (Nat → Int32) × (Nat → Int32) × (Nat → Int32) × (Nat → Int32) × (Nat → Int32) × (Nat → Int32) × (Nat → Int32) => mj_tog p3.toNatClampNeg mua mub u.2.2.2.1 u.2.1 ∧ u.2.2.2.2.2.1 = upd fl p2.toNatClampNeg (fl p0.toNatClampNeg + fl p1.toNatClampNeg + u.2.1) ∧ u.2.2.2.2.2.2.1 = upd fe p2.toNatClampNeg u.2.1 ∧ u.2.2.2.2.1 = upd fm p2.toNatClampNeg u.2.2.1 ∧ 0 ≤ u.2.2.1.toInt ∧ u.2.2.1.toInt ≤ p3.toInt ∧ mj_vs u.2.2.2.2.2.2.2.1 u.2.2.2.2.2.2.2.2.1 (6 * p2.toNatClampNeg) u.2.2.1.toNatClampNeg u.2.2.2.1 ∧ mj_srt u.2.2.2.2.2.2.2.1 u.2.2.2.2.2.2.2.2.1 (6 * p2.toNatClampNeg) u.2.2.1.toNatClampNeg ∧ ∀ q : Nat, (q < 6 * p2.toNatClampNeg ∨ 6 * p2.toNatClampNeg + 6 ≤ q) → u.2.2.2.2.2.2.2.1 q = vv q ∧ u.2.2.2.2.2.2.2.2.1 q = vn q) (fun (u : Int32 × Int32 × Int32 × (Int32 → Int) × (Nat → Int32) × (Nat → Int32) × (Nat → Int32) × (Nat → Int32) × (Nat → Int32) × (Nat → Int32) × (Nat → Int32)) (t : State) => va_P (dC, dI) vwCl [kx_5 h0 g_row m_n m_slots m_thrown g_many g_loss g_less g_voteValue g_voteNumber g_allValue g_allNumber u.1 g_nodeL g_nodeR m_nodes g_part m_partMany g_wasMany g_wasLoss g_wasValue g_wasNumber g_path m_pathMany g_heavyValue g_heavyTimes m_heavyMany g_fewest g_which g_met m_mostMet, kx_a g_many cyI 324 u.2.2.2.2.1, kx_a g_loss cyI 324 u.2.2.2.2.2.1, kx_a g_less cyI 324 u.2.2.2.2.2.2.1, kx_a g_voteValue cyI 1944 u.2.2.2.2.2.2.2.1, kx_a g_voteNumber cyI 1944 u.2.2.2.2.2.2.2.2.1, kx_a g_allValue cyI 12 u.2.2.2.2.2.2.2.2.2.1, kx_a g_allNumber cyI 12 u.2.2.2.2.2.2.2.2.2.2] t.heap ∧ va_K (dC, dI) vwCl [(cyI, .int)] t ∧ va_D A [kx_5 h0 g_row m_n m_slots m_thrown g_many g_loss g_less g_voteValue g_voteNumber g_allValue g_allNumber u.1 g_nodeL g_nodeR m_nodes g_part m_partMany g_wasMany g_wasLoss g_wasValue g_wasNumber g_path m_pathMany g_heavyValue g_heavyTimes m_heavyMany g_fewest g_which g_met m_mostMet, kx_a g_many cyI 324 u.2.2.2.2.1, kx_a g_loss cyI 324 u.2.2.2.2.2.1, kx_a g_less cyI 324 u.2.2.2.2.2.2.1, kx_a g_voteValue cyI 1944 u.2.2.2.2.2.2.2.1, kx_a g_voteNumber cyI 1944 u.2.2.2.2.2.2.2.2.1, kx_a g_allValue cyI 12 u.2.2.2.2.2.2.2.2.2.1, kx_a g_allNumber cyI 12 u.2.2.2.2.2.2.2.2.2.2]) A) ([.ref h0, .int p0, .int p1, .int p2, .int p3] : List Value).toArray s 0 0 A) (F0 m 151 ls []) := by
                  intro n
                  induction n with
                  | zero => intro lf k wv wn LP3_h0 LP3_h1 LP3_h2 LP3_h3 hn; exact absurd hn (Nat.not_lt_zero _)
                  | succ n ih3 =>
                    intro lf k wv wn LP3_h0 LP3_h1 LP3_h2 LP3_h3 hn3 H locs hP hD hS ls hl
                    have n_lf := ki_nat lf rfl (om_10 LP3_h0)
                    have n_k := ki_nat k rfl (om_10 LP3_h1)
                    have h_lf := LP3_h3.2.1
                    refine lv_iload hx hb dX5_together_151 (lv_at hl 0 rfl) ?_
                    refine lv_aload_n hx hb dX5_together_153 rfl (lv_at hl 4 rfl) ?_
                    refine va_get (D := (dC, dI)) (ci := 5) (v := .int bm) (C := RX5) (T := TX5) (N := 30) hx hb hts hi_5 hown hK hP 0 rfl rfl 11 (by decide) hf_87 (fun _ h9 => h9) rfl dX5_together_154 ?_
                    refine lv_icmp_ge (tgt := 226) hx hb dX5_together_157 (by decide) (fun c_13 => ?_) (fun c_13 => ?_)
                    · have i_13 : bm.toInt ≤ k.toInt := kc_le c_13
                      refine lv_aload_n hx hb dX5_together_226 rfl (lv_at hl 4 rfl) ?_
                      refine va_get (D := (dC, dI)) (ci := 5) (v := .ref g_many) (C := RX5) (T := TX5) (N := 30) hx hb hts hi_5 hown hK hP 0 rfl rfl 4 (by decide) hf_17 (fun _ h9 => h9) rfl dX5_together_227 ?_
                      refine lv_iload_n hx hb dX5_together_230 rfl (lv_at hl 7 rfl) ?_
                      refine lv_iload hx hb dX5_together_231 (lv_at hl 1 rfl) ?_
                      refine va_iast hx hb hK hP hD hS 1 0 rfl rfl (ki_in (om_10 b4) (om_304 b5)) dX5_together_233 (fun H locs hP hD hS => ?_)
                      obtain ⟨hP, hD⟩ := kx_re (w2 := [kx_5 h0 g_row m_n m_slots m_thrown g_many g_loss g_less g_voteValue g_voteNumber g_allValue g_allNumber bm g_nodeL g_nodeR m_nodes g_part m_partMany g_wasMany g_wasLoss g_wasValue g_wasNumber g_path m_pathMany g_heavyValue g_heavyTimes m_heavyMany g_fewest g_which g_met m_mostMet, kx_a g_many cyI 324 (upd fm p2.toNatClampNeg lf), kx_a g_loss cyI 324 fl, kx_a g_less cyI 324 fe, kx_a g_voteValue cyI 1944 wv, kx_a g_voteNumber cyI 1944 wn, kx_a g_allValue cyI 12 o_6, kx_a g_allNumber cyI 12 o_7]) hP hD rfl
                      refine lv_aload_n hx hb dX5_together_234 rfl (lv_at hl 4 rfl) ?_
                      refine va_get (D := (dC, dI)) (ci := 5) (v := .ref g_loss) (C := RX5) (T := TX5) (N := 30) hx hb hts hi_5 hown hK hP 0 rfl rfl 5 (by decide) hf_20 (fun _ h9 => h9) rfl dX5_together_235 ?_
                      refine lv_iload_n hx hb dX5_together_238 rfl (lv_at hl 7 rfl) ?_
                      refine lv_iload hx hb dX5_together_239 (lv_at hl 2 rfl) ?_
                      refine va_iast hx hb hK hP hD hS 2 0 rfl rfl (ki_in (om_10 b4) (om_304 b5)) dX5_together_241 (fun H locs hP hD hS => ?_)
                      obtain ⟨hP, hD⟩ := kx_re (w2 := [kx_5 h0 g_row m_n m_slots m_thrown g_many g_loss g_less g_voteValue g_voteNumber g_allValue g_allNumber bm g_nodeL g_nodeR m_nodes g_part m_partMany g_wasMany g_wasLoss g_wasValue g_wasNumber g_path m_pathMany g_heavyValue g_heavyTimes m_heavyMany g_fewest g_which g_met m_mostMet, kx_a g_many cyI 324 (upd fm p2.toNatClampNeg lf), kx_a g_loss cyI 324 (upd fl p2.toNatClampNeg y_12), kx_a g_less cyI 324 fe, kx_a g_voteValue cyI 1944 wv, kx_a g_voteNumber cyI 1944 wn, kx_a g_allValue cyI 12 o_6, kx_a g_allNumber cyI 12 o_7]) hP hD rfl
                      refine lv_aload_n hx hb dX5_together_242 rfl (lv_at hl 4 rfl) ?_
                      refine va_get (D := (dC, dI)) (ci := 5) (v := .ref g_less) (C := RX5) (T := TX5) (N := 30) hx hb hts hi_5 hown hK hP 0 rfl rfl 6 (by decide) hf_23 (fun _ h9 => h9) rfl dX5_together_243 ?_
                      refine lv_iload_n hx hb dX5_together_246 rfl (lv_at hl 7 rfl) ?_
                      refine lv_iload hx hb dX5_together_247 (lv_at hl 3 rfl) ?_
                      refine va_iast hx hb hK hP hD hS 3 0 rfl rfl (ki_in (om_10 b4) (om_304 b5)) dX5_together_249 (fun H locs hP hD hS => ?_)
                      obtain ⟨hP, hD⟩ := kx_re (w2 := [kx_5 h0 g_row m_n m_slots m_thrown g_many g_loss g_less g_voteValue g_voteNumber g_allValue g_allNumber bm g_nodeL g_nodeR m_nodes g_part m_partMany g_wasMany g_wasLoss g_wasValue g_wasNumber g_path m_pathMany g_heavyValue g_heavyTimes m_heavyMany g_fewest g_which g_met m_mostMet, kx_a g_many cyI 324 (upd fm p2.toNatClampNeg lf), kx_a g_loss cyI 324 (upd fl p2.toNatClampNeg y_12), kx_a g_less cyI 324 (upd fe p2.toNatClampNeg 0), kx_a g_voteValue cyI 1944 wv, kx_a g_voteNumber cyI 1944 wn, kx_a g_allValue cyI 12 o_6, kx_a g_allNumber cyI 12 o_7]) hP hD rfl
                      have hP9 := hP
                      have hD9 := hD
                      have hK9 := hK
                      have hen := mj_wr_end LP3_h3 (m := bm.toNatClampNeg) (by omega) hsum w_5.1 (by omega)
                      exact W.vret hx hb hr (hlocks := hlocks) (fun t ht hW => ⟨⟨(bm, (0 : Int32), lf, (fun v => if (0 : Int) < mua v + mub v then mua v + mub v - 0 else 0), (upd fm p2.toNatClampNeg lf), (upd fl p2.toNatClampNeg y_12), (upd fe p2.toNatClampNeg 0), wv, wn, o_6, o_7), rfl, ⟨⟨o_6, o_7, bm.toNatClampNeg, hsum, w_5.1, Or.inl ⟨(by omega), rfl⟩, (fun v => rfl)⟩, (by (try dsimp only); rw [ey_12, ey_11, ey_9, ey_10]), rfl, rfl, (by (try dsimp only); omega), (by (try dsimp only); omega), hen.1, hen.2, LP3_h3.2.2.2.2⟩, by rw [ht]; exact hP9, va_K.moved hW.alike hK9, hD9⟩, hS.F ht⟩) hS.2.2 dX5_together_250
                    · have i_13 : k.toInt < bm.toInt := kc_nle c_13
                      refine lv_aload_n hx hb dX5_together_160 rfl (lv_at hl 4 rfl) ?_
                      refine va_get (D := (dC, dI)) (ci := 5) (v := .ref g_allNumber) (C := RX5) (T := TX5) (N := 30) hx hb hts hi_5 hown hK hP 0 rfl rfl 10 (by decide) hf_35 (fun _ h9 => h9) rfl dX5_together_161 ?_
                      refine lv_iload hx hb dX5_together_164 (lv_at hl 0 rfl) ?_
                      refine va_iald hx hb hK hP 7 0 rfl rfl (ki_in (om_10 LP3_h1) (om_305 b7 i_8 i_13)) dX5_together_166 ?_
                      refine lv_topi (fun y_14 ey_14 => ?_)
                      have j_14 : y_14.toInt = (o_7 k.toNatClampNeg).toInt := congrArg Int32.toInt ey_14
                      have g_15 : 0 < y_14.toInt ∧ y_14.toInt ≤ 1000000 := by rw [ey_14]; exact hbd k.toNatClampNeg (by omega)
                      refine lv_iload hx hb dX5_together_167 (lv_at hl 3 rfl) ?_
                      refine lv_isub hx hb dX5_together_169 ?_
                      refine lv_topi (fun y_16 ey_16 => ?_)
                      have i_16 : y_16.toInt = y_14.toInt - 0 := ki_sub ey_16 rfl rfl (by omega) (by omega)
                      refine lv_if_gt (tgt := 176) hx hb dX5_together_170 (by decide) (fun c_17 => ?_) (fun c_17 => ?_)
                      · have i_17 : 0 < y_16.toInt := kc_lt c_17
                        refine lv_aload_n hx hb dX5_together_176 rfl (lv_at hl 4 rfl) ?_
                        refine va_get (D := (dC, dI)) (ci := 5) (v := .ref g_voteValue) (C := RX5) (T := TX5) (N := 30) hx hb hts hi_5 hown hK hP 0 rfl rfl 7 (by decide) hf_26 (fun _ h9 => h9) rfl dX5_together_177 ?_
                        refine lv_bipush (v := 6) hx hb dX5_together_180 (by decide) ?_
                        refine lv_iload_n hx hb dX5_together_182 rfl (lv_at hl 7 rfl) ?_
                        refine lv_imul hx hb dX5_together_183 ?_
                        refine lv_topi (fun y_18 ey_18 => ?_)
                        have i_18 : y_18.toInt = 6 * p2.toInt := ki_mul ey_18 rfl rfl (om_247 b4) (om_306 b5)
                        refine lv_iload hx hb dX5_together_184 (lv_at hl 1 rfl) ?_
                        refine lv_iadd hx hb dX5_together_186 ?_
                        refine lv_topi (fun y_19 ey_19 => ?_)
                        have i_19 : y_19.toInt = y_18.toInt + lf.toInt := ki_add ey_19 rfl rfl (om_251 b4 LP3_h0 i_18) (by omega)
                        refine lv_aload_n hx hb dX5_together_187 rfl (lv_at hl 4 rfl) ?_
                        refine va_get (D := (dC, dI)) (ci := 5) (v := .ref g_allValue) (C := RX5) (T := TX5) (N := 30) hx hb hts hi_5 hown hK hP 0 rfl rfl 9 (by decide) hf_32 (fun _ h9 => h9) rfl dX5_together_188 ?_
                        refine lv_iload hx hb dX5_together_191 (lv_at hl 0 rfl) ?_
                        refine va_iald hx hb hK hP 6 0 rfl rfl (ki_in (om_10 LP3_h1) (om_305 b7 i_8 i_13)) dX5_together_193 ?_
                        refine lv_topi (fun y_20 ey_20 => ?_)
                        have j_20 : y_20.toInt = (o_6 k.toNatClampNeg).toInt := congrArg Int32.toInt ey_20
                        refine va_iast hx hb hK hP hD hS 4 0 rfl rfl (ki_in (om_253 b4 LP3_h0 i_18 i_19) (by omega)) dX5_together_194 (fun H locs hP hD hS => ?_)
                        obtain ⟨hP, hD⟩ := kx_re (w2 := [kx_5 h0 g_row m_n m_slots m_thrown g_many g_loss g_less g_voteValue g_voteNumber g_allValue g_allNumber bm g_nodeL g_nodeR m_nodes g_part m_partMany g_wasMany g_wasLoss g_wasValue g_wasNumber g_path m_pathMany g_heavyValue g_heavyTimes m_heavyMany g_fewest g_which g_met m_mostMet, kx_a g_many cyI 324 fm, kx_a g_loss cyI 324 fl, kx_a g_less cyI 324 fe, kx_a g_voteValue cyI 1944 (upd wv y_19.toNatClampNeg y_20), kx_a g_voteNumber cyI 1944 wn, kx_a g_allValue cyI 12 o_6, kx_a g_allNumber cyI 12 o_7]) hP hD rfl
                        refine lv_aload_n hx hb dX5_together_195 rfl (lv_at hl 4 rfl) ?_
                        refine va_get (D := (dC, dI)) (ci := 5) (v := .ref g_voteNumber) (C := RX5) (T := TX5) (N := 30) hx hb hts hi_5 hown hK hP 0 rfl rfl 8 (by decide) hf_29 (fun _ h9 => h9) rfl dX5_together_196 ?_
                        refine lv_bipush (v := 6) hx hb dX5_together_199 (by decide) ?_
                        refine lv_iload_n hx hb dX5_together_201 rfl (lv_at hl 7 rfl) ?_
                        refine lv_imul hx hb dX5_together_202 ?_
                        refine lv_topi (fun y_21 ey_21 => ?_)
                        have i_21 : y_21.toInt = 6 * p2.toInt := ki_mul ey_21 rfl rfl (om_247 b4) (om_306 b5)
                        refine lv_iload hx hb dX5_together_203 (lv_at hl 1 rfl) ?_
                        refine lv_iadd hx hb dX5_together_205 ?_
                        refine lv_topi (fun y_22 ey_22 => ?_)
                        have i_22 : y_22.toInt = y_21.toInt + lf.toInt := ki_add ey_22 rfl rfl (om_251 b4 LP3_h0 i_21) (by omega)
                        refine lv_aload_n hx hb dX5_together_206 rfl (lv_at hl 4 rfl) ?_
                        refine va_get (D := (dC, dI)) (ci := 5) (v := .ref g_allNumber) (C := RX5) (T := TX5) (N := 30) hx hb hts hi_5 hown hK hP 0 rfl rfl 10 (by decide) hf_35 (fun _ h9 => h9) rfl dX5_together_207 ?_
                        refine lv_iload hx hb dX5_together_210 (lv_at hl 0 rfl) ?_
                        refine va_iald hx hb hK hP 7 0 rfl rfl (ki_in (om_10 LP3_h1) (om_305 b7 i_8 i_13)) dX5_together_212 ?_
                        refine lv_topi (fun y_23 ey_23 => ?_)
                        have j_23 : y_23.toInt = (o_7 k.toNatClampNeg).toInt := congrArg Int32.toInt ey_23
                        have g_24 : 0 < y_23.toInt ∧ y_23.toInt ≤ 1000000 := by rw [ey_23]; exact hbd k.toNatClampNeg (by omega)
                        refine lv_iload hx hb dX5_together_213 (lv_at hl 3 rfl) ?_
                        refine lv_isub hx hb dX5_together_215 ?_
                        refine lv_topi (fun y_25 ey_25 => ?_)
                        have i_25 : y_25.toInt = y_23.toInt - 0 := ki_sub ey_25 rfl rfl (om_307 j_14 i_16 i_17 j_23) (by omega)
                        refine va_iast hx hb hK hP hD hS 5 0 rfl rfl (ki_in (om_253 b4 LP3_h0 i_21 i_22) (by omega)) dX5_together_216 (fun H locs hP hD hS => ?_)
                        obtain ⟨hP, hD⟩ := kx_re (w2 := [kx_5 h0 g_row m_n m_slots m_thrown g_many g_loss g_less g_voteValue g_voteNumber g_allValue g_allNumber bm g_nodeL g_nodeR m_nodes g_part m_partMany g_wasMany g_wasLoss g_wasValue g_wasNumber g_path m_pathMany g_heavyValue g_heavyTimes m_heavyMany g_fewest g_which g_met m_mostMet, kx_a g_many cyI 324 fm, kx_a g_loss cyI 324 fl, kx_a g_less cyI 324 fe, kx_a g_voteValue cyI 1944 (upd wv y_19.toNatClampNeg y_20), kx_a g_voteNumber cyI 1944 (upd wn y_22.toNatClampNeg y_25), kx_a g_allValue cyI 12 o_6, kx_a g_allNumber cyI 12 o_7]) hP hD rfl
                        obtain ⟨x_26, ex_26⟩ : ∃ y : Int32, y = lf + 1 := ⟨_, rfl⟩
                        have i_26 : x_26.toInt = lf.toInt + 1 := ki_add ex_26 rfl rfl (om_13 LP3_h0) (by omega)
                        refine lv_iinc (v := x_26) (lv' := [(7, .int x_26), (8, .int k), (6, .int y_12), (5, .int 0), (0, .ref h0), (1, .int p0), (2, .int p1), (3, .int p2), (4, .int p3)]) hx hb dX5_together_217 hl (k := 1) rfl (by rw [ex_26]; rfl) (by decide) rfl (fun ls hl => ?_)
                        obtain ⟨x_27, ex_27⟩ : ∃ y : Int32, y = k + 1 := ⟨_, rfl⟩
                        have i_27 : x_27.toInt = k.toInt + 1 := ki_add ex_27 rfl rfl (om_13 LP3_h1) (om_308 b7 i_8 i_13)
                        refine lv_iinc (v := x_27) (lv' := [(8, .int x_27), (7, .int x_26), (6, .int y_12), (5, .int 0), (0, .ref h0), (1, .int p0), (2, .int p1), (3, .int p2), (4, .int p3)]) hx hb dX5_together_220 hl (k := 1) rfl (by rw [ex_27]; rfl) (by decide) rfl (fun ls hl => ?_)
                        refine lv_goto (tgt := 151) hx hb dX5_together_223 (by decide) ?_
                        have n_28 := ki_nat x_27 rfl (om_34 LP3_h1 i_27)
                        have n_29 := ki_nat y_19 rfl (om_253 b4 LP3_h0 i_18 i_19)
                        have n_30 := ki_nat y_22 rfl (om_253 b4 LP3_h0 i_21 i_22)
                        have n_31 := ki_nat x_26 rfl (om_34 LP3_h0 i_26)
                        exact ih3 x_26 x_27 (upd wv y_19.toNatClampNeg y_20) (upd wn y_22.toNatClampNeg y_25) (om_34 LP3_h0 i_26) (om_34 LP3_h1 i_27) (om_54 i_13 i_27) (mj_wr_put LP3_h3 w_5.1 (by omega) (by omega) (fun h => absurd h (by omega)) (by omega) ey_20 (by omega) (by omega) (by omega) (by omega) (by omega)) (om_mu hn3 (om_5 i_27) (om_6 i_13)) _ _ hP hD hS ls (lv_sub hl [0, 1, 2, 3, 4, 5, 6, 7, 8] rfl)
                      · have i_17 : y_16.toInt ≤ 0 := kc_nlt c_17
                        refine lv_goto (tgt := 220) hx hb dX5_together_173 (by decide) ?_
                        obtain ⟨x_32, ex_32⟩ : ∃ y : Int32, y = k + 1 := ⟨_, rfl⟩
                        have i_32 : x_32.toInt = k.toInt + 1 := ki_add ex_32 rfl rfl (om_13 LP3_h1) (om_308 b7 i_8 i_13)
                        refine lv_iinc (v := x_32) (lv' := [(8, .int x_32), (7, .int lf), (6, .int y_12), (5, .int 0), (0, .ref h0), (1, .int p0), (2, .int p1), (3, .int p2), (4, .int p3)]) hx hb dX5_together_220 hl (k := 0) rfl (by rw [ex_32]; rfl) (by decide) rfl (fun ls hl => ?_)
                        refine lv_goto (tgt := 151) hx hb dX5_together_223 (by decide) ?_
                        have n_33 := ki_nat x_32 rfl (om_34 LP3_h1 i_32)
                        exact ih3 lf x_32 wv wn (om_10 LP3_h0) (om_34 LP3_h1 i_32) (om_54 i_13 i_32) (mj_wr_skip LP3_h3 (by omega) (by omega)) (om_mu hn3 (om_5 i_32) (om_6 i_13)) _ _ hP hD hS ls (lv_sub hl [0, 1, 2, 3, 4, 5, 6, 7, 8] rfl)
                have k_34 : (0 : Int32).toInt = 0 := rfl
                have k_35 : (0 : Int32).toInt = 0 := rfl
                exact LP3 ((bm.toInt - 0 : Int).toNat + 1) 0 0 vv vn om_35 om_35 (om_10 LP2_h2) (mj_wr_0 _ _ _ _ _ _ _) (Nat.lt_succ_self _) _ _ hP hD hS ls (lv_sub hl [0, 1, 2, 3, 4, 5, 6, 7, 8] rfl)
              · have i_8 : p3.toInt < bm.toInt := kc_nle c_8
                refine lv_aload_n hx hb dX5_together_114 rfl (lv_at hl 1 rfl) ?_
                refine va_get (D := (dC, dI)) (ci := 5) (v := .ref g_allNumber) (C := RX5) (T := TX5) (N := 30) hx hb hts hi_5 hown hK hP 0 rfl rfl 10 (by decide) hf_35 (fun _ h9 => h9) rfl dX5_together_115 ?_
                refine lv_iload hx hb dX5_together_118 (lv_at hl 5 rfl) ?_
                refine va_iald hx hb hK hP 7 0 rfl rfl (ki_in (om_10 b6) (om_309 b7)) dX5_together_120 ?_
                refine lv_topi (fun y_36 ey_36 => ?_)
                have j_36 : y_36.toInt = (o_7 p3.toNatClampNeg).toInt := congrArg Int32.toInt ey_36
                have g_37 : 0 < y_36.toInt ∧ y_36.toInt ≤ 1000000 := by rw [ey_36]; exact hbd p3.toNatClampNeg (by omega)
                refine lv_goto (tgt := 125) hx hb dX5_together_121 (by decide) ?_
                refine lv_istore (lv' := [(5, .int y_36), (0, .ref h0), (1, .int p0), (2, .int p1), (3, .int p2), (4, .int p3)]) hx hb dX5_together_125 hl (by decide) rfl (fun ls hl => ?_)
                refine lv_aload_n hx hb dX5_together_127 rfl (lv_at hl 1 rfl) ?_
                refine va_get (D := (dC, dI)) (ci := 5) (v := .ref g_loss) (C := RX5) (T := TX5) (N := 30) hx hb hts hi_5 hown hK hP 0 rfl rfl 5 (by decide) hf_20 (fun _ h9 => h9) rfl dX5_together_128 ?_
                refine lv_iload_n hx hb dX5_together_131 rfl (lv_at hl 2 rfl) ?_
                refine va_iald hx hb hK hP 2 0 rfl rfl (ki_in (om_10 b0) (om_246 b1)) dX5_together_132 ?_
                refine lv_topi (fun y_38 ey_38 => ?_)
                have j_38 : y_38.toInt = (fl p0.toNatClampNeg).toInt := congrArg Int32.toInt ey_38
                refine lv_aload_n hx hb dX5_together_133 rfl (lv_at hl 1 rfl) ?_
                refine va_get (D := (dC, dI)) (ci := 5) (v := .ref g_loss) (C := RX5) (T := TX5) (N := 30) hx hb hts hi_5 hown hK hP 0 rfl rfl 5 (by decide) hf_20 (fun _ h9 => h9) rfl dX5_together_134 ?_
                refine lv_iload_n hx hb dX5_together_137 rfl (lv_at hl 3 rfl) ?_
                refine va_iald hx hb hK hP 2 0 rfl rfl (ki_in (om_10 b2) (om_246 b3)) dX5_together_138 ?_
                refine lv_topi (fun y_39 ey_39 => ?_)
                have j_39 : y_39.toInt = (fl p1.toNatClampNeg).toInt := congrArg Int32.toInt ey_39
                refine lv_iadd hx hb dX5_together_139 ?_
                refine lv_topi (fun y_40 ey_40 => ?_)
                refine lv_iload hx hb dX5_together_140 (lv_at hl 0 rfl) ?_
                refine lv_iadd hx hb dX5_together_142 ?_
                refine lv_topi (fun y_41 ey_41 => ?_)
                refine lv_istore (lv' := [(6, .int y_41), (5, .int y_36), (0, .ref h0), (1, .int p0), (2, .int p1), (3, .int p2), (4, .int p3)]) hx hb dX5_together_143 hl (by decide) rfl (fun ls hl => ?_)
                refine lv_iconst (v := 0) hx hb dX5_together_145 (by decide) ?_
                refine lv_istore (lv' := [(7, .int 0), (6, .int y_41), (5, .int y_36), (0, .ref h0), (1, .int p0), (2, .int p1), (3, .int p2), (4, .int p3)]) hx hb dX5_together_146 hl (by decide) rfl (fun ls hl => ?_)
                refine lv_iconst (v := 0) hx hb dX5_together_148 (by decide) ?_
                refine lv_istore (lv' := [(8, .int 0), (7, .int 0), (6, .int y_41), (5, .int y_36), (0, .ref h0), (1, .int p0), (2, .int p1), (3, .int p2), (4, .int p3)]) hx hb dX5_together_149 hl (by decide) rfl (fun ls hl => ?_)
                have LP4 : ∀ (n : Nat) (lf : Int32) (k : Int32) (wv : Nat → Int32) (wn : Nat → Int32), (0 ≤ lf.toInt) → (0 ≤ k.toInt) → (k.toInt ≤ bm.toInt) → (mj_wr p3.toNatClampNeg o_6 o_7 y_36.toInt (6 * p2.toNatClampNeg) lf.toNatClampNeg k.toNatClampNeg vv vn wv wn) → (bm.toInt - k.toInt).toNat < n → ∀ (H : Heap) (locs : List Loc), va_P (dC, dI) vwCl [kx_5 h0 g_row m_n m_slots m_thrown g_many g_loss g_less g_voteValue g_voteNumber g_allValue g_allNumber bm g_nodeL g_nodeR m_nodes g_part m_partMany g_wasMany g_wasLoss g_wasValue g_wasNumber g_path m_pathMany g_heavyValue g_heavyTimes m_heavyMany g_fewest g_which g_met m_mostMet, kx_a g_many cyI 324 fm, kx_a g_loss cyI 324 fl, kx_a g_less cyI 324 fe, kx_a g_voteValue cyI 1944 wv, kx_a g_voteNumber cyI 1944 wn, kx_a g_allValue cyI 12 o_6, kx_a g_allNumber cyI 12 o_7] H → va_D A [kx_5 h0 g_row m_n m_slots m_thrown g_many g_loss g_less g_voteValue g_voteNumber g_allValue g_allNumber bm g_nodeL g_nodeR m_nodes g_part m_partMany g_wasMany g_wasLoss g_wasValue g_wasNumber g_path m_pathMany g_heavyValue g_heavyTimes m_heavyMany g_fewest g_which g_met m_mostMet, kx_a g_many cyI 324 fm, kx_a g_loss cyI 324 fl, kx_a g_less cyI 324 fe, kx_a g_voteValue cyI 1944 wv, kx_a g_voteNumber cyI 1944 wn, kx_a g_allValue cyI 12 o_6, kx_a g_allNumber cyI 12 o_7] → va_S A s.heap H locs → ∀ (ls : Array Slot), lv_has ls 9 [(8, .int k), (7, .int lf), (6, .int y_41), (5, .int y_36), (0, .ref h0), (1, .int p0), (2, .int p1), (3, .int p2), (4, .int p3)] → W p l e (headSpec wsX5_together ({ frames := 2, cells := 0, slots := 0, locals := 90 })).room s m ([.ref h0, .int p0, .int p1, .int p2, .int p3] : List Value).toArray below meth c H locs 0 0 (MQ below (va_Qv (fun u : Int32 × Int32 × Int32 × (Int32 → Int) × (Nat → Int32) × (Nat → Int32) × (Nat → Int32) × (Nat → Int32) × (Nat → Int32) × (Nat → Int32) × (Nat → Int32) => mj_tog p3.toNatClampNeg mua mub u.2.2.2.1 u.2.1 ∧ u.2.2.2.2.2.1 = upd fl p2.toNatClampNeg (fl p0.toNatClampNeg + fl p1.toNatClampNeg + u.2.1) ∧ u.2.2.2.2.2.2.1 = upd fe p2.toNatClampNeg u.2.1 ∧ u.2.2.2.2.1 = upd fm p2.toNatClampNeg u.2.2.1 ∧ 0 ≤ u.2.2.1.toInt ∧ u.2.2.1.toInt ≤ p3.toInt ∧ mj_vs u.2.2.2.2.2.2.2.1 u.2.2.2.2.2.2.2.2.1 (6 * p2.toNatClampNeg) u.2.2.1.toNatClampNeg u.2.2.2.1 ∧ mj_srt u.2.2.2.2.2.2.2.1 u.2.2.2.2.2.2.2.2.1 (6 * p2.toNatClampNeg) u.2.2.1.toNatClampNeg ∧ ∀ q : Nat, (q < 6 * p2.toNatClampNeg ∨ 6 * p2.toNatClampNeg + 6 ≤ q) → u.2.2.2.2.2.2.2.1 q = vv q ∧ u.2.2.2.2.2.2.2.2.1 q = vn q) (fun (u : Int32 × Int32 × Int32 × (Int32 → Int) × (Nat → Int32) × (Nat → Int32) × (Nat → Int32) × (Nat → Int32) × (Nat → Int32) × (Nat → Int32) × (Nat → Int32)) (t : State) => va_P (dC, dI) vwCl [kx_5 h0 g_row m_n m_slots m_thrown g_many g_loss g_less g_voteValue g_voteNumber g_allValue g_allNumber u.1 g_nodeL g_nodeR m_nodes g_part m_partMany g_wasMany g_wasLoss g_wasValue g_wasNumber g_path m_pathMany g_heavyValue g_heavyTimes m_heavyMany g_fewest g_which g_met m_mostMet, kx_a g_many cyI 324 u.2.2.2.2.1, kx_a g_loss cyI 324 u.2.2.2.2.2.1, kx_a g_less cyI 324 u.2.2.2.2.2.2.1, kx_a g_voteValue cyI 1944 u.2.2.2.2.2.2.2.1, kx_a g_voteNumber cyI 1944 u.2.2.2.2.2.2.2.2.1, kx_a g_allValue cyI 12 u.2.2.2.2.2.2.2.2.2.1, kx_a g_allNumber cyI 12 u.2.2.2.2.2.2.2.2.2.2] t.heap ∧ va_K (dC, dI) vwCl [(cyI, .int)] t ∧ va_D A [kx_5 h0 g_row m_n m_slots m_thrown g_many g_loss g_less g_voteValue g_voteNumber g_allValue g_allNumber u.1 g_nodeL g_nodeR m_nodes g_part m_partMany g_wasMany g_wasLoss g_wasValue g_wasNumber g_path m_pathMany g_heavyValue g_heavyTimes m_heavyMany g_fewest g_which g_met m_mostMet, kx_a g_many cyI 324 u.2.2.2.2.1, kx_a g_loss cyI 324 u.2.2.2.2.2.1, kx_a g_less cyI 324 u.2.2.2.2.2.2.1, kx_a g_voteValue cyI 1944 u.2.2.2.2.2.2.2.1, kx_a g_voteNumber cyI 1944 u.2.2.2.2.2.2.2.2.1, kx_a g_allValue cyI 12 u.2.2.2.2.2.2.2.2.2.1, kx_a g_allNumber cyI 12 u.2.2.2.2.2.2.2.2.2.2]) A) ([.ref h0, .int p0, .int p1, .int p2, .int p3] : List Value).toArray s 0 0 A) (F0 m 151 ls []) := by
                  intro n
                  induction n with
                  | zero => intro lf k wv wn LP4_h0 LP4_h1 LP4_h2 LP4_h3 hn; exact absurd hn (Nat.not_lt_zero _)
                  | succ n ih4 =>
                    intro lf k wv wn LP4_h0 LP4_h1 LP4_h2 LP4_h3 hn4 H locs hP hD hS ls hl
                    have n_lf := ki_nat lf rfl (om_10 LP4_h0)
                    have n_k := ki_nat k rfl (om_10 LP4_h1)
                    have h_lf := LP4_h3.2.1
                    refine lv_iload hx hb dX5_together_151 (lv_at hl 0 rfl) ?_
                    refine lv_aload_n hx hb dX5_together_153 rfl (lv_at hl 4 rfl) ?_
                    refine va_get (D := (dC, dI)) (ci := 5) (v := .int bm) (C := RX5) (T := TX5) (N := 30) hx hb hts hi_5 hown hK hP 0 rfl rfl 11 (by decide) hf_87 (fun _ h9 => h9) rfl dX5_together_154 ?_
                    refine lv_icmp_ge (tgt := 226) hx hb dX5_together_157 (by decide) (fun c_42 => ?_) (fun c_42 => ?_)
                    · have i_42 : bm.toInt ≤ k.toInt := kc_le c_42
                      refine lv_aload_n hx hb dX5_together_226 rfl (lv_at hl 4 rfl) ?_
                      refine va_get (D := (dC, dI)) (ci := 5) (v := .ref g_many) (C := RX5) (T := TX5) (N := 30) hx hb hts hi_5 hown hK hP 0 rfl rfl 4 (by decide) hf_17 (fun _ h9 => h9) rfl dX5_together_227 ?_
                      refine lv_iload_n hx hb dX5_together_230 rfl (lv_at hl 7 rfl) ?_
                      refine lv_iload hx hb dX5_together_231 (lv_at hl 1 rfl) ?_
                      refine va_iast hx hb hK hP hD hS 1 0 rfl rfl (ki_in (om_10 b4) (om_304 b5)) dX5_together_233 (fun H locs hP hD hS => ?_)
                      obtain ⟨hP, hD⟩ := kx_re (w2 := [kx_5 h0 g_row m_n m_slots m_thrown g_many g_loss g_less g_voteValue g_voteNumber g_allValue g_allNumber bm g_nodeL g_nodeR m_nodes g_part m_partMany g_wasMany g_wasLoss g_wasValue g_wasNumber g_path m_pathMany g_heavyValue g_heavyTimes m_heavyMany g_fewest g_which g_met m_mostMet, kx_a g_many cyI 324 (upd fm p2.toNatClampNeg lf), kx_a g_loss cyI 324 fl, kx_a g_less cyI 324 fe, kx_a g_voteValue cyI 1944 wv, kx_a g_voteNumber cyI 1944 wn, kx_a g_allValue cyI 12 o_6, kx_a g_allNumber cyI 12 o_7]) hP hD rfl
                      refine lv_aload_n hx hb dX5_together_234 rfl (lv_at hl 4 rfl) ?_
                      refine va_get (D := (dC, dI)) (ci := 5) (v := .ref g_loss) (C := RX5) (T := TX5) (N := 30) hx hb hts hi_5 hown hK hP 0 rfl rfl 5 (by decide) hf_20 (fun _ h9 => h9) rfl dX5_together_235 ?_
                      refine lv_iload_n hx hb dX5_together_238 rfl (lv_at hl 7 rfl) ?_
                      refine lv_iload hx hb dX5_together_239 (lv_at hl 2 rfl) ?_
                      refine va_iast hx hb hK hP hD hS 2 0 rfl rfl (ki_in (om_10 b4) (om_304 b5)) dX5_together_241 (fun H locs hP hD hS => ?_)
                      obtain ⟨hP, hD⟩ := kx_re (w2 := [kx_5 h0 g_row m_n m_slots m_thrown g_many g_loss g_less g_voteValue g_voteNumber g_allValue g_allNumber bm g_nodeL g_nodeR m_nodes g_part m_partMany g_wasMany g_wasLoss g_wasValue g_wasNumber g_path m_pathMany g_heavyValue g_heavyTimes m_heavyMany g_fewest g_which g_met m_mostMet, kx_a g_many cyI 324 (upd fm p2.toNatClampNeg lf), kx_a g_loss cyI 324 (upd fl p2.toNatClampNeg y_41), kx_a g_less cyI 324 fe, kx_a g_voteValue cyI 1944 wv, kx_a g_voteNumber cyI 1944 wn, kx_a g_allValue cyI 12 o_6, kx_a g_allNumber cyI 12 o_7]) hP hD rfl
                      refine lv_aload_n hx hb dX5_together_242 rfl (lv_at hl 4 rfl) ?_
                      refine va_get (D := (dC, dI)) (ci := 5) (v := .ref g_less) (C := RX5) (T := TX5) (N := 30) hx hb hts hi_5 hown hK hP 0 rfl rfl 6 (by decide) hf_23 (fun _ h9 => h9) rfl dX5_together_243 ?_
                      refine lv_iload_n hx hb dX5_together_246 rfl (lv_at hl 7 rfl) ?_
                      refine lv_iload hx hb dX5_together_247 (lv_at hl 3 rfl) ?_
                      refine va_iast hx hb hK hP hD hS 3 0 rfl rfl (ki_in (om_10 b4) (om_304 b5)) dX5_together_249 (fun H locs hP hD hS => ?_)
                      obtain ⟨hP, hD⟩ := kx_re (w2 := [kx_5 h0 g_row m_n m_slots m_thrown g_many g_loss g_less g_voteValue g_voteNumber g_allValue g_allNumber bm g_nodeL g_nodeR m_nodes g_part m_partMany g_wasMany g_wasLoss g_wasValue g_wasNumber g_path m_pathMany g_heavyValue g_heavyTimes m_heavyMany g_fewest g_which g_met m_mostMet, kx_a g_many cyI 324 (upd fm p2.toNatClampNeg lf), kx_a g_loss cyI 324 (upd fl p2.toNatClampNeg y_41), kx_a g_less cyI 324 (upd fe p2.toNatClampNeg y_36), kx_a g_voteValue cyI 1944 wv, kx_a g_voteNumber cyI 1944 wn, kx_a g_allValue cyI 12 o_6, kx_a g_allNumber cyI 12 o_7]) hP hD rfl
                      have hP9 := hP
                      have hD9 := hD
                      have hK9 := hK
                      have hen := mj_wr_end LP4_h3 (m := bm.toNatClampNeg) (by omega) hsum w_5.1 (by omega)
                      exact W.vret hx hb hr (hlocks := hlocks) (fun t ht hW => ⟨⟨(bm, y_36, lf, (fun v => if (y_36.toInt : Int) < mua v + mub v then mua v + mub v - y_36.toInt else 0), (upd fm p2.toNatClampNeg lf), (upd fl p2.toNatClampNeg y_41), (upd fe p2.toNatClampNeg y_36), wv, wn, o_6, o_7), rfl, ⟨⟨o_6, o_7, bm.toNatClampNeg, hsum, w_5.1, Or.inr ⟨(by omega), ey_36⟩, (fun v => rfl)⟩, (by (try dsimp only); rw [ey_41, ey_40, ey_38, ey_39]), rfl, rfl, (by (try dsimp only); omega), (by (try dsimp only); omega), hen.1, hen.2, LP4_h3.2.2.2.2⟩, by rw [ht]; exact hP9, va_K.moved hW.alike hK9, hD9⟩, hS.F ht⟩) hS.2.2 dX5_together_250
                    · have i_42 : k.toInt < bm.toInt := kc_nle c_42
                      refine lv_aload_n hx hb dX5_together_160 rfl (lv_at hl 4 rfl) ?_
                      refine va_get (D := (dC, dI)) (ci := 5) (v := .ref g_allNumber) (C := RX5) (T := TX5) (N := 30) hx hb hts hi_5 hown hK hP 0 rfl rfl 10 (by decide) hf_35 (fun _ h9 => h9) rfl dX5_together_161 ?_
                      refine lv_iload hx hb dX5_together_164 (lv_at hl 0 rfl) ?_
                      refine va_iald hx hb hK hP 7 0 rfl rfl (ki_in (om_10 LP4_h1) (om_310 m1 m3 LP2_h1 LP2_h3 i_42)) dX5_together_166 ?_
                      refine lv_topi (fun y_43 ey_43 => ?_)
                      have j_43 : y_43.toInt = (o_7 k.toNatClampNeg).toInt := congrArg Int32.toInt ey_43
                      have g_44 : 0 < y_43.toInt ∧ y_43.toInt ≤ 1000000 := by rw [ey_43]; exact hbd k.toNatClampNeg (by omega)
                      refine lv_iload hx hb dX5_together_167 (lv_at hl 3 rfl) ?_
                      refine lv_isub hx hb dX5_together_169 ?_
                      refine lv_topi (fun y_45 ey_45 => ?_)
                      have i_45 : y_45.toInt = y_43.toInt - y_36.toInt := ki_sub ey_45 rfl rfl (by omega) (by omega)
                      refine lv_if_gt (tgt := 176) hx hb dX5_together_170 (by decide) (fun c_46 => ?_) (fun c_46 => ?_)
                      · have i_46 : 0 < y_45.toInt := kc_lt c_46
                        refine lv_aload_n hx hb dX5_together_176 rfl (lv_at hl 4 rfl) ?_
                        refine va_get (D := (dC, dI)) (ci := 5) (v := .ref g_voteValue) (C := RX5) (T := TX5) (N := 30) hx hb hts hi_5 hown hK hP 0 rfl rfl 7 (by decide) hf_26 (fun _ h9 => h9) rfl dX5_together_177 ?_
                        refine lv_bipush (v := 6) hx hb dX5_together_180 (by decide) ?_
                        refine lv_iload_n hx hb dX5_together_182 rfl (lv_at hl 7 rfl) ?_
                        refine lv_imul hx hb dX5_together_183 ?_
                        refine lv_topi (fun y_47 ey_47 => ?_)
                        have i_47 : y_47.toInt = 6 * p2.toInt := ki_mul ey_47 rfl rfl (om_247 b4) (om_306 b5)
                        refine lv_iload hx hb dX5_together_184 (lv_at hl 1 rfl) ?_
                        refine lv_iadd hx hb dX5_together_186 ?_
                        refine lv_topi (fun y_48 ey_48 => ?_)
                        have i_48 : y_48.toInt = y_47.toInt + lf.toInt := ki_add ey_48 rfl rfl (om_251 b4 LP4_h0 i_47) (by omega)
                        refine lv_aload_n hx hb dX5_together_187 rfl (lv_at hl 4 rfl) ?_
                        refine va_get (D := (dC, dI)) (ci := 5) (v := .ref g_allValue) (C := RX5) (T := TX5) (N := 30) hx hb hts hi_5 hown hK hP 0 rfl rfl 9 (by decide) hf_32 (fun _ h9 => h9) rfl dX5_together_188 ?_
                        refine lv_iload hx hb dX5_together_191 (lv_at hl 0 rfl) ?_
                        refine va_iald hx hb hK hP 6 0 rfl rfl (ki_in (om_10 LP4_h1) (om_310 m1 m3 LP2_h1 LP2_h3 i_42)) dX5_together_193 ?_
                        refine lv_topi (fun y_49 ey_49 => ?_)
                        have j_49 : y_49.toInt = (o_6 k.toNatClampNeg).toInt := congrArg Int32.toInt ey_49
                        refine va_iast hx hb hK hP hD hS 4 0 rfl rfl (ki_in (om_253 b4 LP4_h0 i_47 i_48) (by omega)) dX5_together_194 (fun H locs hP hD hS => ?_)
                        obtain ⟨hP, hD⟩ := kx_re (w2 := [kx_5 h0 g_row m_n m_slots m_thrown g_many g_loss g_less g_voteValue g_voteNumber g_allValue g_allNumber bm g_nodeL g_nodeR m_nodes g_part m_partMany g_wasMany g_wasLoss g_wasValue g_wasNumber g_path m_pathMany g_heavyValue g_heavyTimes m_heavyMany g_fewest g_which g_met m_mostMet, kx_a g_many cyI 324 fm, kx_a g_loss cyI 324 fl, kx_a g_less cyI 324 fe, kx_a g_voteValue cyI 1944 (upd wv y_48.toNatClampNeg y_49), kx_a g_voteNumber cyI 1944 wn, kx_a g_allValue cyI 12 o_6, kx_a g_allNumber cyI 12 o_7]) hP hD rfl
                        refine lv_aload_n hx hb dX5_together_195 rfl (lv_at hl 4 rfl) ?_
                        refine va_get (D := (dC, dI)) (ci := 5) (v := .ref g_voteNumber) (C := RX5) (T := TX5) (N := 30) hx hb hts hi_5 hown hK hP 0 rfl rfl 8 (by decide) hf_29 (fun _ h9 => h9) rfl dX5_together_196 ?_
                        refine lv_bipush (v := 6) hx hb dX5_together_199 (by decide) ?_
                        refine lv_iload_n hx hb dX5_together_201 rfl (lv_at hl 7 rfl) ?_
                        refine lv_imul hx hb dX5_together_202 ?_
                        refine lv_topi (fun y_50 ey_50 => ?_)
                        have i_50 : y_50.toInt = 6 * p2.toInt := ki_mul ey_50 rfl rfl (om_247 b4) (om_306 b5)
                        refine lv_iload hx hb dX5_together_203 (lv_at hl 1 rfl) ?_
                        refine lv_iadd hx hb dX5_together_205 ?_
                        refine lv_topi (fun y_51 ey_51 => ?_)
                        have i_51 : y_51.toInt = y_50.toInt + lf.toInt := ki_add ey_51 rfl rfl (om_251 b4 LP4_h0 i_50) (by omega)
                        refine lv_aload_n hx hb dX5_together_206 rfl (lv_at hl 4 rfl) ?_
                        refine va_get (D := (dC, dI)) (ci := 5) (v := .ref g_allNumber) (C := RX5) (T := TX5) (N := 30) hx hb hts hi_5 hown hK hP 0 rfl rfl 10 (by decide) hf_35 (fun _ h9 => h9) rfl dX5_together_207 ?_
                        refine lv_iload hx hb dX5_together_210 (lv_at hl 0 rfl) ?_
                        refine va_iald hx hb hK hP 7 0 rfl rfl (ki_in (om_10 LP4_h1) (om_310 m1 m3 LP2_h1 LP2_h3 i_42)) dX5_together_212 ?_
                        refine lv_topi (fun y_52 ey_52 => ?_)
                        have j_52 : y_52.toInt = (o_7 k.toNatClampNeg).toInt := congrArg Int32.toInt ey_52
                        have g_53 : 0 < y_52.toInt ∧ y_52.toInt ≤ 1000000 := by rw [ey_52]; exact hbd k.toNatClampNeg (by omega)
                        refine lv_iload hx hb dX5_together_213 (lv_at hl 3 rfl) ?_
                        refine lv_isub hx hb dX5_together_215 ?_
                        refine lv_topi (fun y_54 ey_54 => ?_)
                        have i_54 : y_54.toInt = y_52.toInt - y_36.toInt := ki_sub ey_54 rfl rfl (om_311 j_43 i_45 i_46 j_52) (by omega)
                        refine va_iast hx hb hK hP hD hS 5 0 rfl rfl (ki_in (om_253 b4 LP4_h0 i_50 i_51) (by omega)) dX5_together_216 (fun H locs hP hD hS => ?_)
                        obtain ⟨hP, hD⟩ := kx_re (w2 := [kx_5 h0 g_row m_n m_slots m_thrown g_many g_loss g_less g_voteValue g_voteNumber g_allValue g_allNumber bm g_nodeL g_nodeR m_nodes g_part m_partMany g_wasMany g_wasLoss g_wasValue g_wasNumber g_path m_pathMany g_heavyValue g_heavyTimes m_heavyMany g_fewest g_which g_met m_mostMet, kx_a g_many cyI 324 fm, kx_a g_loss cyI 324 fl, kx_a g_less cyI 324 fe, kx_a g_voteValue cyI 1944 (upd wv y_48.toNatClampNeg y_49), kx_a g_voteNumber cyI 1944 (upd wn y_51.toNatClampNeg y_54), kx_a g_allValue cyI 12 o_6, kx_a g_allNumber cyI 12 o_7]) hP hD rfl
                        obtain ⟨x_55, ex_55⟩ : ∃ y : Int32, y = lf + 1 := ⟨_, rfl⟩
                        have i_55 : x_55.toInt = lf.toInt + 1 := ki_add ex_55 rfl rfl (om_13 LP4_h0) (by omega)
                        refine lv_iinc (v := x_55) (lv' := [(7, .int x_55), (8, .int k), (6, .int y_41), (5, .int y_36), (0, .ref h0), (1, .int p0), (2, .int p1), (3, .int p2), (4, .int p3)]) hx hb dX5_together_217 hl (k := 1) rfl (by rw [ex_55]; rfl) (by decide) rfl (fun ls hl => ?_)
                        obtain ⟨x_56, ex_56⟩ : ∃ y : Int32, y = k + 1 := ⟨_, rfl⟩
                        have i_56 : x_56.toInt = k.toInt + 1 := ki_add ex_56 rfl rfl (om_13 LP4_h1) (om_312 m1 m3 LP2_h1 LP2_h3 i_42)
                        refine lv_iinc (v := x_56) (lv' := [(8, .int x_56), (7, .int x_55), (6, .int y_41), (5, .int y_36), (0, .ref h0), (1, .int p0), (2, .int p1), (3, .int p2), (4, .int p3)]) hx hb dX5_together_220 hl (k := 1) rfl (by rw [ex_56]; rfl) (by decide) rfl (fun ls hl => ?_)
                        refine lv_goto (tgt := 151) hx hb dX5_together_223 (by decide) ?_
                        have n_57 := ki_nat x_56 rfl (om_34 LP4_h1 i_56)
                        have n_58 := ki_nat y_48 rfl (om_253 b4 LP4_h0 i_47 i_48)
                        have n_59 := ki_nat y_51 rfl (om_253 b4 LP4_h0 i_50 i_51)
                        have n_60 := ki_nat x_55 rfl (om_34 LP4_h0 i_55)
                        exact ih4 x_55 x_56 (upd wv y_48.toNatClampNeg y_49) (upd wn y_51.toNatClampNeg y_54) (om_34 LP4_h0 i_55) (om_34 LP4_h1 i_56) (om_54 i_42 i_56) (mj_wr_put LP4_h3 w_5.1 (by omega) (by omega) (fun _ => j_36) (by omega) ey_49 (by omega) (by omega) (by omega) (by omega) (by omega)) (om_mu hn4 (om_5 i_56) (om_6 i_42)) _ _ hP hD hS ls (lv_sub hl [0, 1, 2, 3, 4, 5, 6, 7, 8] rfl)
                      · have i_46 : y_45.toInt ≤ 0 := kc_nlt c_46
                        refine lv_goto (tgt := 220) hx hb dX5_together_173 (by decide) ?_
                        obtain ⟨x_61, ex_61⟩ : ∃ y : Int32, y = k + 1 := ⟨_, rfl⟩
                        have i_61 : x_61.toInt = k.toInt + 1 := ki_add ex_61 rfl rfl (om_13 LP4_h1) (om_312 m1 m3 LP2_h1 LP2_h3 i_42)
                        refine lv_iinc (v := x_61) (lv' := [(8, .int x_61), (7, .int lf), (6, .int y_41), (5, .int y_36), (0, .ref h0), (1, .int p0), (2, .int p1), (3, .int p2), (4, .int p3)]) hx hb dX5_together_220 hl (k := 0) rfl (by rw [ex_61]; rfl) (by decide) rfl (fun ls hl => ?_)
                        refine lv_goto (tgt := 151) hx hb dX5_together_223 (by decide) ?_
                        have n_62 := ki_nat x_61 rfl (om_34 LP4_h1 i_61)
                        exact ih4 lf x_61 wv wn (om_10 LP4_h0) (om_34 LP4_h1 i_61) (om_54 i_42 i_61) (mj_wr_skip LP4_h3 (by omega) (by omega)) (om_mu hn4 (om_5 i_61) (om_6 i_42)) _ _ hP hD hS ls (lv_sub hl [0, 1, 2, 3, 4, 5, 6, 7, 8] rfl)
                have k_63 : (0 : Int32).toInt = 0 := rfl
                have k_64 : (0 : Int32).toInt = 0 := rfl
                exact LP4 ((bm.toInt - 0 : Int).toNat + 1) 0 0 vv vn om_35 om_35 (om_10 LP2_h2) (mj_wr_0 _ _ _ _ _ _ _) (Nat.lt_succ_self _) _ _ hP hD hS ls (lv_sub hl [0, 1, 2, 3, 4, 5, 6, 7, 8] rfl)
            · have i_4 : j.toInt < y_3.toInt := kc_nle c_4
              refine lv_aload_n hx hb dX5_together_67 rfl (lv_at hl 1 rfl) ?_
              refine lv_aload_n hx hb dX5_together_68 rfl (lv_at hl 1 rfl) ?_
              refine va_get (D := (dC, dI)) (ci := 5) (v := .ref g_voteValue) (C := RX5) (T := TX5) (N := 30) hx hb hts hi_5 hown hK hP 0 rfl rfl 7 (by decide) hf_26 (fun _ h9 => h9) rfl dX5_together_69 ?_
              refine lv_bipush (v := 6) hx hb dX5_together_72 (by decide) ?_
              refine lv_iload_n hx hb dX5_together_74 rfl (lv_at hl 3 rfl) ?_
              refine lv_imul hx hb dX5_together_75 ?_
              refine lv_topi (fun y_65 ey_65 => ?_)
              have i_65 : y_65.toInt = 6 * p1.toInt := ki_mul ey_65 rfl rfl (om_247 b2) (om_248 b3)
              refine lv_iload hx hb dX5_together_76 (lv_at hl 0 rfl) ?_
              refine lv_iadd hx hb dX5_together_78 ?_
              refine lv_topi (fun y_66 ey_66 => ?_)
              have i_66 : y_66.toInt = y_65.toInt + j.toInt := ki_add ey_66 rfl rfl (om_251 b2 LP2_h0 i_65) (om_313 b3 m3 LP2_h1 i_65)
              refine va_iald hx hb hK hP 4 0 rfl rfl (ki_in (om_253 b2 LP2_h0 i_65 i_66) (om_314 b3 m3 j_3 i_4 i_65 i_66)) dX5_together_79 ?_
              refine lv_topi (fun y_67 ey_67 => ?_)
              have j_67 : y_67.toInt = (vv y_66.toNatClampNeg).toInt := congrArg Int32.toInt ey_67
              refine lv_aload_n hx hb dX5_together_80 rfl (lv_at hl 1 rfl) ?_
              refine va_get (D := (dC, dI)) (ci := 5) (v := .ref g_voteNumber) (C := RX5) (T := TX5) (N := 30) hx hb hts hi_5 hown hK hP 0 rfl rfl 8 (by decide) hf_29 (fun _ h9 => h9) rfl dX5_together_81 ?_
              refine lv_bipush (v := 6) hx hb dX5_together_84 (by decide) ?_
              refine lv_iload_n hx hb dX5_together_86 rfl (lv_at hl 3 rfl) ?_
              refine lv_imul hx hb dX5_together_87 ?_
              refine lv_topi (fun y_68 ey_68 => ?_)
              have i_68 : y_68.toInt = 6 * p1.toInt := ki_mul ey_68 rfl rfl (om_247 b2) (om_248 b3)
              refine lv_iload hx hb dX5_together_88 (lv_at hl 0 rfl) ?_
              refine lv_iadd hx hb dX5_together_90 ?_
              refine lv_topi (fun y_69 ey_69 => ?_)
              have i_69 : y_69.toInt = y_68.toInt + j.toInt := ki_add ey_69 rfl rfl (om_251 b2 LP2_h0 i_68) (om_313 b3 m3 LP2_h1 i_68)
              refine va_iald hx hb hK hP 5 0 rfl rfl (ki_in (om_253 b2 LP2_h0 i_68 i_69) (om_314 b3 m3 j_3 i_4 i_68 i_69)) dX5_together_91 ?_
              refine lv_topi (fun y_70 ey_70 => ?_)
              have j_70 : y_70.toInt = (vn y_69.toNatClampNeg).toInt := congrArg Int32.toInt ey_70
              obtain ⟨hPc, hDc, hFc, hCc⟩ := kx_preM (wc := [kx_5 h0 g_row m_n m_slots m_thrown g_many g_loss g_less g_voteValue g_voteNumber g_allValue g_allNumber bm g_nodeL g_nodeR m_nodes g_part m_partMany g_wasMany g_wasLoss g_wasValue g_wasNumber g_path m_pathMany g_heavyValue g_heavyTimes m_heavyMany g_fewest g_which g_met m_mostMet, kx_a g_allValue cyI 12 bv, kx_a g_allNumber cyI 12 bn]) hP hD hS hA [true, false, false, false, false, false, true, true] rfl
              have hKc := hK
              refine va_callv (va_runV (As := [.int y_67, .int y_70]) (rest := []) ⟨hx, hb, hml, hown, hts⟩ (kx_un (c_X5_adds_x l dC dI h0 g_row g_many g_loss g_less g_voteValue g_voteNumber g_allValue g_allNumber g_nodeL g_nodeR g_part g_wasMany g_wasLoss g_wasValue g_wasNumber g_path g_heavyValue g_heavyTimes g_fewest g_which g_met m_n m_slots m_thrown bm m_nodes m_partMany m_pathMany m_heavyMany m_mostMet cyI bv bn y_67 y_70 H.size LP2_h2 (om_315 m1 m3 LP2_h3 j_3 i_4))) (cwV 2 hts gX5_together_X5_adds rfl rfl rfl (by decide +kernel) ⟨Nat.le_of_ble_eq_true rfl, Nat.le_of_ble_eq_true rfl⟩) ⟨fun a U g mk q => by obtain ⟨q0, q1, qP, qK, qD⟩ := q; exact ⟨q0, q1, qP, va_K.moved (u := U) (U := U.calling g mk a) (Vm.Alike.refl U.vm) qK, qD⟩, kx_rc5 hKc hPc (q0 := 0) rfl, fun U hU hW => ⟨rfl, by rw [hU], by rw [hU]; exact hPc, va_K.moved hW.alike hKc, hDc.weaken (fun _ _ _ _ => trivial)⟩⟩ rfl rfl hl.1 rfl (lv_room (Nat.le_of_ble_eq_true rfl)) dX5_together_92 ⟨Nat.le_of_ble_eq_true rfl, Nat.le_of_ble_eq_true rfl⟩) hS (fun q _ h => hFc q h) hFc (fun u t H1 locs ht hvm w_71 hB hz1 hk1 hS => ?_)
              obtain ⟨o_72, o_73, o_74⟩ := u
              dsimp only at w_71 hB
              obtain ⟨hP1, hK1, hD1⟩ := hB
              rw [ht] at hP1
              have hK1 := va_K.moved hvm.symm hK1
              obtain ⟨hP, hD⟩ := kx_joinM (w2 := [kx_5 h0 g_row m_n m_slots m_thrown g_many g_loss g_less g_voteValue g_voteNumber g_allValue g_allNumber o_72 g_nodeL g_nodeR m_nodes g_part m_partMany g_wasMany g_wasLoss g_wasValue g_wasNumber g_path m_pathMany g_heavyValue g_heavyTimes m_heavyMany g_fewest g_which g_met m_mostMet, kx_a g_many cyI 324 fm, kx_a g_loss cyI 324 fl, kx_a g_less cyI 324 fe, kx_a g_voteValue cyI 1944 vv, kx_a g_voteNumber cyI 1944 vn, kx_a g_allValue cyI 12 o_73, kx_a g_allNumber cyI 12 o_74]) hP hD hP1 hD1 hk1 hFc [true, false, false, false, false, false, true, true] hCc rfl
              clear hP1 hD1 hK1 hk1 hz1 hFc hDc hPc hKc hCc
              generalize H1 = H at hP hS ⊢
              have w_71 : mj_addR bv bn bm.toNatClampNeg y_67 y_70 o_73 o_74 o_72.toNatClampNeg ∧ bm.toInt ≤ o_72.toInt ∧ o_72.toInt ≤ bm.toInt + 1 := w_71
              obtain ⟨x_75, ex_75⟩ : ∃ y : Int32, y = j + 1 := ⟨_, rfl⟩
              have i_75 : x_75.toInt = j.toInt + 1 := ki_add ex_75 rfl rfl (om_13 LP2_h0) (om_316 m3 LP2_h1)
              refine lv_iinc (v := x_75) (lv' := [(5, .int x_75), (0, .ref h0), (1, .int p0), (2, .int p1), (3, .int p2), (4, .int p3)]) hx hb dX5_together_95 hl (k := 0) rfl (by rw [ex_75]; rfl) (by decide) rfl (fun ls hl => ?_)
              refine lv_goto (tgt := 56) hx hb dX5_together_98 (by decide) ?_
              have n_76 := ki_nat x_75 rfl (om_34 LP2_h0 i_75)
              have n_77 := ki_nat y_66 rfl (om_253 b2 LP2_h0 i_65 i_66)
              have n_78 := ki_nat y_69 rfl (om_253 b2 LP2_h0 i_68 i_69)
              exact ih2 x_75 o_72 o_73 o_74 (om_34 LP2_h0 i_75) (om_317 j_3 i_4 i_75) (om_0 LP2_h2 w_71.2.1) (om_318 LP2_h3 w_71.2.2 i_75) (by rw [show x_75.toNatClampNeg = j.toNatClampNeg + 1 by omega]; exact mj_step (i := j.toNatClampNeg) (q := y_66.toNatClampNeg) (q2 := y_69.toNatClampNeg) vb (by omega) (by omega) (by omega) ey_67 ey_70 (mj_hb2 bd _) LP2_h4 w_71.1) (om_mu hn2 (om_319 m2 i_75) (om_320 j_3 i_4)) _ _ hP hD hS ls (lv_sub hl [0, 1, 2, 3, 4, 5] rfl)
        have k_79 : (0 : Int32).toInt = 0 := rfl
        exact LP2 (((fm p1.toNatClampNeg).toInt - 0 : Int).toNat + 1) 0 am gv gn om_35 (om_10 m2) (om_10 LP1_h2) (om_321 LP1_h1 LP1_h3) (mj_next LP1_h4 va (by omega) rfl) (Nat.lt_succ_self _) _ _ hP hD hS ls (lv_sub hl [0, 1, 2, 3, 4, 5] rfl)
      · have i_2 : i.toInt < y_1.toInt := kc_nle c_2
        refine lv_aload_n hx hb dX5_together_19 rfl (lv_at hl 1 rfl) ?_
        refine lv_aload_n hx hb dX5_together_20 rfl (lv_at hl 1 rfl) ?_
        refine va_get (D := (dC, dI)) (ci := 5) (v := .ref g_voteValue) (C := RX5) (T := TX5) (N := 30) hx hb hts hi_5 hown hK hP 0 rfl rfl 7 (by decide) hf_26 (fun _ h9 => h9) rfl dX5_together_21 ?_
        refine lv_bipush (v := 6) hx hb dX5_together_24 (by decide) ?_
        refine lv_iload_n hx hb dX5_together_26 rfl (lv_at hl 2 rfl) ?_
        refine lv_imul hx hb dX5_together_27 ?_
        refine lv_topi (fun y_80 ey_80 => ?_)
        have i_80 : y_80.toInt = 6 * p0.toInt := ki_mul ey_80 rfl rfl (om_247 b0) (om_248 b1)
        refine lv_iload hx hb dX5_together_28 (lv_at hl 0 rfl) ?_
        refine lv_iadd hx hb dX5_together_30 ?_
        refine lv_topi (fun y_81 ey_81 => ?_)
        have i_81 : y_81.toInt = y_80.toInt + i.toInt := ki_add ey_81 rfl rfl (om_251 b0 LP1_h0 i_80) (om_313 b1 m1 LP1_h1 i_80)
        refine va_iald hx hb hK hP 4 0 rfl rfl (ki_in (om_253 b0 LP1_h0 i_80 i_81) (om_314 b1 m1 j_1 i_2 i_80 i_81)) dX5_together_31 ?_
        refine lv_topi (fun y_82 ey_82 => ?_)
        have j_82 : y_82.toInt = (vv y_81.toNatClampNeg).toInt := congrArg Int32.toInt ey_82
        refine lv_aload_n hx hb dX5_together_32 rfl (lv_at hl 1 rfl) ?_
        refine va_get (D := (dC, dI)) (ci := 5) (v := .ref g_voteNumber) (C := RX5) (T := TX5) (N := 30) hx hb hts hi_5 hown hK hP 0 rfl rfl 8 (by decide) hf_29 (fun _ h9 => h9) rfl dX5_together_33 ?_
        refine lv_bipush (v := 6) hx hb dX5_together_36 (by decide) ?_
        refine lv_iload_n hx hb dX5_together_38 rfl (lv_at hl 2 rfl) ?_
        refine lv_imul hx hb dX5_together_39 ?_
        refine lv_topi (fun y_83 ey_83 => ?_)
        have i_83 : y_83.toInt = 6 * p0.toInt := ki_mul ey_83 rfl rfl (om_247 b0) (om_248 b1)
        refine lv_iload hx hb dX5_together_40 (lv_at hl 0 rfl) ?_
        refine lv_iadd hx hb dX5_together_42 ?_
        refine lv_topi (fun y_84 ey_84 => ?_)
        have i_84 : y_84.toInt = y_83.toInt + i.toInt := ki_add ey_84 rfl rfl (om_251 b0 LP1_h0 i_83) (om_313 b1 m1 LP1_h1 i_83)
        refine va_iald hx hb hK hP 5 0 rfl rfl (ki_in (om_253 b0 LP1_h0 i_83 i_84) (om_314 b1 m1 j_1 i_2 i_83 i_84)) dX5_together_43 ?_
        refine lv_topi (fun y_85 ey_85 => ?_)
        have j_85 : y_85.toInt = (vn y_84.toNatClampNeg).toInt := congrArg Int32.toInt ey_85
        obtain ⟨hPc, hDc, hFc, hCc⟩ := kx_preM (wc := [kx_5 h0 g_row m_n m_slots m_thrown g_many g_loss g_less g_voteValue g_voteNumber g_allValue g_allNumber am g_nodeL g_nodeR m_nodes g_part m_partMany g_wasMany g_wasLoss g_wasValue g_wasNumber g_path m_pathMany g_heavyValue g_heavyTimes m_heavyMany g_fewest g_which g_met m_mostMet, kx_a g_allValue cyI 12 gv, kx_a g_allNumber cyI 12 gn]) hP hD hS hA [true, false, false, false, false, false, true, true] rfl
        have hKc := hK
        refine va_callv (va_runV (As := [.int y_82, .int y_85]) (rest := []) ⟨hx, hb, hml, hown, hts⟩ (kx_un (c_X5_adds_x l dC dI h0 g_row g_many g_loss g_less g_voteValue g_voteNumber g_allValue g_allNumber g_nodeL g_nodeR g_part g_wasMany g_wasLoss g_wasValue g_wasNumber g_path g_heavyValue g_heavyTimes g_fewest g_which g_met m_n m_slots m_thrown am m_nodes m_partMany m_pathMany m_heavyMany m_mostMet cyI gv gn y_82 y_85 H.size LP1_h2 (om_322 m1 LP1_h1 LP1_h3))) (cwV 2 hts gX5_together_X5_adds rfl rfl rfl (by decide +kernel) ⟨Nat.le_of_ble_eq_true rfl, Nat.le_of_ble_eq_true rfl⟩) ⟨fun a U g mk q => by obtain ⟨q0, q1, qP, qK, qD⟩ := q; exact ⟨q0, q1, qP, va_K.moved (u := U) (U := U.calling g mk a) (Vm.Alike.refl U.vm) qK, qD⟩, kx_rc5 hKc hPc (q0 := 0) rfl, fun U hU hW => ⟨rfl, by rw [hU], by rw [hU]; exact hPc, va_K.moved hW.alike hKc, hDc.weaken (fun _ _ _ _ => trivial)⟩⟩ rfl rfl hl.1 rfl (lv_room (Nat.le_of_ble_eq_true rfl)) dX5_together_44 ⟨Nat.le_of_ble_eq_true rfl, Nat.le_of_ble_eq_true rfl⟩) hS (fun q _ h => hFc q h) hFc (fun u t H1 locs ht hvm w_86 hB hz1 hk1 hS => ?_)
        obtain ⟨o_87, o_88, o_89⟩ := u
        dsimp only at w_86 hB
        obtain ⟨hP1, hK1, hD1⟩ := hB
        rw [ht] at hP1
        have hK1 := va_K.moved hvm.symm hK1
        obtain ⟨hP, hD⟩ := kx_joinM (w2 := [kx_5 h0 g_row m_n m_slots m_thrown g_many g_loss g_less g_voteValue g_voteNumber g_allValue g_allNumber o_87 g_nodeL g_nodeR m_nodes g_part m_partMany g_wasMany g_wasLoss g_wasValue g_wasNumber g_path m_pathMany g_heavyValue g_heavyTimes m_heavyMany g_fewest g_which g_met m_mostMet, kx_a g_many cyI 324 fm, kx_a g_loss cyI 324 fl, kx_a g_less cyI 324 fe, kx_a g_voteValue cyI 1944 vv, kx_a g_voteNumber cyI 1944 vn, kx_a g_allValue cyI 12 o_88, kx_a g_allNumber cyI 12 o_89]) hP hD hP1 hD1 hk1 hFc [true, false, false, false, false, false, true, true] hCc rfl
        clear hP1 hD1 hK1 hk1 hz1 hFc hDc hPc hKc hCc
        generalize H1 = H at hP hS ⊢
        have w_86 : mj_addR gv gn am.toNatClampNeg y_82 y_85 o_88 o_89 o_87.toNatClampNeg ∧ am.toInt ≤ o_87.toInt ∧ o_87.toInt ≤ am.toInt + 1 := w_86
        obtain ⟨x_90, ex_90⟩ : ∃ y : Int32, y = i + 1 := ⟨_, rfl⟩
        have i_90 : x_90.toInt = i.toInt + 1 := ki_add ex_90 rfl rfl (om_13 LP1_h0) (om_316 m1 LP1_h1)
        refine lv_iinc (v := x_90) (lv' := [(5, .int x_90), (0, .ref h0), (1, .int p0), (2, .int p1), (3, .int p2), (4, .int p3)]) hx hb dX5_together_47 hl (k := 0) rfl (by rw [ex_90]; rfl) (by decide) rfl (fun ls hl => ?_)
        refine lv_goto (tgt := 8) hx hb dX5_together_50 (by decide) ?_
        have n_91 := ki_nat x_90 rfl (om_34 LP1_h0 i_90)
        have n_92 := ki_nat y_81 rfl (om_253 b0 LP1_h0 i_80 i_81)
        have n_93 := ki_nat y_84 rfl (om_253 b0 LP1_h0 i_83 i_84)
        exact ih1 x_90 o_87 o_88 o_89 (om_34 LP1_h0 i_90) (om_317 j_1 i_2 i_90) (om_0 LP1_h2 w_86.2.1) (om_323 LP1_h3 w_86.2.2 i_90) (by rw [show x_90.toNatClampNeg = i.toNatClampNeg + 1 by omega]; exact mj_step (i := i.toNatClampNeg) (q := y_81.toNatClampNeg) (q2 := y_84.toNatClampNeg) va (by omega) (by omega) (by omega) ey_82 ey_85 (mj_hb1 bd (mj_vs_nn vb) _) LP1_h4 w_86.1) (om_mu hn1 (om_319 m0 i_90) (om_320 j_1 i_2)) _ _ hP hD hS ls (lv_sub hl [0, 1, 2, 3, 4, 5] rfl)
  have k_94 : (0 : Int32).toInt = 0 := rfl
  have k_95 : (0 : Int32).toInt = 0 := rfl
  exact LP1 (((fm p0.toNatClampNeg).toInt - 0 : Int).toNat + 1) 0 0 av an om_35 (om_10 m0) om_35 om_35 (mj_vs_start rfl rfl) (Nat.lt_succ_self _) _ _ hP hD hS ls (lv_sub hl [0, 1, 2, 3, 4, 5] rfl)



abbrev cX5_lays : ByteArray := prog_7_method_13_code
def yX5_lays : MethodName := ⟨RX5, "lays", "(III)I"⟩
def wsX5_lays_r1 : List Cond := [Cond.fieldLink RX5 101 "MajorityIndexModel" "nodes" "I", Cond.fieldLink RX5 38 "MajorityIndexModel" "nodeL" "[I", Cond.fieldLink RX5 41 "MajorityIndexModel" "nodeR" "[I", Cond.fieldLink RX5 7 "MajorityIndexModel" "row" "[I", Cond.methodLink RX5 104 yX5_one, Cond.instanceMethod yX5_one, Cond.selects RX5 yX5_one yX5_one, Cond.initialized RX5, Cond.code yX5_one cX5_one 3 none, Cond.fieldLink RX5 17 "MajorityIndexModel" "many" "[I", Cond.fieldLink RX5 20 "MajorityIndexModel" "loss" "[I", Cond.fieldLink RX5 23 "MajorityIndexModel" "less" "[I", Cond.fieldLink RX5 26 "MajorityIndexModel" "voteValue" "[I", Cond.fieldLink RX5 29 "MajorityIndexModel" "voteNumber" "[I", Cond.methodLink RX5 107 yX5_lays, Cond.instanceMethod yX5_lays, Cond.selects RX5 yX5_lays yX5_lays, Cond.methodLink RX5 111 yX5_together, Cond.instanceMethod yX5_together, Cond.selects RX5 yX5_together yX5_together, Cond.code yX5_together cX5_together 9 none, Cond.fieldLink RX5 87 "MajorityIndexModel" "allMany" "I", Cond.fieldLink RX5 35 "MajorityIndexModel" "allNumber" "[I", Cond.fieldLink RX5 32 "MajorityIndexModel" "allValue" "[I"]
def wsX5_lays_r2 : List Cond := [Cond.methodLink RX5 94 yX5_adds, Cond.instanceMethod yX5_adds, Cond.selects RX5 yX5_adds yX5_adds, Cond.code yX5_adds cX5_adds 4 none, Cond.methodLink RX5 98 yX5_sorts, Cond.instanceMethod yX5_sorts, Cond.selects RX5 yX5_sorts yX5_sorts, Cond.code yX5_sorts cX5_sorts 4 none, Cond.methodLink RX5 90 yX5_isAhead, Cond.instanceMethod yX5_isAhead, Cond.selects RX5 yX5_isAhead yX5_isAhead, Cond.code yX5_isAhead cX5_isAhead 3 (some .boolean)]
def wsX5_lays : List Cond := .code yX5_lays cX5_lays 8 (some .int) :: ((wsX5_lays_r1 ++ wsX5_lays_r2) ++ wsX50)
theorem mi_wsX5_lays_wsX5_lays_r1 : ∀ w ∈ wsX5_lays_r1, w ∈ wsX5_lays := fun _ h => (List.mem_cons_of_mem _ (List.mem_append_left _ (List.mem_append_left _ h)))
theorem mi_wsX5_lays_wsX50 : ∀ w ∈ wsX50, w ∈ wsX5_lays := fun _ h => (List.mem_cons_of_mem _ (List.mem_append_right _ h))
set_option maxRecDepth 20000 in
theorem ggX5_lays_X5_one : GoodIn wsX5_lays wsX5_one := goodIn_m _ [(wsX5_lays_r1, [false, false, false, false, false, false, false, false, true, true, true, true, true, true]), (wsX50, [true, true, true, true, true, true, true, true, true, true, true, true, true, true, true, true, true, true, true, true, true, true, true, true, true, true, true, true, true, true])] (gm_c mi_wsX5_lays_wsX5_lays_r1 (gm_c mi_wsX5_lays_wsX50 gm_n)) rfl (by decide +kernel)
set_option maxRecDepth 20000 in
theorem gX5_lays_X5_one : GoodIn wsX5_lays (wsV RX5 104 RX5 yX5_one wsX5_one) := goodIn_app (goodIn_m _ [(wsX5_lays_r1, [false, false, false, false, true, true, true, true])] (gm_c mi_wsX5_lays_wsX5_lays_r1 gm_n) rfl (by decide +kernel)) ggX5_lays_X5_one
set_option maxRecDepth 20000 in
theorem ggX5_lays_X5_lays : GoodIn wsX5_lays wsX5_lays := goodIn_r _ [0, 1, 2, 3, 4, 5, 6, 7, 8, 9, 10, 11, 12, 13, 14, 15, 16, 17, 18, 19, 20, 21, 22, 23, 24, 25, 26, 27, 28, 29, 30, 31, 32, 33, 34, 35, 36, 37, 38, 39, 40, 41, 42, 43, 44, 45, 46, 47, 48, 49, 50, 51, 52, 53, 54, 55, 56, 57, 58, 59, 60, 61, 62, 63, 64, 65, 66] rfl (by decide +kernel)
set_option maxRecDepth 20000 in
theorem gX5_lays_X5_lays : GoodIn wsX5_lays (wsV RX5 107 RX5 yX5_lays wsX5_lays) := goodIn_app (goodIn_m _ [(wsX5_lays_r1, [false, false, false, false, false, false, false, false, false, false, false, false, false, false, true, true, true]), (wsX5_lays_r1, [false, false, false, false, false, false, false, true])] (gm_c mi_wsX5_lays_wsX5_lays_r1 (gm_c mi_wsX5_lays_wsX5_lays_r1 gm_n)) rfl (by decide +kernel)) ggX5_lays_X5_lays
theorem mi_wsX5_lays_wsX5_lays_r2 : ∀ w ∈ wsX5_lays_r2, w ∈ wsX5_lays := fun _ h => (List.mem_cons_of_mem _ (List.mem_append_left _ (List.mem_append_right _ h)))
set_option maxRecDepth 20000 in
theorem ggX5_lays_X5_together : GoodIn wsX5_lays wsX5_together := goodIn_m _ [(wsX5_lays_r1, [false, false, false, false, false, false, false, false, false, false, false, false, false, false, false, false, false, false, false, false, true, true]), (wsX5_lays_r1, [false, false, false, false, false, false, false, false, false, true, false, false, true, true, false, false, false, false, false, false, false, false, true]), (wsX5_lays_r1, [false, false, false, false, false, false, false, false, false, false, true, false, false, false, false, false, false, false, false, false, false, false, false, true]), (wsX5_lays_r1, [false, false, false, false, false, false, false, false, false, false, false, true]), (wsX5_lays_r2, [true, true, true]), (wsX5_lays_r1, [false, false, false, false, false, false, false, true]), (wsX5_lays_r2, [false, false, false, true, true, true, true, true, true, true, true, true]), (wsX50, [true, true, true, true, true, true, true, true, true, true, true, true, true, true, true, true, true, true, true, true, true, true, true, true, true, true, true, true, true, true])] (gm_c mi_wsX5_lays_wsX5_lays_r1 (gm_c mi_wsX5_lays_wsX5_lays_r1 (gm_c mi_wsX5_lays_wsX5_lays_r1 (gm_c mi_wsX5_lays_wsX5_lays_r1 (gm_c mi_wsX5_lays_wsX5_lays_r2 (gm_c mi_wsX5_lays_wsX5_lays_r1 (gm_c mi_wsX5_lays_wsX5_lays_r2 (gm_c mi_wsX5_lays_wsX50 gm_n)))))))) rfl (by decide +kernel)
set_option maxRecDepth 20000 in
theorem gX5_lays_X5_together : GoodIn wsX5_lays (wsV RX5 111 RX5 yX5_together wsX5_together) := goodIn_app (goodIn_m _ [(wsX5_lays_r1, [false, false, false, false, false, false, false, false, false, false, false, false, false, false, false, false, false, true, true, true]), (wsX5_lays_r1, [false, false, false, false, false, false, false, true])] (gm_c mi_wsX5_lays_wsX5_lays_r1 (gm_c mi_wsX5_lays_wsX5_lays_r1 gm_n)) rfl (by decide +kernel)) ggX5_lays_X5_together
def dt_cX5_lays_0 : List (Nat × Nat × Nat × Nat) := [(0, 42, 0, 0), (1, 180, 2, 101), (4, 54, 1, 4), (6, 42, 0, 0), (7, 89, 0, 0), (8, 180, 2, 101), (11, 4, 0, 0), (12, 96, 0, 0), (13, 181, 2, 101), (16, 42, 0, 0), (17, 180, 2, 38), (20, 21, 1, 4), (22, 27, 0, 0), (23, 79, 0, 0), (24, 42, 0, 0), (25, 180, 2, 41), (28, 21, 1, 4), (30, 28, 0, 0), (31, 79, 0, 0), (32, 28, 0, 0)]
theorem da_cX5_lays_0 : fw dt_cX5_lays_0 0 cX5_lays.data.toList = true := by decide +kernel
theorem dX5_lays_0 : decode cX5_lays 0 = .ok (.aload_n 0, 1) := fo_42 (fw_get da_cX5_lays_0 0 rfl)
theorem dX5_lays_1 : decode cX5_lays 1 = .ok (.getfield 101, 3) := fo_180 (fw_get da_cX5_lays_0 1 rfl)
theorem dX5_lays_4 : decode cX5_lays 4 = .ok (.istore 4, 2) := fo_54 (fw_get da_cX5_lays_0 2 rfl)
theorem dX5_lays_6 : decode cX5_lays 6 = .ok (.aload_n 0, 1) := fo_42 (fw_get da_cX5_lays_0 3 rfl)
theorem dX5_lays_7 : decode cX5_lays 7 = .ok (.dup, 1) := fo_89 (fw_get da_cX5_lays_0 4 rfl)
theorem dX5_lays_8 : decode cX5_lays 8 = .ok (.getfield 101, 3) := fo_180 (fw_get da_cX5_lays_0 5 rfl)
theorem dX5_lays_11 : decode cX5_lays 11 = .ok (.iconst 1, 1) := fo_4 (fw_get da_cX5_lays_0 6 rfl)
theorem dX5_lays_12 : decode cX5_lays 12 = .ok (.iadd, 1) := fo_96 (fw_get da_cX5_lays_0 7 rfl)
theorem dX5_lays_13 : decode cX5_lays 13 = .ok (.putfield 101, 3) := fo_181 (fw_get da_cX5_lays_0 8 rfl)
theorem dX5_lays_16 : decode cX5_lays 16 = .ok (.aload_n 0, 1) := fo_42 (fw_get da_cX5_lays_0 9 rfl)
theorem dX5_lays_17 : decode cX5_lays 17 = .ok (.getfield 38, 3) := fo_180 (fw_get da_cX5_lays_0 10 rfl)
theorem dX5_lays_20 : decode cX5_lays 20 = .ok (.iload 4, 2) := fo_21 (fw_get da_cX5_lays_0 11 rfl)
theorem dX5_lays_22 : decode cX5_lays 22 = .ok (.iload_n 1, 1) := fo_27 (fw_get da_cX5_lays_0 12 rfl)
theorem dX5_lays_23 : decode cX5_lays 23 = .ok (.iastore, 1) := fo_79 (fw_get da_cX5_lays_0 13 rfl)
theorem dX5_lays_24 : decode cX5_lays 24 = .ok (.aload_n 0, 1) := fo_42 (fw_get da_cX5_lays_0 14 rfl)
theorem dX5_lays_25 : decode cX5_lays 25 = .ok (.getfield 41, 3) := fo_180 (fw_get da_cX5_lays_0 15 rfl)
theorem dX5_lays_28 : decode cX5_lays 28 = .ok (.iload 4, 2) := fo_21 (fw_get da_cX5_lays_0 16 rfl)
theorem dX5_lays_30 : decode cX5_lays 30 = .ok (.iload_n 2, 1) := fo_28 (fw_get da_cX5_lays_0 17 rfl)
theorem dX5_lays_31 : decode cX5_lays 31 = .ok (.iastore, 1) := fo_79 (fw_get da_cX5_lays_0 18 rfl)
theorem dX5_lays_32 : decode cX5_lays 32 = .ok (.iload_n 2, 1) := fo_28 (fw_get da_cX5_lays_0 19 rfl)
def dt_cX5_lays_1 : List (Nat × Nat × Nat × Nat) := [(33, 27, 0, 0), (34, 100, 0, 0), (35, 4, 0, 0), (36, 160, 2, 18), (39, 42, 0, 0), (40, 21, 1, 4), (42, 42, 0, 0), (43, 180, 2, 7), (46, 27, 0, 0), (47, 46, 0, 0), (48, 182, 2, 104), (51, 21, 1, 4), (53, 172, 0, 0), (54, 27, 0, 0), (55, 28, 0, 0), (56, 96, 0, 0), (57, 5, 0, 0), (58, 108, 0, 0), (59, 54, 1, 5), (61, 42, 0, 0)]
theorem da_cX5_lays_1 : fw dt_cX5_lays_1 0 cX5_lays.data.toList = true := by decide +kernel
theorem dX5_lays_33 : decode cX5_lays 33 = .ok (.iload_n 1, 1) := fo_27 (fw_get da_cX5_lays_1 0 rfl)
theorem dX5_lays_34 : decode cX5_lays 34 = .ok (.isub, 1) := fo_100 (fw_get da_cX5_lays_1 1 rfl)
theorem dX5_lays_35 : decode cX5_lays 35 = .ok (.iconst 1, 1) := fo_4 (fw_get da_cX5_lays_1 2 rfl)
theorem dX5_lays_36 : decode cX5_lays 36 = .ok (.if_icmp .ne 18, 3) := fo_160 (fw_get da_cX5_lays_1 3 rfl) (by decide +kernel)
theorem dX5_lays_39 : decode cX5_lays 39 = .ok (.aload_n 0, 1) := fo_42 (fw_get da_cX5_lays_1 4 rfl)
theorem dX5_lays_40 : decode cX5_lays 40 = .ok (.iload 4, 2) := fo_21 (fw_get da_cX5_lays_1 5 rfl)
theorem dX5_lays_42 : decode cX5_lays 42 = .ok (.aload_n 0, 1) := fo_42 (fw_get da_cX5_lays_1 6 rfl)
theorem dX5_lays_43 : decode cX5_lays 43 = .ok (.getfield 7, 3) := fo_180 (fw_get da_cX5_lays_1 7 rfl)
theorem dX5_lays_46 : decode cX5_lays 46 = .ok (.iload_n 1, 1) := fo_27 (fw_get da_cX5_lays_1 8 rfl)
theorem dX5_lays_47 : decode cX5_lays 47 = .ok (.iaload, 1) := fo_46 (fw_get da_cX5_lays_1 9 rfl)
theorem dX5_lays_48 : decode cX5_lays 48 = .ok (.invokevirtual 104, 3) := fo_182 (fw_get da_cX5_lays_1 10 rfl)
theorem dX5_lays_51 : decode cX5_lays 51 = .ok (.iload 4, 2) := fo_21 (fw_get da_cX5_lays_1 11 rfl)
theorem dX5_lays_53 : decode cX5_lays 53 = .ok (.ireturn, 1) := fo_172 (fw_get da_cX5_lays_1 12 rfl)
theorem dX5_lays_54 : decode cX5_lays 54 = .ok (.iload_n 1, 1) := fo_27 (fw_get da_cX5_lays_1 13 rfl)
theorem dX5_lays_55 : decode cX5_lays 55 = .ok (.iload_n 2, 1) := fo_28 (fw_get da_cX5_lays_1 14 rfl)
theorem dX5_lays_56 : decode cX5_lays 56 = .ok (.iadd, 1) := fo_96 (fw_get da_cX5_lays_1 15 rfl)
theorem dX5_lays_57 : decode cX5_lays 57 = .ok (.iconst 2, 1) := fo_5 (fw_get da_cX5_lays_1 16 rfl)
theorem dX5_lays_58 : decode cX5_lays 58 = .ok (.idiv, 1) := fo_108 (fw_get da_cX5_lays_1 17 rfl)
theorem dX5_lays_59 : decode cX5_lays 59 = .ok (.istore 5, 2) := fo_54 (fw_get da_cX5_lays_1 18 rfl)
theorem dX5_lays_61 : decode cX5_lays 61 = .ok (.aload_n 0, 1) := fo_42 (fw_get da_cX5_lays_1 19 rfl)
def dt_cX5_lays_2 : List (Nat × Nat × Nat × Nat) := [(62, 27, 0, 0), (63, 21, 1, 5), (65, 29, 0, 0), (66, 182, 2, 107), (69, 54, 1, 6), (71, 42, 0, 0), (72, 21, 1, 5), (74, 28, 0, 0), (75, 29, 0, 0), (76, 182, 2, 107), (79, 54, 1, 7), (81, 42, 0, 0), (82, 21, 1, 6), (84, 21, 1, 7), (86, 21, 1, 4), (88, 29, 0, 0), (89, 182, 2, 111), (92, 21, 1, 4), (94, 172, 0, 0)]
theorem da_cX5_lays_2 : fw dt_cX5_lays_2 0 cX5_lays.data.toList = true := by decide +kernel
theorem dX5_lays_62 : decode cX5_lays 62 = .ok (.iload_n 1, 1) := fo_27 (fw_get da_cX5_lays_2 0 rfl)
theorem dX5_lays_63 : decode cX5_lays 63 = .ok (.iload 5, 2) := fo_21 (fw_get da_cX5_lays_2 1 rfl)
theorem dX5_lays_65 : decode cX5_lays 65 = .ok (.iload_n 3, 1) := fo_29 (fw_get da_cX5_lays_2 2 rfl)
theorem dX5_lays_66 : decode cX5_lays 66 = .ok (.invokevirtual 107, 3) := fo_182 (fw_get da_cX5_lays_2 3 rfl)
theorem dX5_lays_69 : decode cX5_lays 69 = .ok (.istore 6, 2) := fo_54 (fw_get da_cX5_lays_2 4 rfl)
theorem dX5_lays_71 : decode cX5_lays 71 = .ok (.aload_n 0, 1) := fo_42 (fw_get da_cX5_lays_2 5 rfl)
theorem dX5_lays_72 : decode cX5_lays 72 = .ok (.iload 5, 2) := fo_21 (fw_get da_cX5_lays_2 6 rfl)
theorem dX5_lays_74 : decode cX5_lays 74 = .ok (.iload_n 2, 1) := fo_28 (fw_get da_cX5_lays_2 7 rfl)
theorem dX5_lays_75 : decode cX5_lays 75 = .ok (.iload_n 3, 1) := fo_29 (fw_get da_cX5_lays_2 8 rfl)
theorem dX5_lays_76 : decode cX5_lays 76 = .ok (.invokevirtual 107, 3) := fo_182 (fw_get da_cX5_lays_2 9 rfl)
theorem dX5_lays_79 : decode cX5_lays 79 = .ok (.istore 7, 2) := fo_54 (fw_get da_cX5_lays_2 10 rfl)
theorem dX5_lays_81 : decode cX5_lays 81 = .ok (.aload_n 0, 1) := fo_42 (fw_get da_cX5_lays_2 11 rfl)
theorem dX5_lays_82 : decode cX5_lays 82 = .ok (.iload 6, 2) := fo_21 (fw_get da_cX5_lays_2 12 rfl)
theorem dX5_lays_84 : decode cX5_lays 84 = .ok (.iload 7, 2) := fo_21 (fw_get da_cX5_lays_2 13 rfl)
theorem dX5_lays_86 : decode cX5_lays 86 = .ok (.iload 4, 2) := fo_21 (fw_get da_cX5_lays_2 14 rfl)
theorem dX5_lays_88 : decode cX5_lays 88 = .ok (.iload_n 3, 1) := fo_29 (fw_get da_cX5_lays_2 15 rfl)
theorem dX5_lays_89 : decode cX5_lays 89 = .ok (.invokevirtual 111, 3) := fo_182 (fw_get da_cX5_lays_2 16 rfl)
theorem dX5_lays_92 : decode cX5_lays 92 = .ok (.iload 4, 2) := fo_21 (fw_get da_cX5_lays_2 17 rfl)
theorem dX5_lays_94 : decode cX5_lays 94 = .ok (.ireturn, 1) := fo_172 (fw_get da_cX5_lays_2 18 rfl)


set_option maxHeartbeats 4000000 in
set_option maxRecDepth 100000 in
theorem c_X5_one_x (l : Launch) (dC : Nat → ClassId) (dI : Nat → Nat → Nat) (h0 : Nat) (g_row : Nat) (g_many : Nat) (g_loss : Nat) (g_less : Nat) (g_voteValue : Nat) (g_voteNumber : Nat) (g_allValue : Nat) (g_allNumber : Nat) (g_nodeL : Nat) (g_nodeR : Nat) (g_part : Nat) (g_wasMany : Nat) (g_wasLoss : Nat) (g_wasValue : Nat) (g_wasNumber : Nat) (g_path : Nat) (g_heavyValue : Nat) (g_heavyTimes : Nat) (g_fewest : Nat) (g_which : Nat) (g_met : Nat) (m_n : Int32) (m_slots : Int32) (m_thrown : Int32) (m_allMany : Int32) (m_nodes : Int32) (m_partMany : Int32) (m_pathMany : Int32) (m_heavyMany : Int32) (m_mostMet : Int32) (cyI : ClassId) (fm : Nat → Int32) (fl : Nat → Int32) (fe : Nat → Int32) (vv : Nat → Int32) (vn : Nat → Int32) (p0 : Int32) (p1 : Int32) (sz : Nat) (b0 : 0 ≤ p0.toInt) (b1 : p0.toInt < 324) : kx_MQ l (dC, dI) yX5_one wsX5_one ({ frames := 0, cells := 0, slots := 0, locals := 0 }) [.ref h0, .int p0, .int p1] [kx_5 h0 g_row m_n m_slots m_thrown g_many g_loss g_less g_voteValue g_voteNumber g_allValue g_allNumber m_allMany g_nodeL g_nodeR m_nodes g_part m_partMany g_wasMany g_wasLoss g_wasValue g_wasNumber g_path m_pathMany g_heavyValue g_heavyTimes m_heavyMany g_fewest g_which g_met m_mostMet, kx_a g_many cyI 324 fm, kx_a g_loss cyI 324 fl, kx_a g_less cyI 324 fe, kx_a g_voteValue cyI 1944 vv, kx_a g_voteNumber cyI 1944 vn] [(cyI, .int)] sz (fun A => va_Qv (fun u : (Nat → Int32) × (Nat → Int32) × (Nat → Int32) × (Nat → Int32) × (Nat → Int32) => u.1 = upd fm p0.toNatClampNeg 1 ∧ u.2.1 = upd fl p0.toNatClampNeg 0 ∧ u.2.2.1 = upd fe p0.toNatClampNeg 0 ∧ u.2.2.2.1 = upd vv (6 * p0.toNatClampNeg) p1 ∧ u.2.2.2.2 = upd vn (6 * p0.toNatClampNeg) 1) (fun (u : (Nat → Int32) × (Nat → Int32) × (Nat → Int32) × (Nat → Int32) × (Nat → Int32)) (t : State) => va_P (dC, dI) vwCl [kx_5 h0 g_row m_n m_slots m_thrown g_many g_loss g_less g_voteValue g_voteNumber g_allValue g_allNumber m_allMany g_nodeL g_nodeR m_nodes g_part m_partMany g_wasMany g_wasLoss g_wasValue g_wasNumber g_path m_pathMany g_heavyValue g_heavyTimes m_heavyMany g_fewest g_which g_met m_mostMet, kx_a g_many cyI 324 u.1, kx_a g_loss cyI 324 u.2.1, kx_a g_less cyI 324 u.2.2.1, kx_a g_voteValue cyI 1944 u.2.2.2.1, kx_a g_voteNumber cyI 1944 u.2.2.2.2] t.heap ∧ va_K (dC, dI) vwCl [(cyI, .int)] t ∧ va_D A [kx_5 h0 g_row m_n m_slots m_thrown g_many g_loss g_less g_voteValue g_voteNumber g_allValue g_allNumber m_allMany g_nodeL g_nodeR m_nodes g_part m_partMany g_wasMany g_wasLoss g_wasValue g_wasNumber g_path m_pathMany g_heavyValue g_heavyTimes m_heavyMany g_fewest g_which g_met m_mostMet, kx_a g_many cyI 324 u.1, kx_a g_loss cyI 324 u.2.1, kx_a g_less cyI 324 u.2.2.1, kx_a g_voteValue cyI 1944 u.2.2.2.1, kx_a g_voteNumber cyI 1944 u.2.2.2.2]) A) := by
  refine kx_stQ (ws := wsX5_one) (cc := cX5_one) (maxL := 3) (ret := none) (by decide) rfl (Nat.le_of_ble_eq_true rfl) ?_
  intro p e s m below meth c A ls hx hb hr hlocks hts hown hml hA hS hP hK hD hl
  have hown : s.vm.findClass RX5 = some m.cls := hown
  have hl : lv_has ls 3 [(0, .ref h0), (1, .int p0), (2, .int p1)] := hl
  have hf_17 := hts (.fieldLink RX5 17 "MajorityIndexModel" "many" "[I") (List.mem_of_getElem? (i := 1) rfl)
  have hi_5 : ∀ w ∈ u_ws RX5 TX5 30, w ∈ wsX5_one := fun w h => List.mem_cons_of_mem _ (List.mem_append_right _ h)
  have hf_20 := hts (.fieldLink RX5 20 "MajorityIndexModel" "loss" "[I") (List.mem_of_getElem? (i := 2) rfl)
  have hf_23 := hts (.fieldLink RX5 23 "MajorityIndexModel" "less" "[I") (List.mem_of_getElem? (i := 3) rfl)
  have hf_26 := hts (.fieldLink RX5 26 "MajorityIndexModel" "voteValue" "[I") (List.mem_of_getElem? (i := 4) rfl)
  have hf_29 := hts (.fieldLink RX5 29 "MajorityIndexModel" "voteNumber" "[I") (List.mem_of_getElem? (i := 5) rfl)
  refine lv_aload_n hx hb dX5_one_0 rfl (lv_at hl 0 rfl) ?_
  refine va_get (D := (dC, dI)) (ci := 5) (v := .ref g_many) (C := RX5) (T := TX5) (N := 30) hx hb hts hi_5 hown hK hP 0 rfl rfl 4 (by decide) hf_17 (fun _ h9 => h9) rfl dX5_one_1 ?_
  refine lv_iload_n hx hb dX5_one_4 rfl (lv_at hl 1 rfl) ?_
  refine lv_iconst (v := 1) hx hb dX5_one_5 (by decide) ?_
  refine va_iast hx hb hK hP hD hS 1 0 rfl rfl (ki_in (om_10 b0) (om_246 b1)) dX5_one_6 (fun H locs hP hD hS => ?_)
  obtain ⟨hP, hD⟩ := kx_re (w2 := [kx_5 h0 g_row m_n m_slots m_thrown g_many g_loss g_less g_voteValue g_voteNumber g_allValue g_allNumber m_allMany g_nodeL g_nodeR m_nodes g_part m_partMany g_wasMany g_wasLoss g_wasValue g_wasNumber g_path m_pathMany g_heavyValue g_heavyTimes m_heavyMany g_fewest g_which g_met m_mostMet, kx_a g_many cyI 324 (upd fm p0.toNatClampNeg 1), kx_a g_loss cyI 324 fl, kx_a g_less cyI 324 fe, kx_a g_voteValue cyI 1944 vv, kx_a g_voteNumber cyI 1944 vn]) hP hD rfl
  refine lv_aload_n hx hb dX5_one_7 rfl (lv_at hl 0 rfl) ?_
  refine va_get (D := (dC, dI)) (ci := 5) (v := .ref g_loss) (C := RX5) (T := TX5) (N := 30) hx hb hts hi_5 hown hK hP 0 rfl rfl 5 (by decide) hf_20 (fun _ h9 => h9) rfl dX5_one_8 ?_
  refine lv_iload_n hx hb dX5_one_11 rfl (lv_at hl 1 rfl) ?_
  refine lv_iconst (v := 0) hx hb dX5_one_12 (by decide) ?_
  refine va_iast hx hb hK hP hD hS 2 0 rfl rfl (ki_in (om_10 b0) (om_246 b1)) dX5_one_13 (fun H locs hP hD hS => ?_)
  obtain ⟨hP, hD⟩ := kx_re (w2 := [kx_5 h0 g_row m_n m_slots m_thrown g_many g_loss g_less g_voteValue g_voteNumber g_allValue g_allNumber m_allMany g_nodeL g_nodeR m_nodes g_part m_partMany g_wasMany g_wasLoss g_wasValue g_wasNumber g_path m_pathMany g_heavyValue g_heavyTimes m_heavyMany g_fewest g_which g_met m_mostMet, kx_a g_many cyI 324 (upd fm p0.toNatClampNeg 1), kx_a g_loss cyI 324 (upd fl p0.toNatClampNeg 0), kx_a g_less cyI 324 fe, kx_a g_voteValue cyI 1944 vv, kx_a g_voteNumber cyI 1944 vn]) hP hD rfl
  refine lv_aload_n hx hb dX5_one_14 rfl (lv_at hl 0 rfl) ?_
  refine va_get (D := (dC, dI)) (ci := 5) (v := .ref g_less) (C := RX5) (T := TX5) (N := 30) hx hb hts hi_5 hown hK hP 0 rfl rfl 6 (by decide) hf_23 (fun _ h9 => h9) rfl dX5_one_15 ?_
  refine lv_iload_n hx hb dX5_one_18 rfl (lv_at hl 1 rfl) ?_
  refine lv_iconst (v := 0) hx hb dX5_one_19 (by decide) ?_
  refine va_iast hx hb hK hP hD hS 3 0 rfl rfl (ki_in (om_10 b0) (om_246 b1)) dX5_one_20 (fun H locs hP hD hS => ?_)
  obtain ⟨hP, hD⟩ := kx_re (w2 := [kx_5 h0 g_row m_n m_slots m_thrown g_many g_loss g_less g_voteValue g_voteNumber g_allValue g_allNumber m_allMany g_nodeL g_nodeR m_nodes g_part m_partMany g_wasMany g_wasLoss g_wasValue g_wasNumber g_path m_pathMany g_heavyValue g_heavyTimes m_heavyMany g_fewest g_which g_met m_mostMet, kx_a g_many cyI 324 (upd fm p0.toNatClampNeg 1), kx_a g_loss cyI 324 (upd fl p0.toNatClampNeg 0), kx_a g_less cyI 324 (upd fe p0.toNatClampNeg 0), kx_a g_voteValue cyI 1944 vv, kx_a g_voteNumber cyI 1944 vn]) hP hD rfl
  refine lv_aload_n hx hb dX5_one_21 rfl (lv_at hl 0 rfl) ?_
  refine va_get (D := (dC, dI)) (ci := 5) (v := .ref g_voteValue) (C := RX5) (T := TX5) (N := 30) hx hb hts hi_5 hown hK hP 0 rfl rfl 7 (by decide) hf_26 (fun _ h9 => h9) rfl dX5_one_22 ?_
  refine lv_bipush (v := 6) hx hb dX5_one_25 (by decide) ?_
  refine lv_iload_n hx hb dX5_one_27 rfl (lv_at hl 1 rfl) ?_
  refine lv_imul hx hb dX5_one_28 ?_
  refine lv_topi (fun y_1 ey_1 => ?_)
  have i_1 : y_1.toInt = 6 * p0.toInt := ki_mul ey_1 rfl rfl (om_247 b0) (om_248 b1)
  refine lv_iload_n hx hb dX5_one_29 rfl (lv_at hl 2 rfl) ?_
  refine va_iast hx hb hK hP hD hS 4 0 rfl rfl (ki_in (om_249 b0 i_1) (om_250 b1 i_1)) dX5_one_30 (fun H locs hP hD hS => ?_)
  obtain ⟨hP, hD⟩ := kx_re (w2 := [kx_5 h0 g_row m_n m_slots m_thrown g_many g_loss g_less g_voteValue g_voteNumber g_allValue g_allNumber m_allMany g_nodeL g_nodeR m_nodes g_part m_partMany g_wasMany g_wasLoss g_wasValue g_wasNumber g_path m_pathMany g_heavyValue g_heavyTimes m_heavyMany g_fewest g_which g_met m_mostMet, kx_a g_many cyI 324 (upd fm p0.toNatClampNeg 1), kx_a g_loss cyI 324 (upd fl p0.toNatClampNeg 0), kx_a g_less cyI 324 (upd fe p0.toNatClampNeg 0), kx_a g_voteValue cyI 1944 (upd vv y_1.toNatClampNeg p1), kx_a g_voteNumber cyI 1944 vn]) hP hD rfl
  refine lv_aload_n hx hb dX5_one_31 rfl (lv_at hl 0 rfl) ?_
  refine va_get (D := (dC, dI)) (ci := 5) (v := .ref g_voteNumber) (C := RX5) (T := TX5) (N := 30) hx hb hts hi_5 hown hK hP 0 rfl rfl 8 (by decide) hf_29 (fun _ h9 => h9) rfl dX5_one_32 ?_
  refine lv_bipush (v := 6) hx hb dX5_one_35 (by decide) ?_
  refine lv_iload_n hx hb dX5_one_37 rfl (lv_at hl 1 rfl) ?_
  refine lv_imul hx hb dX5_one_38 ?_
  refine lv_topi (fun y_2 ey_2 => ?_)
  have i_2 : y_2.toInt = 6 * p0.toInt := ki_mul ey_2 rfl rfl (om_247 b0) (om_248 b1)
  refine lv_iconst (v := 1) hx hb dX5_one_39 (by decide) ?_
  refine va_iast hx hb hK hP hD hS 5 0 rfl rfl (ki_in (om_249 b0 i_2) (om_250 b1 i_2)) dX5_one_40 (fun H locs hP hD hS => ?_)
  obtain ⟨hP, hD⟩ := kx_re (w2 := [kx_5 h0 g_row m_n m_slots m_thrown g_many g_loss g_less g_voteValue g_voteNumber g_allValue g_allNumber m_allMany g_nodeL g_nodeR m_nodes g_part m_partMany g_wasMany g_wasLoss g_wasValue g_wasNumber g_path m_pathMany g_heavyValue g_heavyTimes m_heavyMany g_fewest g_which g_met m_mostMet, kx_a g_many cyI 324 (upd fm p0.toNatClampNeg 1), kx_a g_loss cyI 324 (upd fl p0.toNatClampNeg 0), kx_a g_less cyI 324 (upd fe p0.toNatClampNeg 0), kx_a g_voteValue cyI 1944 (upd vv y_1.toNatClampNeg p1), kx_a g_voteNumber cyI 1944 (upd vn y_2.toNatClampNeg 1)]) hP hD rfl
  have hP9 := hP
  have hD9 := hD
  have hK9 := hK
  have n_3 := ki_nat y_1 rfl (om_249 b0 i_1)
  have n_4 := ki_nat y_2 rfl (om_249 b0 i_2)
  have n_5 := ki_nat p0 rfl (om_10 b0)
  exact W.vret hx hb hr (hlocks := hlocks) (fun t ht hW => ⟨⟨((upd fm p0.toNatClampNeg 1), (upd fl p0.toNatClampNeg 0), (upd fe p0.toNatClampNeg 0), (upd vv y_1.toNatClampNeg p1), (upd vn y_2.toNatClampNeg 1)), rfl, ⟨rfl, rfl, rfl, (by (try dsimp only); rw [show y_1.toNatClampNeg = 6 * p0.toNatClampNeg by omega]), (by (try dsimp only); rw [show y_2.toNatClampNeg = 6 * p0.toNatClampNeg by omega])⟩, by rw [ht]; exact hP9, va_K.moved hW.alike hK9, hD9⟩, hS.F ht⟩) hS.2.2 dX5_one_41

theorem mj_ly9 {p0 p1 a y12 yd s z oL : Int} {l r A Y M O : Nat} (n0 : (l : Int) = p0) (n1 : (r : Int) = p1) (na : (A : Int) = a) (ny : (Y : Int) = y12) (nm : (M : Int) = yd) (no : (O : Int) = oL) (i1 : y12 = a + 1) (i4 : s = p0 + p1) (i5 : yd = s / 2) (w2 : oL = y12 + 2 * (yd - p0) - 1) (b1 : p0 < p1) (iz : z = p1 - p0) (ne : ¬ z = 1) : Y + 2 * (M - l) - 1 ≤ O ∧ M = (l + r) / 2 ∧ l + 2 ≤ r ∧ Y = A + 1 ∧ O = A + 2 * (M - l) ∧ A + 1 ≤ Y := by
  refine ⟨?_, ?_, ?_, ?_, ?_, ?_⟩ <;> omega
theorem mj_lf9 {p0 p1 z : Int} {l r : Nat} (n0 : (l : Int) = p0) (n1 : (r : Int) = p1) (iz : z = p1 - p0) (e : z = 1) : r = l + 1 := by omega
theorem mj_ln1 {K : Nat} {x : Int} (n : (K : Int) = x) (h : 1 ≤ x) : 1 ≤ K := by omega
theorem mj_ln6 {K : Nat} {x : Int} (n : (K : Int) = x) (h : x ≤ 6) : K ≤ 6 := by omega

set_option maxHeartbeats 4000000 in
set_option maxRecDepth 100000 in
theorem c_X5_lays_0 (l : Launch) (dC : Nat → ClassId) (dI : Nat → Nat → Nat) (h0 : Nat) (g_row : Nat) (g_many : Nat) (g_loss : Nat) (g_less : Nat) (g_voteValue : Nat) (g_voteNumber : Nat) (g_allValue : Nat) (g_allNumber : Nat) (g_nodeL : Nat) (g_nodeR : Nat) (g_part : Nat) (g_wasMany : Nat) (g_wasLoss : Nat) (g_wasValue : Nat) (g_wasNumber : Nat) (g_path : Nat) (g_heavyValue : Nat) (g_heavyTimes : Nat) (g_fewest : Nat) (g_which : Nat) (g_met : Nat) (m_n : Int32) (m_slots : Int32) (m_thrown : Int32) (m_allMany : Int32) (m_nodes : Int32) (m_partMany : Int32) (m_pathMany : Int32) (m_heavyMany : Int32) (m_mostMet : Int32) (cyI : ClassId) (fm : Nat → Int32) (fl : Nat → Int32) (fe : Nat → Int32) (vv : Nat → Int32) (vn : Nat → Int32) (f : Nat → Int32) (av : Nat → Int32) (an : Nat → Int32) (nl : Nat → Int32) (nr : Nat → Int32) (p0 : Int32) (p1 : Int32) (p2 : Int32) (sz : Nat) (b0 : 0 ≤ p0.toInt) (b1 : p0.toInt < p1.toInt) (b2 : p1.toInt ≤ 160) (b3 : 1 ≤ p2.toInt) (b4 : p2.toInt ≤ 6) (b5 : 0 ≤ m_nodes.toInt) (b6 : m_nodes.toInt + 2 * (p1.toInt - p0.toInt) - 1 ≤ 319) (s4 : six4 fm) (b7 : p1.toInt - p0.toInt ≤ 1) : kx_MQ l (dC, dI) yX5_lays wsX5_lays ({ frames := 1, cells := 0, slots := 0, locals := 45 }) [.ref h0, .int p0, .int p1, .int p2] [kx_5 h0 g_row m_n m_slots m_thrown g_many g_loss g_less g_voteValue g_voteNumber g_allValue g_allNumber m_allMany g_nodeL g_nodeR m_nodes g_part m_partMany g_wasMany g_wasLoss g_wasValue g_wasNumber g_path m_pathMany g_heavyValue g_heavyTimes m_heavyMany g_fewest g_which g_met m_mostMet, kx_a g_row cyI 160 f, kx_a g_many cyI 324 fm, kx_a g_loss cyI 324 fl, kx_a g_less cyI 324 fe, kx_a g_voteValue cyI 1944 vv, kx_a g_voteNumber cyI 1944 vn, kx_a g_allValue cyI 12 av, kx_a g_allNumber cyI 12 an, kx_a g_nodeL cyI 320 nl, kx_a g_nodeR cyI 320 nr] [(cyI, .int)] sz (fun A => va_Qi (fun (r : Int32) (u : Int32 × Int32 × (Nat → Int32) × (Nat → Int32) × (Nat → Int32) × (Nat → Int32) × (Nat → Int32) × (Nat → Int32) × (Nat → Int32) × (Nat → Int32) × (Nat → Int32)) => r = m_nodes ∧ u.1.toInt = m_nodes.toInt + 2 * (p1.toInt - p0.toInt) - 1 ∧ six4 u.2.2.1 ∧ mj_S p2.toNatClampNeg f u.2.2.2.2.2.2.2.2.2.1 u.2.2.2.2.2.2.2.2.2.2 u.2.2.1 u.2.2.2.1 u.2.2.2.2.1 u.2.2.2.2.2.1 u.2.2.2.2.2.2.1 0 m_nodes.toNatClampNeg p0.toNatClampNeg p1.toNatClampNeg ∧ mj_ag 0 m_nodes.toNatClampNeg nl nr fm fl fe vv vn u.2.2.2.2.2.2.2.2.2.1 u.2.2.2.2.2.2.2.2.2.2 u.2.2.1 u.2.2.2.1 u.2.2.2.2.1 u.2.2.2.2.2.1 u.2.2.2.2.2.2.1) (fun (u : Int32 × Int32 × (Nat → Int32) × (Nat → Int32) × (Nat → Int32) × (Nat → Int32) × (Nat → Int32) × (Nat → Int32) × (Nat → Int32) × (Nat → Int32) × (Nat → Int32)) (t : State) => va_P (dC, dI) vwCl [kx_5 h0 g_row m_n m_slots m_thrown g_many g_loss g_less g_voteValue g_voteNumber g_allValue g_allNumber u.2.1 g_nodeL g_nodeR u.1 g_part m_partMany g_wasMany g_wasLoss g_wasValue g_wasNumber g_path m_pathMany g_heavyValue g_heavyTimes m_heavyMany g_fewest g_which g_met m_mostMet, kx_a g_row cyI 160 f, kx_a g_many cyI 324 u.2.2.1, kx_a g_loss cyI 324 u.2.2.2.1, kx_a g_less cyI 324 u.2.2.2.2.1, kx_a g_voteValue cyI 1944 u.2.2.2.2.2.1, kx_a g_voteNumber cyI 1944 u.2.2.2.2.2.2.1, kx_a g_allValue cyI 12 u.2.2.2.2.2.2.2.1, kx_a g_allNumber cyI 12 u.2.2.2.2.2.2.2.2.1, kx_a g_nodeL cyI 320 u.2.2.2.2.2.2.2.2.2.1, kx_a g_nodeR cyI 320 u.2.2.2.2.2.2.2.2.2.2] t.heap ∧ va_K (dC, dI) vwCl [(cyI, .int)] t ∧ va_D A [kx_5 h0 g_row m_n m_slots m_thrown g_many g_loss g_less g_voteValue g_voteNumber g_allValue g_allNumber u.2.1 g_nodeL g_nodeR u.1 g_part m_partMany g_wasMany g_wasLoss g_wasValue g_wasNumber g_path m_pathMany g_heavyValue g_heavyTimes m_heavyMany g_fewest g_which g_met m_mostMet, kx_a g_row cyI 160 f, kx_a g_many cyI 324 u.2.2.1, kx_a g_loss cyI 324 u.2.2.2.1, kx_a g_less cyI 324 u.2.2.2.2.1, kx_a g_voteValue cyI 1944 u.2.2.2.2.2.1, kx_a g_voteNumber cyI 1944 u.2.2.2.2.2.2.1, kx_a g_allValue cyI 12 u.2.2.2.2.2.2.2.1, kx_a g_allNumber cyI 12 u.2.2.2.2.2.2.2.2.1, kx_a g_nodeL cyI 320 u.2.2.2.2.2.2.2.2.2.1, kx_a g_nodeR cyI 320 u.2.2.2.2.2.2.2.2.2.2]) A) := by
  refine kx_stQ (ws := wsX5_lays) (cc := cX5_lays) (maxL := 8) (ret := (some .int)) (by decide) rfl (Nat.le_of_ble_eq_true rfl) ?_
  intro p e s m below meth c A ls hx hb hr hlocks hts hown hml hA hS hP hK hD hl
  have hown : s.vm.findClass RX5 = some m.cls := hown
  have hl : lv_has ls 8 [(0, .ref h0), (1, .int p0), (2, .int p1), (3, .int p2)] := hl
  have hf_101 := hts (.fieldLink RX5 101 "MajorityIndexModel" "nodes" "I") (List.mem_of_getElem? (i := 1) rfl)
  have hi_5 : ∀ w ∈ u_ws RX5 TX5 30, w ∈ wsX5_lays := fun w h => List.mem_cons_of_mem _ (List.mem_append_right _ h)
  have hf_38 := hts (.fieldLink RX5 38 "MajorityIndexModel" "nodeL" "[I") (List.mem_of_getElem? (i := 2) rfl)
  have hf_41 := hts (.fieldLink RX5 41 "MajorityIndexModel" "nodeR" "[I") (List.mem_of_getElem? (i := 3) rfl)
  have hf_7 := hts (.fieldLink RX5 7 "MajorityIndexModel" "row" "[I") (List.mem_of_getElem? (i := 4) rfl)
  refine lv_aload_n hx hb dX5_lays_0 rfl (lv_at hl 0 rfl) ?_
  refine va_get (D := (dC, dI)) (ci := 5) (v := .int m_nodes) (C := RX5) (T := TX5) (N := 30) hx hb hts hi_5 hown hK hP 0 rfl rfl 14 (by decide) hf_101 (fun _ h9 => h9) rfl dX5_lays_1 ?_
  refine lv_istore (lv' := [(4, .int m_nodes), (0, .ref h0), (1, .int p0), (2, .int p1), (3, .int p2)]) hx hb dX5_lays_4 hl (by decide) rfl (fun ls hl => ?_)
  refine lv_aload_n hx hb dX5_lays_6 rfl (lv_at hl 1 rfl) ?_
  refine lv_dup hx hb dX5_lays_7 rfl ?_
  refine va_get (D := (dC, dI)) (ci := 5) (v := .int m_nodes) (C := RX5) (T := TX5) (N := 30) hx hb hts hi_5 hown hK hP 0 rfl rfl 14 (by decide) hf_101 (fun _ h9 => h9) rfl dX5_lays_8 ?_
  refine lv_iconst (v := 1) hx hb dX5_lays_11 (by decide) ?_
  refine lv_iadd hx hb dX5_lays_12 ?_
  refine lv_topi (fun y_1 ey_1 => ?_)
  have i_1 : y_1.toInt = m_nodes.toInt + 1 := ki_add ey_1 rfl rfl (om_13 b5) (om_324 b1 b6)
  refine va_put (D := (dC, dI)) (ci := 5) (v := .int y_1) (ty := .int) (C := RX5) (T := TX5) (N := 30) hx hb hts hi_5 tyX5 tyX5_ok nmX5 hown hK hP hD hS 0 rfl rfl 14 (by decide) hf_101 (fun _ h9 => h9) rfl (by decide +kernel) rfl rfl (Nat.le_of_ble_eq_true rfl) dX5_lays_13 (fun H locs hP hD hS => ?_)
  obtain ⟨hP, hD⟩ := kx_re (w2 := [kx_5 h0 g_row m_n m_slots m_thrown g_many g_loss g_less g_voteValue g_voteNumber g_allValue g_allNumber m_allMany g_nodeL g_nodeR y_1 g_part m_partMany g_wasMany g_wasLoss g_wasValue g_wasNumber g_path m_pathMany g_heavyValue g_heavyTimes m_heavyMany g_fewest g_which g_met m_mostMet, kx_a g_row cyI 160 f, kx_a g_many cyI 324 fm, kx_a g_loss cyI 324 fl, kx_a g_less cyI 324 fe, kx_a g_voteValue cyI 1944 vv, kx_a g_voteNumber cyI 1944 vn, kx_a g_allValue cyI 12 av, kx_a g_allNumber cyI 12 an, kx_a g_nodeL cyI 320 nl, kx_a g_nodeR cyI 320 nr]) hP hD rfl
  refine lv_aload_n hx hb dX5_lays_16 rfl (lv_at hl 1 rfl) ?_
  refine va_get (D := (dC, dI)) (ci := 5) (v := .ref g_nodeL) (C := RX5) (T := TX5) (N := 30) hx hb hts hi_5 hown hK hP 0 rfl rfl 12 (by decide) hf_38 (fun _ h9 => h9) rfl dX5_lays_17 ?_
  refine lv_iload hx hb dX5_lays_20 (lv_at hl 0 rfl) ?_
  refine lv_iload_n hx hb dX5_lays_22 rfl (lv_at hl 2 rfl) ?_
  refine va_iast hx hb hK hP hD hS 9 0 rfl rfl (ki_in (om_10 b5) (om_325 b1 b6)) dX5_lays_23 (fun H locs hP hD hS => ?_)
  obtain ⟨hP, hD⟩ := kx_re (w2 := [kx_5 h0 g_row m_n m_slots m_thrown g_many g_loss g_less g_voteValue g_voteNumber g_allValue g_allNumber m_allMany g_nodeL g_nodeR y_1 g_part m_partMany g_wasMany g_wasLoss g_wasValue g_wasNumber g_path m_pathMany g_heavyValue g_heavyTimes m_heavyMany g_fewest g_which g_met m_mostMet, kx_a g_row cyI 160 f, kx_a g_many cyI 324 fm, kx_a g_loss cyI 324 fl, kx_a g_less cyI 324 fe, kx_a g_voteValue cyI 1944 vv, kx_a g_voteNumber cyI 1944 vn, kx_a g_allValue cyI 12 av, kx_a g_allNumber cyI 12 an, kx_a g_nodeL cyI 320 (upd nl m_nodes.toNatClampNeg p0), kx_a g_nodeR cyI 320 nr]) hP hD rfl
  refine lv_aload_n hx hb dX5_lays_24 rfl (lv_at hl 1 rfl) ?_
  refine va_get (D := (dC, dI)) (ci := 5) (v := .ref g_nodeR) (C := RX5) (T := TX5) (N := 30) hx hb hts hi_5 hown hK hP 0 rfl rfl 13 (by decide) hf_41 (fun _ h9 => h9) rfl dX5_lays_25 ?_
  refine lv_iload hx hb dX5_lays_28 (lv_at hl 0 rfl) ?_
  refine lv_iload_n hx hb dX5_lays_30 rfl (lv_at hl 3 rfl) ?_
  refine va_iast hx hb hK hP hD hS 10 0 rfl rfl (ki_in (om_10 b5) (om_325 b1 b6)) dX5_lays_31 (fun H locs hP hD hS => ?_)
  obtain ⟨hP, hD⟩ := kx_re (w2 := [kx_5 h0 g_row m_n m_slots m_thrown g_many g_loss g_less g_voteValue g_voteNumber g_allValue g_allNumber m_allMany g_nodeL g_nodeR y_1 g_part m_partMany g_wasMany g_wasLoss g_wasValue g_wasNumber g_path m_pathMany g_heavyValue g_heavyTimes m_heavyMany g_fewest g_which g_met m_mostMet, kx_a g_row cyI 160 f, kx_a g_many cyI 324 fm, kx_a g_loss cyI 324 fl, kx_a g_less cyI 324 fe, kx_a g_voteValue cyI 1944 vv, kx_a g_voteNumber cyI 1944 vn, kx_a g_allValue cyI 12 av, kx_a g_allNumber cyI 12 an, kx_a g_nodeL cyI 320 (upd nl m_nodes.toNatClampNeg p0), kx_a g_nodeR cyI 320 (upd nr m_nodes.toNatClampNeg p1)]) hP hD rfl
  refine lv_iload_n hx hb dX5_lays_32 rfl (lv_at hl 3 rfl) ?_
  refine lv_iload_n hx hb dX5_lays_33 rfl (lv_at hl 2 rfl) ?_
  refine lv_isub hx hb dX5_lays_34 ?_
  refine lv_topi (fun y_2 ey_2 => ?_)
  have i_2 : y_2.toInt = p1.toInt - p0.toInt := ki_sub ey_2 rfl rfl (om_168 b1) (om_326 b7)
  refine lv_iconst (v := 1) hx hb dX5_lays_35 (by decide) ?_
  refine lv_icmp_ne (tgt := 54) hx hb dX5_lays_36 (by decide) (fun c_3 => ?_) (fun c_3 => ?_)
  · have i_3 : ¬ y_2.toInt = 1 := kc_ne c_3
    exfalso; omega
  · have i_3 : y_2.toInt = 1 := kc_eq c_3
    refine lv_aload_n hx hb dX5_lays_39 rfl (lv_at hl 1 rfl) ?_
    refine lv_iload hx hb dX5_lays_40 (lv_at hl 0 rfl) ?_
    refine lv_aload_n hx hb dX5_lays_42 rfl (lv_at hl 1 rfl) ?_
    refine va_get (D := (dC, dI)) (ci := 5) (v := .ref g_row) (C := RX5) (T := TX5) (N := 30) hx hb hts hi_5 hown hK hP 0 rfl rfl 0 (by decide) hf_7 (fun _ h9 => h9) rfl dX5_lays_43 ?_
    refine lv_iload_n hx hb dX5_lays_46 rfl (lv_at hl 2 rfl) ?_
    refine va_iald hx hb hK hP 1 0 rfl rfl (ki_in (om_10 b0) (om_85 b1 b2)) dX5_lays_47 ?_
    refine lv_topi (fun y_4 ey_4 => ?_)
    have j_4 : y_4.toInt = (f p0.toNatClampNeg).toInt := congrArg Int32.toInt ey_4
    obtain ⟨hPc, hDc, hFc, hCc⟩ := kx_preM (wc := [kx_5 h0 g_row m_n m_slots m_thrown g_many g_loss g_less g_voteValue g_voteNumber g_allValue g_allNumber m_allMany g_nodeL g_nodeR y_1 g_part m_partMany g_wasMany g_wasLoss g_wasValue g_wasNumber g_path m_pathMany g_heavyValue g_heavyTimes m_heavyMany g_fewest g_which g_met m_mostMet, kx_a g_many cyI 324 fm, kx_a g_loss cyI 324 fl, kx_a g_less cyI 324 fe, kx_a g_voteValue cyI 1944 vv, kx_a g_voteNumber cyI 1944 vn]) hP hD hS hA [true, false, true, true, true, true, true, false, false, false, false] rfl
    have hKc := hK
    refine va_callv (va_runV (As := [.int m_nodes, .int y_4]) (rest := []) ⟨hx, hb, hml, hown, hts⟩ (kx_un (c_X5_one_x l dC dI h0 g_row g_many g_loss g_less g_voteValue g_voteNumber g_allValue g_allNumber g_nodeL g_nodeR g_part g_wasMany g_wasLoss g_wasValue g_wasNumber g_path g_heavyValue g_heavyTimes g_fewest g_which g_met m_n m_slots m_thrown m_allMany y_1 m_partMany m_pathMany m_heavyMany m_mostMet cyI fm fl fe vv vn m_nodes y_4 H.size b5 (om_327 b1 b6))) (cwV 2 hts gX5_lays_X5_one rfl rfl rfl (by decide +kernel) ⟨Nat.le_of_ble_eq_true rfl, Nat.le_of_ble_eq_true rfl⟩) ⟨fun a U g mk q => by obtain ⟨q0, q1, qP, qK, qD⟩ := q; exact ⟨q0, q1, qP, va_K.moved (u := U) (U := U.calling g mk a) (Vm.Alike.refl U.vm) qK, qD⟩, kx_rc5 hKc hPc (q0 := 0) rfl, fun U hU hW => ⟨rfl, by rw [hU], by rw [hU]; exact hPc, va_K.moved hW.alike hKc, hDc.weaken (fun _ _ _ _ => trivial)⟩⟩ rfl rfl hl.1 rfl (lv_room (Nat.le_of_ble_eq_true rfl)) dX5_lays_48 ⟨Nat.le_of_ble_eq_true rfl, Nat.le_of_ble_eq_true rfl⟩) hS (fun q _ h => hFc q h) hFc (fun u t H1 locs ht hvm w_5 hB hz1 hk1 hS => ?_)
    obtain ⟨o_6, o_7, o_8, o_9, o_10⟩ := u
    dsimp only at w_5 hB
    obtain ⟨hP1, hK1, hD1⟩ := hB
    rw [ht] at hP1
    have hK1 := va_K.moved hvm.symm hK1
    obtain ⟨hP, hD⟩ := kx_joinM (w2 := [kx_5 h0 g_row m_n m_slots m_thrown g_many g_loss g_less g_voteValue g_voteNumber g_allValue g_allNumber m_allMany g_nodeL g_nodeR y_1 g_part m_partMany g_wasMany g_wasLoss g_wasValue g_wasNumber g_path m_pathMany g_heavyValue g_heavyTimes m_heavyMany g_fewest g_which g_met m_mostMet, kx_a g_row cyI 160 f, kx_a g_many cyI 324 o_6, kx_a g_loss cyI 324 o_7, kx_a g_less cyI 324 o_8, kx_a g_voteValue cyI 1944 o_9, kx_a g_voteNumber cyI 1944 o_10, kx_a g_allValue cyI 12 av, kx_a g_allNumber cyI 12 an, kx_a g_nodeL cyI 320 (upd nl m_nodes.toNatClampNeg p0), kx_a g_nodeR cyI 320 (upd nr m_nodes.toNatClampNeg p1)]) hP hD hP1 hD1 hk1 hFc [true, false, true, true, true, true, true, false, false, false, false] hCc rfl
    clear hP1 hD1 hK1 hk1 hz1 hFc hDc hPc hKc hCc
    generalize H1 = H at hP hS ⊢
    have w_5 : o_6 = upd fm m_nodes.toNatClampNeg 1 ∧ o_7 = upd fl m_nodes.toNatClampNeg 0 ∧ o_8 = upd fe m_nodes.toNatClampNeg 0 ∧ o_9 = upd vv (6 * m_nodes.toNatClampNeg) y_4 ∧ o_10 = upd vn (6 * m_nodes.toNatClampNeg) 1 := w_5
    refine lv_iload hx hb dX5_lays_51 (lv_at hl 0 rfl) ?_
    have hP9 := hP
    have hD9 := hD
    have hK9 := hK
    have n_p0 := ki_nat p0 rfl (om_10 b0)
    have n_p1 := ki_nat p1 rfl (om_21 b0 b1)
    have n_p2 := ki_nat p2 rfl (om_51 b3)
    have n_nd := ki_nat m_nodes rfl (om_10 b5)
    have e_vv := w_5.2.2.2.1
    rw [ey_4] at e_vv
    have hN := mj_lay_leaf (K := p2.toNatClampNeg) (f := f) (nl := nl) (nr := nr) (l := p0.toNatClampNeg) (r := p1.toNatClampNeg) (l32 := p0) (r32 := p1) 0 (mj_ln1 n_p2 b3) (mj_lf9 n_p0 n_p1 i_2 i_3) n_p0.symm n_p1.symm w_5.1 w_5.2.1 w_5.2.2.1 e_vv w_5.2.2.2.2
    exact W.iret (v := m_nodes) hx hb hr (hlocks := hlocks) (fun t ht hW => ⟨⟨m_nodes, (y_1, m_allMany, o_6, o_7, o_8, o_9, o_10, av, an, (upd nl m_nodes.toNatClampNeg p0), (upd nr m_nodes.toNatClampNeg p1)), rfl, ⟨rfl, (om_328 b1 b7 i_1), (by (try dsimp only); rw [w_5.1]; exact six4_upd s4 (by decide) (by decide)), hN.1, hN.2⟩, by rw [ht]; exact hP9, va_K.moved hW.alike hK9, hD9⟩, hS.F ht⟩) hS.2.2 dX5_lays_53

set_option maxHeartbeats 4000000 in
set_option maxRecDepth 100000 in
theorem c_X5_lays_1 (l : Launch) (dC : Nat → ClassId) (dI : Nat → Nat → Nat) (h0 : Nat) (g_row : Nat) (g_many : Nat) (g_loss : Nat) (g_less : Nat) (g_voteValue : Nat) (g_voteNumber : Nat) (g_allValue : Nat) (g_allNumber : Nat) (g_nodeL : Nat) (g_nodeR : Nat) (g_part : Nat) (g_wasMany : Nat) (g_wasLoss : Nat) (g_wasValue : Nat) (g_wasNumber : Nat) (g_path : Nat) (g_heavyValue : Nat) (g_heavyTimes : Nat) (g_fewest : Nat) (g_which : Nat) (g_met : Nat) (m_n : Int32) (m_slots : Int32) (m_thrown : Int32) (m_allMany : Int32) (m_nodes : Int32) (m_partMany : Int32) (m_pathMany : Int32) (m_heavyMany : Int32) (m_mostMet : Int32) (cyI : ClassId) (fm : Nat → Int32) (fl : Nat → Int32) (fe : Nat → Int32) (vv : Nat → Int32) (vn : Nat → Int32) (f : Nat → Int32) (av : Nat → Int32) (an : Nat → Int32) (nl : Nat → Int32) (nr : Nat → Int32) (p0 : Int32) (p1 : Int32) (p2 : Int32) (sz : Nat) (b0 : 0 ≤ p0.toInt) (b1 : p0.toInt < p1.toInt) (b2 : p1.toInt ≤ 160) (b3 : 1 ≤ p2.toInt) (b4 : p2.toInt ≤ 6) (b5 : 0 ≤ m_nodes.toInt) (b6 : m_nodes.toInt + 2 * (p1.toInt - p0.toInt) - 1 ≤ 319) (s4 : six4 fm) (b7 : p1.toInt - p0.toInt ≤ 2) : kx_MQ l (dC, dI) yX5_lays wsX5_lays ({ frames := 3, cells := 0, slots := 0, locals := 135 }) [.ref h0, .int p0, .int p1, .int p2] [kx_5 h0 g_row m_n m_slots m_thrown g_many g_loss g_less g_voteValue g_voteNumber g_allValue g_allNumber m_allMany g_nodeL g_nodeR m_nodes g_part m_partMany g_wasMany g_wasLoss g_wasValue g_wasNumber g_path m_pathMany g_heavyValue g_heavyTimes m_heavyMany g_fewest g_which g_met m_mostMet, kx_a g_row cyI 160 f, kx_a g_many cyI 324 fm, kx_a g_loss cyI 324 fl, kx_a g_less cyI 324 fe, kx_a g_voteValue cyI 1944 vv, kx_a g_voteNumber cyI 1944 vn, kx_a g_allValue cyI 12 av, kx_a g_allNumber cyI 12 an, kx_a g_nodeL cyI 320 nl, kx_a g_nodeR cyI 320 nr] [(cyI, .int)] sz (fun A => va_Qi (fun (r : Int32) (u : Int32 × Int32 × (Nat → Int32) × (Nat → Int32) × (Nat → Int32) × (Nat → Int32) × (Nat → Int32) × (Nat → Int32) × (Nat → Int32) × (Nat → Int32) × (Nat → Int32)) => r = m_nodes ∧ u.1.toInt = m_nodes.toInt + 2 * (p1.toInt - p0.toInt) - 1 ∧ six4 u.2.2.1 ∧ mj_S p2.toNatClampNeg f u.2.2.2.2.2.2.2.2.2.1 u.2.2.2.2.2.2.2.2.2.2 u.2.2.1 u.2.2.2.1 u.2.2.2.2.1 u.2.2.2.2.2.1 u.2.2.2.2.2.2.1 1 m_nodes.toNatClampNeg p0.toNatClampNeg p1.toNatClampNeg ∧ mj_ag 0 m_nodes.toNatClampNeg nl nr fm fl fe vv vn u.2.2.2.2.2.2.2.2.2.1 u.2.2.2.2.2.2.2.2.2.2 u.2.2.1 u.2.2.2.1 u.2.2.2.2.1 u.2.2.2.2.2.1 u.2.2.2.2.2.2.1) (fun (u : Int32 × Int32 × (Nat → Int32) × (Nat → Int32) × (Nat → Int32) × (Nat → Int32) × (Nat → Int32) × (Nat → Int32) × (Nat → Int32) × (Nat → Int32) × (Nat → Int32)) (t : State) => va_P (dC, dI) vwCl [kx_5 h0 g_row m_n m_slots m_thrown g_many g_loss g_less g_voteValue g_voteNumber g_allValue g_allNumber u.2.1 g_nodeL g_nodeR u.1 g_part m_partMany g_wasMany g_wasLoss g_wasValue g_wasNumber g_path m_pathMany g_heavyValue g_heavyTimes m_heavyMany g_fewest g_which g_met m_mostMet, kx_a g_row cyI 160 f, kx_a g_many cyI 324 u.2.2.1, kx_a g_loss cyI 324 u.2.2.2.1, kx_a g_less cyI 324 u.2.2.2.2.1, kx_a g_voteValue cyI 1944 u.2.2.2.2.2.1, kx_a g_voteNumber cyI 1944 u.2.2.2.2.2.2.1, kx_a g_allValue cyI 12 u.2.2.2.2.2.2.2.1, kx_a g_allNumber cyI 12 u.2.2.2.2.2.2.2.2.1, kx_a g_nodeL cyI 320 u.2.2.2.2.2.2.2.2.2.1, kx_a g_nodeR cyI 320 u.2.2.2.2.2.2.2.2.2.2] t.heap ∧ va_K (dC, dI) vwCl [(cyI, .int)] t ∧ va_D A [kx_5 h0 g_row m_n m_slots m_thrown g_many g_loss g_less g_voteValue g_voteNumber g_allValue g_allNumber u.2.1 g_nodeL g_nodeR u.1 g_part m_partMany g_wasMany g_wasLoss g_wasValue g_wasNumber g_path m_pathMany g_heavyValue g_heavyTimes m_heavyMany g_fewest g_which g_met m_mostMet, kx_a g_row cyI 160 f, kx_a g_many cyI 324 u.2.2.1, kx_a g_loss cyI 324 u.2.2.2.1, kx_a g_less cyI 324 u.2.2.2.2.1, kx_a g_voteValue cyI 1944 u.2.2.2.2.2.1, kx_a g_voteNumber cyI 1944 u.2.2.2.2.2.2.1, kx_a g_allValue cyI 12 u.2.2.2.2.2.2.2.1, kx_a g_allNumber cyI 12 u.2.2.2.2.2.2.2.2.1, kx_a g_nodeL cyI 320 u.2.2.2.2.2.2.2.2.2.1, kx_a g_nodeR cyI 320 u.2.2.2.2.2.2.2.2.2.2]) A) := by
  refine kx_stQ (ws := wsX5_lays) (cc := cX5_lays) (maxL := 8) (ret := (some .int)) (by decide) rfl (Nat.le_of_ble_eq_true rfl) ?_
  intro p e s m below meth c A ls hx hb hr hlocks hts hown hml hA hS hP hK hD hl
  have hown : s.vm.findClass RX5 = some m.cls := hown
  have hl : lv_has ls 8 [(0, .ref h0), (1, .int p0), (2, .int p1), (3, .int p2)] := hl
  have hf_101 := hts (.fieldLink RX5 101 "MajorityIndexModel" "nodes" "I") (List.mem_of_getElem? (i := 1) rfl)
  have hi_5 : ∀ w ∈ u_ws RX5 TX5 30, w ∈ wsX5_lays := fun w h => List.mem_cons_of_mem _ (List.mem_append_right _ h)
  have hf_38 := hts (.fieldLink RX5 38 "MajorityIndexModel" "nodeL" "[I") (List.mem_of_getElem? (i := 2) rfl)
  have hf_41 := hts (.fieldLink RX5 41 "MajorityIndexModel" "nodeR" "[I") (List.mem_of_getElem? (i := 3) rfl)
  have hf_7 := hts (.fieldLink RX5 7 "MajorityIndexModel" "row" "[I") (List.mem_of_getElem? (i := 4) rfl)
  refine lv_aload_n hx hb dX5_lays_0 rfl (lv_at hl 0 rfl) ?_
  refine va_get (D := (dC, dI)) (ci := 5) (v := .int m_nodes) (C := RX5) (T := TX5) (N := 30) hx hb hts hi_5 hown hK hP 0 rfl rfl 14 (by decide) hf_101 (fun _ h9 => h9) rfl dX5_lays_1 ?_
  refine lv_istore (lv' := [(4, .int m_nodes), (0, .ref h0), (1, .int p0), (2, .int p1), (3, .int p2)]) hx hb dX5_lays_4 hl (by decide) rfl (fun ls hl => ?_)
  refine lv_aload_n hx hb dX5_lays_6 rfl (lv_at hl 1 rfl) ?_
  refine lv_dup hx hb dX5_lays_7 rfl ?_
  refine va_get (D := (dC, dI)) (ci := 5) (v := .int m_nodes) (C := RX5) (T := TX5) (N := 30) hx hb hts hi_5 hown hK hP 0 rfl rfl 14 (by decide) hf_101 (fun _ h9 => h9) rfl dX5_lays_8 ?_
  refine lv_iconst (v := 1) hx hb dX5_lays_11 (by decide) ?_
  refine lv_iadd hx hb dX5_lays_12 ?_
  refine lv_topi (fun y_1 ey_1 => ?_)
  have i_1 : y_1.toInt = m_nodes.toInt + 1 := ki_add ey_1 rfl rfl (om_13 b5) (om_324 b1 b6)
  refine va_put (D := (dC, dI)) (ci := 5) (v := .int y_1) (ty := .int) (C := RX5) (T := TX5) (N := 30) hx hb hts hi_5 tyX5 tyX5_ok nmX5 hown hK hP hD hS 0 rfl rfl 14 (by decide) hf_101 (fun _ h9 => h9) rfl (by decide +kernel) rfl rfl (Nat.le_of_ble_eq_true rfl) dX5_lays_13 (fun H locs hP hD hS => ?_)
  obtain ⟨hP, hD⟩ := kx_re (w2 := [kx_5 h0 g_row m_n m_slots m_thrown g_many g_loss g_less g_voteValue g_voteNumber g_allValue g_allNumber m_allMany g_nodeL g_nodeR y_1 g_part m_partMany g_wasMany g_wasLoss g_wasValue g_wasNumber g_path m_pathMany g_heavyValue g_heavyTimes m_heavyMany g_fewest g_which g_met m_mostMet, kx_a g_row cyI 160 f, kx_a g_many cyI 324 fm, kx_a g_loss cyI 324 fl, kx_a g_less cyI 324 fe, kx_a g_voteValue cyI 1944 vv, kx_a g_voteNumber cyI 1944 vn, kx_a g_allValue cyI 12 av, kx_a g_allNumber cyI 12 an, kx_a g_nodeL cyI 320 nl, kx_a g_nodeR cyI 320 nr]) hP hD rfl
  refine lv_aload_n hx hb dX5_lays_16 rfl (lv_at hl 1 rfl) ?_
  refine va_get (D := (dC, dI)) (ci := 5) (v := .ref g_nodeL) (C := RX5) (T := TX5) (N := 30) hx hb hts hi_5 hown hK hP 0 rfl rfl 12 (by decide) hf_38 (fun _ h9 => h9) rfl dX5_lays_17 ?_
  refine lv_iload hx hb dX5_lays_20 (lv_at hl 0 rfl) ?_
  refine lv_iload_n hx hb dX5_lays_22 rfl (lv_at hl 2 rfl) ?_
  refine va_iast hx hb hK hP hD hS 9 0 rfl rfl (ki_in (om_10 b5) (om_325 b1 b6)) dX5_lays_23 (fun H locs hP hD hS => ?_)
  obtain ⟨hP, hD⟩ := kx_re (w2 := [kx_5 h0 g_row m_n m_slots m_thrown g_many g_loss g_less g_voteValue g_voteNumber g_allValue g_allNumber m_allMany g_nodeL g_nodeR y_1 g_part m_partMany g_wasMany g_wasLoss g_wasValue g_wasNumber g_path m_pathMany g_heavyValue g_heavyTimes m_heavyMany g_fewest g_which g_met m_mostMet, kx_a g_row cyI 160 f, kx_a g_many cyI 324 fm, kx_a g_loss cyI 324 fl, kx_a g_less cyI 324 fe, kx_a g_voteValue cyI 1944 vv, kx_a g_voteNumber cyI 1944 vn, kx_a g_allValue cyI 12 av, kx_a g_allNumber cyI 12 an, kx_a g_nodeL cyI 320 (upd nl m_nodes.toNatClampNeg p0), kx_a g_nodeR cyI 320 nr]) hP hD rfl
  refine lv_aload_n hx hb dX5_lays_24 rfl (lv_at hl 1 rfl) ?_
  refine va_get (D := (dC, dI)) (ci := 5) (v := .ref g_nodeR) (C := RX5) (T := TX5) (N := 30) hx hb hts hi_5 hown hK hP 0 rfl rfl 13 (by decide) hf_41 (fun _ h9 => h9) rfl dX5_lays_25 ?_
  refine lv_iload hx hb dX5_lays_28 (lv_at hl 0 rfl) ?_
  refine lv_iload_n hx hb dX5_lays_30 rfl (lv_at hl 3 rfl) ?_
  refine va_iast hx hb hK hP hD hS 10 0 rfl rfl (ki_in (om_10 b5) (om_325 b1 b6)) dX5_lays_31 (fun H locs hP hD hS => ?_)
  obtain ⟨hP, hD⟩ := kx_re (w2 := [kx_5 h0 g_row m_n m_slots m_thrown g_many g_loss g_less g_voteValue g_voteNumber g_allValue g_allNumber m_allMany g_nodeL g_nodeR y_1 g_part m_partMany g_wasMany g_wasLoss g_wasValue g_wasNumber g_path m_pathMany g_heavyValue g_heavyTimes m_heavyMany g_fewest g_which g_met m_mostMet, kx_a g_row cyI 160 f, kx_a g_many cyI 324 fm, kx_a g_loss cyI 324 fl, kx_a g_less cyI 324 fe, kx_a g_voteValue cyI 1944 vv, kx_a g_voteNumber cyI 1944 vn, kx_a g_allValue cyI 12 av, kx_a g_allNumber cyI 12 an, kx_a g_nodeL cyI 320 (upd nl m_nodes.toNatClampNeg p0), kx_a g_nodeR cyI 320 (upd nr m_nodes.toNatClampNeg p1)]) hP hD rfl
  refine lv_iload_n hx hb dX5_lays_32 rfl (lv_at hl 3 rfl) ?_
  refine lv_iload_n hx hb dX5_lays_33 rfl (lv_at hl 2 rfl) ?_
  refine lv_isub hx hb dX5_lays_34 ?_
  refine lv_topi (fun y_2 ey_2 => ?_)
  have i_2 : y_2.toInt = p1.toInt - p0.toInt := ki_sub ey_2 rfl rfl (om_168 b1) (om_329 b7)
  refine lv_iconst (v := 1) hx hb dX5_lays_35 (by decide) ?_
  refine lv_icmp_ne (tgt := 54) hx hb dX5_lays_36 (by decide) (fun c_3 => ?_) (fun c_3 => ?_)
  · have i_3 : ¬ y_2.toInt = 1 := kc_ne c_3
    refine lv_iload_n hx hb dX5_lays_54 rfl (lv_at hl 2 rfl) ?_
    refine lv_iload_n hx hb dX5_lays_55 rfl (lv_at hl 3 rfl) ?_
    refine lv_iadd hx hb dX5_lays_56 ?_
    refine lv_topi (fun y_4 ey_4 => ?_)
    have i_4 : y_4.toInt = p0.toInt + p1.toInt := ki_add ey_4 rfl rfl (om_330 b0 b1) (om_331 b1 b2)
    refine lv_iconst (v := 2) hx hb dX5_lays_57 (by decide) ?_
    refine lv_idiv hx hb dX5_lays_58 (by decide) ?_
    refine lv_topi (fun y_5 ey_5 => ?_)
    have i_5 : y_5.toInt = y_4.toInt / 2 := ki_div2 ey_5 rfl (om_332 b0 b1 i_4)
    have d_6 := om_dv i_5
    refine lv_istore (lv' := [(5, .int y_5), (4, .int m_nodes), (0, .ref h0), (1, .int p0), (2, .int p1), (3, .int p2)]) hx hb dX5_lays_59 hl (by decide) rfl (fun ls hl => ?_)
    refine lv_aload_n hx hb dX5_lays_61 rfl (lv_at hl 2 rfl) ?_
    refine lv_iload_n hx hb dX5_lays_62 rfl (lv_at hl 3 rfl) ?_
    refine lv_iload hx hb dX5_lays_63 (lv_at hl 0 rfl) ?_
    refine lv_iload_n hx hb dX5_lays_65 rfl (lv_at hl 5 rfl) ?_
    have hPc := hP
    have hKc := hK
    have hDc := hD
    have hFc := kx_free hD hS hA
    refine va_calli (va_runV (As := [.int p0, .int y_5, .int p2]) (rest := []) ⟨hx, hb, hml, hown, hts⟩ (kx_un (c_X5_lays_0 l dC dI h0 g_row g_many g_loss g_less g_voteValue g_voteNumber g_allValue g_allNumber g_nodeL g_nodeR g_part g_wasMany g_wasLoss g_wasValue g_wasNumber g_path g_heavyValue g_heavyTimes g_fewest g_which g_met m_n m_slots m_thrown m_allMany y_1 m_partMany m_pathMany m_heavyMany m_mostMet cyI fm fl fe vv vn f av an (upd nl m_nodes.toNatClampNeg p0) (upd nr m_nodes.toNatClampNeg p1) p0 y_5 p2 H.size b0 (by omega) (om_333 b1 b2 i_4 d_6.1) b3 b4 (om_34 b5 i_1) (om_334 b1 b6 i_1 i_4 d_6.1) s4 (om_335 b7 i_4 d_6.1))) (cwV 3 hts gX5_lays_X5_lays rfl rfl rfl (by decide +kernel) ⟨Nat.le_of_ble_eq_true rfl, Nat.le_of_ble_eq_true rfl⟩) ⟨fun a U g mk q => by obtain ⟨q0, q1, qP, qK, qD⟩ := q; exact ⟨q0, q1, qP, va_K.moved (u := U) (U := U.calling g mk a) (Vm.Alike.refl U.vm) qK, qD⟩, kx_rc5 hKc hPc (q0 := 0) rfl, fun U hU hW => ⟨rfl, by rw [hU], by rw [hU]; exact hPc, va_K.moved hW.alike hKc, hDc.weaken (fun _ _ _ _ => trivial)⟩⟩ rfl rfl hl.1 rfl (lv_room (Nat.le_of_ble_eq_true rfl)) dX5_lays_66 ⟨Nat.le_of_ble_eq_true rfl, Nat.le_of_ble_eq_true rfl⟩) hS (fun q _ h => hFc q h) hFc (fun r_7 u t H1 locs ht hvm w_7 hB hz1 hk1 hS => ?_)
    obtain ⟨o_8, o_9, o_10, o_11, o_12, o_13, o_14, o_15, o_16, o_17, o_18⟩ := u
    dsimp only at w_7 hB
    obtain ⟨hP1, hK1, hD1⟩ := hB
    rw [ht] at hP1
    have hK1 := va_K.moved hvm.symm hK1
    have hD := hD1.weaken (fun _ q _ h => hFc q.1 h)
    have hP := hP1
    clear hP1 hD1 hK1 hk1 hz1 hFc hDc hPc hKc
    generalize H1 = H at hP hS ⊢
    have w_7 : r_7 = y_1 ∧ o_8.toInt = y_1.toInt + 2 * (y_5.toInt - p0.toInt) - 1 ∧ six4 o_10 ∧ mj_S p2.toNatClampNeg f o_17 o_18 o_10 o_11 o_12 o_13 o_14 0 y_1.toNatClampNeg p0.toNatClampNeg y_5.toNatClampNeg ∧ mj_ag 0 y_1.toNatClampNeg (upd nl m_nodes.toNatClampNeg p0) (upd nr m_nodes.toNatClampNeg p1) fm fl fe vv vn o_17 o_18 o_10 o_11 o_12 o_13 o_14 := w_7
    refine lv_istore (lv' := [(6, .int r_7), (5, .int y_5), (4, .int m_nodes), (0, .ref h0), (1, .int p0), (2, .int p1), (3, .int p2)]) hx hb dX5_lays_69 hl (by decide) rfl (fun ls hl => ?_)
    refine lv_aload_n hx hb dX5_lays_71 rfl (lv_at hl 3 rfl) ?_
    refine lv_iload hx hb dX5_lays_72 (lv_at hl 1 rfl) ?_
    refine lv_iload_n hx hb dX5_lays_74 rfl (lv_at hl 5 rfl) ?_
    refine lv_iload_n hx hb dX5_lays_75 rfl (lv_at hl 6 rfl) ?_
    have hPc := hP
    have hKc := hK
    have hDc := hD
    have hFc := kx_free hD hS hA
    refine va_calli (va_runV (As := [.int y_5, .int p1, .int p2]) (rest := []) ⟨hx, hb, hml, hown, hts⟩ (kx_un (c_X5_lays_0 l dC dI h0 g_row g_many g_loss g_less g_voteValue g_voteNumber g_allValue g_allNumber g_nodeL g_nodeR g_part g_wasMany g_wasLoss g_wasValue g_wasNumber g_path g_heavyValue g_heavyTimes g_fewest g_which g_met m_n m_slots m_thrown o_9 o_8 m_partMany m_pathMany m_heavyMany m_mostMet cyI o_10 o_11 o_12 o_13 o_14 f o_15 o_16 o_17 o_18 y_5 p1 p2 H.size (om_336 b0 b1 i_4 d_6.2) (by omega) b2 b3 b4 (om_337 b1 b5 i_1 i_4 d_6.2 w_7.2.1) (om_338 b6 i_1 w_7.2.1) w_7.2.2.1 (by omega))) (cwV 3 hts gX5_lays_X5_lays rfl rfl rfl (by decide +kernel) ⟨Nat.le_of_ble_eq_true rfl, Nat.le_of_ble_eq_true rfl⟩) ⟨fun a U g mk q => by obtain ⟨q0, q1, qP, qK, qD⟩ := q; exact ⟨q0, q1, qP, va_K.moved (u := U) (U := U.calling g mk a) (Vm.Alike.refl U.vm) qK, qD⟩, kx_rc5 hKc hPc (q0 := 0) rfl, fun U hU hW => ⟨rfl, by rw [hU], by rw [hU]; exact hPc, va_K.moved hW.alike hKc, hDc.weaken (fun _ _ _ _ => trivial)⟩⟩ rfl rfl hl.1 rfl (lv_room (Nat.le_of_ble_eq_true rfl)) dX5_lays_76 ⟨Nat.le_of_ble_eq_true rfl, Nat.le_of_ble_eq_true rfl⟩) hS (fun q _ h => hFc q h) hFc (fun r_19 u t H1 locs ht hvm w_19 hB hz1 hk1 hS => ?_)
    obtain ⟨o_20, o_21, o_22, o_23, o_24, o_25, o_26, o_27, o_28, o_29, o_30⟩ := u
    dsimp only at w_19 hB
    obtain ⟨hP1, hK1, hD1⟩ := hB
    rw [ht] at hP1
    have hK1 := va_K.moved hvm.symm hK1
    have hD := hD1.weaken (fun _ q _ h => hFc q.1 h)
    have hP := hP1
    clear hP1 hD1 hK1 hk1 hz1 hFc hDc hPc hKc
    generalize H1 = H at hP hS ⊢
    have w_19 : r_19 = o_8 ∧ o_20.toInt = o_8.toInt + 2 * (p1.toInt - y_5.toInt) - 1 ∧ six4 o_22 ∧ mj_S p2.toNatClampNeg f o_29 o_30 o_22 o_23 o_24 o_25 o_26 0 o_8.toNatClampNeg y_5.toNatClampNeg p1.toNatClampNeg ∧ mj_ag 0 o_8.toNatClampNeg o_17 o_18 o_10 o_11 o_12 o_13 o_14 o_29 o_30 o_22 o_23 o_24 o_25 o_26 := w_19
    refine lv_istore (lv' := [(7, .int r_19), (6, .int r_7), (5, .int y_5), (4, .int m_nodes), (0, .ref h0), (1, .int p0), (2, .int p1), (3, .int p2)]) hx hb dX5_lays_79 hl (by decide) rfl (fun ls hl => ?_)
    have n_p0 := ki_nat p0 rfl (om_10 b0)
    have n_p1 := ki_nat p1 rfl (om_21 b0 b1)
    have n_p2 := ki_nat p2 rfl (om_51 b3)
    have n_nd := ki_nat m_nodes rfl (om_10 b5)
    have n_y := ki_nat y_1 rfl (om_34 b5 i_1)
    have n_md := ki_nat y_5 rfl (om_336 b0 b1 i_4 d_6.2)
    have n_oL := ki_nat o_8 rfl (om_337 b1 b5 i_1 i_4 d_6.2 w_7.2.1)
    have i_rL : r_7.toInt = y_1.toInt := congrArg Int32.toInt w_7.1
    have i_rR : r_19.toInt = o_8.toInt := congrArg Int32.toInt w_19.1
    obtain ⟨mua, La, ca, tA⟩ := w_7.2.2.2.1
    obtain ⟨mub, Lb, cb, tB⟩ := w_19.2.2.2.1
    obtain ⟨g_1, g_2, g_3, g_4, g_5, g_6⟩ := mj_ly9 n_p0 n_p1 n_nd n_y n_md n_oL i_1 i_4 i_5 w_7.2.1 b1 i_2 i_3
    have tA2 := mj_T_ag _ _ o_8.toNatClampNeg _ _ _ _ _ tA g_1 (mj_ag_sub w_19.2.2.2.2 (Nat.zero_le _) (Nat.le_refl _))
    have nA := mj_T_nd tA2
    have nB := mj_T_nd tB
    refine lv_aload_n hx hb dX5_lays_81 rfl (lv_at hl 4 rfl) ?_
    refine lv_iload hx hb dX5_lays_82 (lv_at hl 1 rfl) ?_
    refine lv_iload hx hb dX5_lays_84 (lv_at hl 0 rfl) ?_
    refine lv_iload hx hb dX5_lays_86 (lv_at hl 3 rfl) ?_
    refine lv_iload_n hx hb dX5_lays_88 rfl (lv_at hl 7 rfl) ?_
    obtain ⟨hPc, hDc, hFc, hCc⟩ := kx_preM (wc := [kx_5 h0 g_row m_n m_slots m_thrown g_many g_loss g_less g_voteValue g_voteNumber g_allValue g_allNumber o_21 g_nodeL g_nodeR o_20 g_part m_partMany g_wasMany g_wasLoss g_wasValue g_wasNumber g_path m_pathMany g_heavyValue g_heavyTimes m_heavyMany g_fewest g_which g_met m_mostMet, kx_a g_many cyI 324 o_22, kx_a g_loss cyI 324 o_23, kx_a g_less cyI 324 o_24, kx_a g_voteValue cyI 1944 o_25, kx_a g_voteNumber cyI 1944 o_26, kx_a g_allValue cyI 12 o_27, kx_a g_allNumber cyI 12 o_28]) hP hD hS hA [true, false, true, true, true, true, true, true, true, false, false] rfl
    have hKc := hK
    refine va_callv (va_runV (As := [.int r_7, .int r_19, .int m_nodes, .int p2]) (rest := []) ⟨hx, hb, hml, hown, hts⟩ (kx_un (c_X5_together l dC dI h0 g_row g_many g_loss g_less g_voteValue g_voteNumber g_allValue g_allNumber g_nodeL g_nodeR g_part g_wasMany g_wasLoss g_wasValue g_wasNumber g_path g_heavyValue g_heavyTimes g_fewest g_which g_met m_n m_slots m_thrown o_21 o_20 m_partMany m_pathMany m_heavyMany m_mostMet cyI o_22 o_23 o_24 o_25 o_26 o_27 o_28 mua mub r_7 r_19 m_nodes p2 H.size (om_339 b5 i_1 i_rL) (om_340 b1 b6 i_1 i_rL) (om_341 b1 b5 i_1 i_4 d_6.2 w_7.2.1 i_rR) (om_342 b1 b6 i_1 i_4 d_6.1 w_7.2.1 i_rR) (om_10 b5) (om_343 b1 b6) (om_51 b3) (om_344 b4) (by rw [w_7.1]; exact nA.2.2.1) (by rw [w_7.1]; exact nA.2.2.2.1) (by rw [w_19.1]; exact nB.2.2.1) (by rw [w_19.1]; exact nB.2.2.2.1) (by rw [w_7.1]; exact nA.2.2.2.2.2.2.2.1) (by rw [w_19.1]; exact nB.2.2.2.2.2.2.2.1) (fun v => by have h1 := mj_T_le _ _ _ _ _ _ _ tA2 v; have h2 := mj_T_le _ _ _ _ _ _ _ tB v; omega))) (cwV 4 hts gX5_lays_X5_together rfl rfl rfl (by decide +kernel) ⟨Nat.le_of_ble_eq_true rfl, Nat.le_of_ble_eq_true rfl⟩) ⟨fun a U g mk q => by obtain ⟨q0, q1, qP, qK, qD⟩ := q; exact ⟨q0, q1, qP, va_K.moved (u := U) (U := U.calling g mk a) (Vm.Alike.refl U.vm) qK, qD⟩, kx_rc5 hKc hPc (q0 := 0) rfl, fun U hU hW => ⟨rfl, by rw [hU], by rw [hU]; exact hPc, va_K.moved hW.alike hKc, hDc.weaken (fun _ _ _ _ => trivial)⟩⟩ rfl rfl hl.1 rfl (lv_room (Nat.le_of_ble_eq_true rfl)) dX5_lays_89 ⟨Nat.le_of_ble_eq_true rfl, Nat.le_of_ble_eq_true rfl⟩) hS (fun q _ h => hFc q h) hFc (fun u t H1 locs ht hvm w_31 hB hz1 hk1 hS => ?_)
    obtain ⟨o_32, o_33, o_34, o_35, o_36, o_37, o_38, o_39, o_40, o_41, o_42⟩ := u
    dsimp only at w_31 hB
    obtain ⟨hP1, hK1, hD1⟩ := hB
    rw [ht] at hP1
    have hK1 := va_K.moved hvm.symm hK1
    obtain ⟨hP, hD⟩ := kx_joinM (w2 := [kx_5 h0 g_row m_n m_slots m_thrown g_many g_loss g_less g_voteValue g_voteNumber g_allValue g_allNumber o_32 g_nodeL g_nodeR o_20 g_part m_partMany g_wasMany g_wasLoss g_wasValue g_wasNumber g_path m_pathMany g_heavyValue g_heavyTimes m_heavyMany g_fewest g_which g_met m_mostMet, kx_a g_row cyI 160 f, kx_a g_many cyI 324 o_36, kx_a g_loss cyI 324 o_37, kx_a g_less cyI 324 o_38, kx_a g_voteValue cyI 1944 o_39, kx_a g_voteNumber cyI 1944 o_40, kx_a g_allValue cyI 12 o_41, kx_a g_allNumber cyI 12 o_42, kx_a g_nodeL cyI 320 o_29, kx_a g_nodeR cyI 320 o_30]) hP hD hP1 hD1 hk1 hFc [true, false, true, true, true, true, true, true, true, false, false] hCc rfl
    clear hP1 hD1 hK1 hk1 hz1 hFc hDc hPc hKc hCc
    generalize H1 = H at hP hS ⊢
    have w_31 : mj_tog p2.toNatClampNeg mua mub o_35 o_33 ∧ o_37 = upd o_23 m_nodes.toNatClampNeg (o_23 r_7.toNatClampNeg + o_23 r_19.toNatClampNeg + o_33) ∧ o_38 = upd o_24 m_nodes.toNatClampNeg o_33 ∧ o_36 = upd o_22 m_nodes.toNatClampNeg o_34 ∧ 0 ≤ o_34.toInt ∧ o_34.toInt ≤ p2.toInt ∧ mj_vs o_39 o_40 (6 * m_nodes.toNatClampNeg) o_34.toNatClampNeg o_35 ∧ mj_srt o_39 o_40 (6 * m_nodes.toNatClampNeg) o_34.toNatClampNeg ∧ ∀ q : Nat, (q < 6 * m_nodes.toNatClampNeg ∨ 6 * m_nodes.toNatClampNeg + 6 ≤ q) → o_39 q = o_25 q ∧ o_40 q = o_26 q := w_31
    refine lv_iload hx hb dX5_lays_92 (lv_at hl 3 rfl) ?_
    have hP9 := hP
    have hD9 := hD
    have hK9 := hK
    have e_fl := w_31.2.1
    rw [w_7.1, w_19.1] at e_fl
    have hN := mj_lay_node (l := p0.toNatClampNeg) (r := p1.toNatClampNeg) (md := y_5.toNatClampNeg) (a := m_nodes.toNatClampNeg) g_2 g_3 n_p0.symm n_p1.symm g_4 g_5 (mj_ag_sub w_7.2.2.2.2 (Nat.le_refl _) g_6) w_19.2.2.2.2 tA2 tB w_31.1 w_31.2.2.2.1 w_31.2.2.2.2.1 (Int.le_trans w_31.2.2.2.2.2.1 (Int.le_of_eq n_p2.symm)) (mj_ln6 n_p2 b4) e_fl w_31.2.2.1 w_31.2.2.2.2.2.2.1 w_31.2.2.2.2.2.2.2.1 w_31.2.2.2.2.2.2.2.2
    exact W.iret (v := m_nodes) hx hb hr (hlocks := hlocks) (fun t ht hW => ⟨⟨m_nodes, (o_20, o_32, o_36, o_37, o_38, o_39, o_40, o_41, o_42, o_29, o_30), rfl, ⟨rfl, (om_345 i_1 w_7.2.1 w_19.2.1), (by (try dsimp only); rw [w_31.2.2.2.1]; exact six4_upd w_19.2.2.1 w_31.2.2.2.2.1 (om_346 b4 w_31.2.2.2.2.2.1)), hN.1, hN.2⟩, by rw [ht]; exact hP9, va_K.moved hW.alike hK9, hD9⟩, hS.F ht⟩) hS.2.2 dX5_lays_94
  · have i_3 : y_2.toInt = 1 := kc_eq c_3
    refine lv_aload_n hx hb dX5_lays_39 rfl (lv_at hl 1 rfl) ?_
    refine lv_iload hx hb dX5_lays_40 (lv_at hl 0 rfl) ?_
    refine lv_aload_n hx hb dX5_lays_42 rfl (lv_at hl 1 rfl) ?_
    refine va_get (D := (dC, dI)) (ci := 5) (v := .ref g_row) (C := RX5) (T := TX5) (N := 30) hx hb hts hi_5 hown hK hP 0 rfl rfl 0 (by decide) hf_7 (fun _ h9 => h9) rfl dX5_lays_43 ?_
    refine lv_iload_n hx hb dX5_lays_46 rfl (lv_at hl 2 rfl) ?_
    refine va_iald hx hb hK hP 1 0 rfl rfl (ki_in (om_10 b0) (om_85 b1 b2)) dX5_lays_47 ?_
    refine lv_topi (fun y_43 ey_43 => ?_)
    have j_43 : y_43.toInt = (f p0.toNatClampNeg).toInt := congrArg Int32.toInt ey_43
    obtain ⟨hPc, hDc, hFc, hCc⟩ := kx_preM (wc := [kx_5 h0 g_row m_n m_slots m_thrown g_many g_loss g_less g_voteValue g_voteNumber g_allValue g_allNumber m_allMany g_nodeL g_nodeR y_1 g_part m_partMany g_wasMany g_wasLoss g_wasValue g_wasNumber g_path m_pathMany g_heavyValue g_heavyTimes m_heavyMany g_fewest g_which g_met m_mostMet, kx_a g_many cyI 324 fm, kx_a g_loss cyI 324 fl, kx_a g_less cyI 324 fe, kx_a g_voteValue cyI 1944 vv, kx_a g_voteNumber cyI 1944 vn]) hP hD hS hA [true, false, true, true, true, true, true, false, false, false, false] rfl
    have hKc := hK
    refine va_callv (va_runV (As := [.int m_nodes, .int y_43]) (rest := []) ⟨hx, hb, hml, hown, hts⟩ (kx_un (c_X5_one_x l dC dI h0 g_row g_many g_loss g_less g_voteValue g_voteNumber g_allValue g_allNumber g_nodeL g_nodeR g_part g_wasMany g_wasLoss g_wasValue g_wasNumber g_path g_heavyValue g_heavyTimes g_fewest g_which g_met m_n m_slots m_thrown m_allMany y_1 m_partMany m_pathMany m_heavyMany m_mostMet cyI fm fl fe vv vn m_nodes y_43 H.size b5 (om_327 b1 b6))) (cwV 2 hts gX5_lays_X5_one rfl rfl rfl (by decide +kernel) ⟨Nat.le_of_ble_eq_true rfl, Nat.le_of_ble_eq_true rfl⟩) ⟨fun a U g mk q => by obtain ⟨q0, q1, qP, qK, qD⟩ := q; exact ⟨q0, q1, qP, va_K.moved (u := U) (U := U.calling g mk a) (Vm.Alike.refl U.vm) qK, qD⟩, kx_rc5 hKc hPc (q0 := 0) rfl, fun U hU hW => ⟨rfl, by rw [hU], by rw [hU]; exact hPc, va_K.moved hW.alike hKc, hDc.weaken (fun _ _ _ _ => trivial)⟩⟩ rfl rfl hl.1 rfl (lv_room (Nat.le_of_ble_eq_true rfl)) dX5_lays_48 ⟨Nat.le_of_ble_eq_true rfl, Nat.le_of_ble_eq_true rfl⟩) hS (fun q _ h => hFc q h) hFc (fun u t H1 locs ht hvm w_44 hB hz1 hk1 hS => ?_)
    obtain ⟨o_45, o_46, o_47, o_48, o_49⟩ := u
    dsimp only at w_44 hB
    obtain ⟨hP1, hK1, hD1⟩ := hB
    rw [ht] at hP1
    have hK1 := va_K.moved hvm.symm hK1
    obtain ⟨hP, hD⟩ := kx_joinM (w2 := [kx_5 h0 g_row m_n m_slots m_thrown g_many g_loss g_less g_voteValue g_voteNumber g_allValue g_allNumber m_allMany g_nodeL g_nodeR y_1 g_part m_partMany g_wasMany g_wasLoss g_wasValue g_wasNumber g_path m_pathMany g_heavyValue g_heavyTimes m_heavyMany g_fewest g_which g_met m_mostMet, kx_a g_row cyI 160 f, kx_a g_many cyI 324 o_45, kx_a g_loss cyI 324 o_46, kx_a g_less cyI 324 o_47, kx_a g_voteValue cyI 1944 o_48, kx_a g_voteNumber cyI 1944 o_49, kx_a g_allValue cyI 12 av, kx_a g_allNumber cyI 12 an, kx_a g_nodeL cyI 320 (upd nl m_nodes.toNatClampNeg p0), kx_a g_nodeR cyI 320 (upd nr m_nodes.toNatClampNeg p1)]) hP hD hP1 hD1 hk1 hFc [true, false, true, true, true, true, true, false, false, false, false] hCc rfl
    clear hP1 hD1 hK1 hk1 hz1 hFc hDc hPc hKc hCc
    generalize H1 = H at hP hS ⊢
    have w_44 : o_45 = upd fm m_nodes.toNatClampNeg 1 ∧ o_46 = upd fl m_nodes.toNatClampNeg 0 ∧ o_47 = upd fe m_nodes.toNatClampNeg 0 ∧ o_48 = upd vv (6 * m_nodes.toNatClampNeg) y_43 ∧ o_49 = upd vn (6 * m_nodes.toNatClampNeg) 1 := w_44
    refine lv_iload hx hb dX5_lays_51 (lv_at hl 0 rfl) ?_
    have hP9 := hP
    have hD9 := hD
    have hK9 := hK
    have n_p0 := ki_nat p0 rfl (om_10 b0)
    have n_p1 := ki_nat p1 rfl (om_21 b0 b1)
    have n_p2 := ki_nat p2 rfl (om_51 b3)
    have n_nd := ki_nat m_nodes rfl (om_10 b5)
    have e_vv := w_44.2.2.2.1
    rw [ey_43] at e_vv
    have hN := mj_lay_leaf (K := p2.toNatClampNeg) (f := f) (nl := nl) (nr := nr) (l := p0.toNatClampNeg) (r := p1.toNatClampNeg) (l32 := p0) (r32 := p1) 1 (mj_ln1 n_p2 b3) (mj_lf9 n_p0 n_p1 i_2 i_3) n_p0.symm n_p1.symm w_44.1 w_44.2.1 w_44.2.2.1 e_vv w_44.2.2.2.2
    exact W.iret (v := m_nodes) hx hb hr (hlocks := hlocks) (fun t ht hW => ⟨⟨m_nodes, (y_1, m_allMany, o_45, o_46, o_47, o_48, o_49, av, an, (upd nl m_nodes.toNatClampNeg p0), (upd nr m_nodes.toNatClampNeg p1)), rfl, ⟨rfl, (om_347 b1 i_1 i_2 i_3), (by (try dsimp only); rw [w_44.1]; exact six4_upd s4 (by decide) (by decide)), hN.1, hN.2⟩, by rw [ht]; exact hP9, va_K.moved hW.alike hK9, hD9⟩, hS.F ht⟩) hS.2.2 dX5_lays_53

set_option maxHeartbeats 4000000 in
set_option maxRecDepth 100000 in
theorem c_X5_lays_2 (l : Launch) (dC : Nat → ClassId) (dI : Nat → Nat → Nat) (h0 : Nat) (g_row : Nat) (g_many : Nat) (g_loss : Nat) (g_less : Nat) (g_voteValue : Nat) (g_voteNumber : Nat) (g_allValue : Nat) (g_allNumber : Nat) (g_nodeL : Nat) (g_nodeR : Nat) (g_part : Nat) (g_wasMany : Nat) (g_wasLoss : Nat) (g_wasValue : Nat) (g_wasNumber : Nat) (g_path : Nat) (g_heavyValue : Nat) (g_heavyTimes : Nat) (g_fewest : Nat) (g_which : Nat) (g_met : Nat) (m_n : Int32) (m_slots : Int32) (m_thrown : Int32) (m_allMany : Int32) (m_nodes : Int32) (m_partMany : Int32) (m_pathMany : Int32) (m_heavyMany : Int32) (m_mostMet : Int32) (cyI : ClassId) (fm : Nat → Int32) (fl : Nat → Int32) (fe : Nat → Int32) (vv : Nat → Int32) (vn : Nat → Int32) (f : Nat → Int32) (av : Nat → Int32) (an : Nat → Int32) (nl : Nat → Int32) (nr : Nat → Int32) (p0 : Int32) (p1 : Int32) (p2 : Int32) (sz : Nat) (b0 : 0 ≤ p0.toInt) (b1 : p0.toInt < p1.toInt) (b2 : p1.toInt ≤ 160) (b3 : 1 ≤ p2.toInt) (b4 : p2.toInt ≤ 6) (b5 : 0 ≤ m_nodes.toInt) (b6 : m_nodes.toInt + 2 * (p1.toInt - p0.toInt) - 1 ≤ 319) (s4 : six4 fm) (b7 : p1.toInt - p0.toInt ≤ 4) : kx_MQ l (dC, dI) yX5_lays wsX5_lays ({ frames := 4, cells := 0, slots := 0, locals := 180 }) [.ref h0, .int p0, .int p1, .int p2] [kx_5 h0 g_row m_n m_slots m_thrown g_many g_loss g_less g_voteValue g_voteNumber g_allValue g_allNumber m_allMany g_nodeL g_nodeR m_nodes g_part m_partMany g_wasMany g_wasLoss g_wasValue g_wasNumber g_path m_pathMany g_heavyValue g_heavyTimes m_heavyMany g_fewest g_which g_met m_mostMet, kx_a g_row cyI 160 f, kx_a g_many cyI 324 fm, kx_a g_loss cyI 324 fl, kx_a g_less cyI 324 fe, kx_a g_voteValue cyI 1944 vv, kx_a g_voteNumber cyI 1944 vn, kx_a g_allValue cyI 12 av, kx_a g_allNumber cyI 12 an, kx_a g_nodeL cyI 320 nl, kx_a g_nodeR cyI 320 nr] [(cyI, .int)] sz (fun A => va_Qi (fun (r : Int32) (u : Int32 × Int32 × (Nat → Int32) × (Nat → Int32) × (Nat → Int32) × (Nat → Int32) × (Nat → Int32) × (Nat → Int32) × (Nat → Int32) × (Nat → Int32) × (Nat → Int32)) => r = m_nodes ∧ u.1.toInt = m_nodes.toInt + 2 * (p1.toInt - p0.toInt) - 1 ∧ six4 u.2.2.1 ∧ mj_S p2.toNatClampNeg f u.2.2.2.2.2.2.2.2.2.1 u.2.2.2.2.2.2.2.2.2.2 u.2.2.1 u.2.2.2.1 u.2.2.2.2.1 u.2.2.2.2.2.1 u.2.2.2.2.2.2.1 2 m_nodes.toNatClampNeg p0.toNatClampNeg p1.toNatClampNeg ∧ mj_ag 0 m_nodes.toNatClampNeg nl nr fm fl fe vv vn u.2.2.2.2.2.2.2.2.2.1 u.2.2.2.2.2.2.2.2.2.2 u.2.2.1 u.2.2.2.1 u.2.2.2.2.1 u.2.2.2.2.2.1 u.2.2.2.2.2.2.1) (fun (u : Int32 × Int32 × (Nat → Int32) × (Nat → Int32) × (Nat → Int32) × (Nat → Int32) × (Nat → Int32) × (Nat → Int32) × (Nat → Int32) × (Nat → Int32) × (Nat → Int32)) (t : State) => va_P (dC, dI) vwCl [kx_5 h0 g_row m_n m_slots m_thrown g_many g_loss g_less g_voteValue g_voteNumber g_allValue g_allNumber u.2.1 g_nodeL g_nodeR u.1 g_part m_partMany g_wasMany g_wasLoss g_wasValue g_wasNumber g_path m_pathMany g_heavyValue g_heavyTimes m_heavyMany g_fewest g_which g_met m_mostMet, kx_a g_row cyI 160 f, kx_a g_many cyI 324 u.2.2.1, kx_a g_loss cyI 324 u.2.2.2.1, kx_a g_less cyI 324 u.2.2.2.2.1, kx_a g_voteValue cyI 1944 u.2.2.2.2.2.1, kx_a g_voteNumber cyI 1944 u.2.2.2.2.2.2.1, kx_a g_allValue cyI 12 u.2.2.2.2.2.2.2.1, kx_a g_allNumber cyI 12 u.2.2.2.2.2.2.2.2.1, kx_a g_nodeL cyI 320 u.2.2.2.2.2.2.2.2.2.1, kx_a g_nodeR cyI 320 u.2.2.2.2.2.2.2.2.2.2] t.heap ∧ va_K (dC, dI) vwCl [(cyI, .int)] t ∧ va_D A [kx_5 h0 g_row m_n m_slots m_thrown g_many g_loss g_less g_voteValue g_voteNumber g_allValue g_allNumber u.2.1 g_nodeL g_nodeR u.1 g_part m_partMany g_wasMany g_wasLoss g_wasValue g_wasNumber g_path m_pathMany g_heavyValue g_heavyTimes m_heavyMany g_fewest g_which g_met m_mostMet, kx_a g_row cyI 160 f, kx_a g_many cyI 324 u.2.2.1, kx_a g_loss cyI 324 u.2.2.2.1, kx_a g_less cyI 324 u.2.2.2.2.1, kx_a g_voteValue cyI 1944 u.2.2.2.2.2.1, kx_a g_voteNumber cyI 1944 u.2.2.2.2.2.2.1, kx_a g_allValue cyI 12 u.2.2.2.2.2.2.2.1, kx_a g_allNumber cyI 12 u.2.2.2.2.2.2.2.2.1, kx_a g_nodeL cyI 320 u.2.2.2.2.2.2.2.2.2.1, kx_a g_nodeR cyI 320 u.2.2.2.2.2.2.2.2.2.2]) A) := by
  refine kx_stQ (ws := wsX5_lays) (cc := cX5_lays) (maxL := 8) (ret := (some .int)) (by decide) rfl (Nat.le_of_ble_eq_true rfl) ?_
  intro p e s m below meth c A ls hx hb hr hlocks hts hown hml hA hS hP hK hD hl
  have hown : s.vm.findClass RX5 = some m.cls := hown
  have hl : lv_has ls 8 [(0, .ref h0), (1, .int p0), (2, .int p1), (3, .int p2)] := hl
  have hf_101 := hts (.fieldLink RX5 101 "MajorityIndexModel" "nodes" "I") (List.mem_of_getElem? (i := 1) rfl)
  have hi_5 : ∀ w ∈ u_ws RX5 TX5 30, w ∈ wsX5_lays := fun w h => List.mem_cons_of_mem _ (List.mem_append_right _ h)
  have hf_38 := hts (.fieldLink RX5 38 "MajorityIndexModel" "nodeL" "[I") (List.mem_of_getElem? (i := 2) rfl)
  have hf_41 := hts (.fieldLink RX5 41 "MajorityIndexModel" "nodeR" "[I") (List.mem_of_getElem? (i := 3) rfl)
  have hf_7 := hts (.fieldLink RX5 7 "MajorityIndexModel" "row" "[I") (List.mem_of_getElem? (i := 4) rfl)
  refine lv_aload_n hx hb dX5_lays_0 rfl (lv_at hl 0 rfl) ?_
  refine va_get (D := (dC, dI)) (ci := 5) (v := .int m_nodes) (C := RX5) (T := TX5) (N := 30) hx hb hts hi_5 hown hK hP 0 rfl rfl 14 (by decide) hf_101 (fun _ h9 => h9) rfl dX5_lays_1 ?_
  refine lv_istore (lv' := [(4, .int m_nodes), (0, .ref h0), (1, .int p0), (2, .int p1), (3, .int p2)]) hx hb dX5_lays_4 hl (by decide) rfl (fun ls hl => ?_)
  refine lv_aload_n hx hb dX5_lays_6 rfl (lv_at hl 1 rfl) ?_
  refine lv_dup hx hb dX5_lays_7 rfl ?_
  refine va_get (D := (dC, dI)) (ci := 5) (v := .int m_nodes) (C := RX5) (T := TX5) (N := 30) hx hb hts hi_5 hown hK hP 0 rfl rfl 14 (by decide) hf_101 (fun _ h9 => h9) rfl dX5_lays_8 ?_
  refine lv_iconst (v := 1) hx hb dX5_lays_11 (by decide) ?_
  refine lv_iadd hx hb dX5_lays_12 ?_
  refine lv_topi (fun y_1 ey_1 => ?_)
  have i_1 : y_1.toInt = m_nodes.toInt + 1 := ki_add ey_1 rfl rfl (om_13 b5) (om_324 b1 b6)
  refine va_put (D := (dC, dI)) (ci := 5) (v := .int y_1) (ty := .int) (C := RX5) (T := TX5) (N := 30) hx hb hts hi_5 tyX5 tyX5_ok nmX5 hown hK hP hD hS 0 rfl rfl 14 (by decide) hf_101 (fun _ h9 => h9) rfl (by decide +kernel) rfl rfl (Nat.le_of_ble_eq_true rfl) dX5_lays_13 (fun H locs hP hD hS => ?_)
  obtain ⟨hP, hD⟩ := kx_re (w2 := [kx_5 h0 g_row m_n m_slots m_thrown g_many g_loss g_less g_voteValue g_voteNumber g_allValue g_allNumber m_allMany g_nodeL g_nodeR y_1 g_part m_partMany g_wasMany g_wasLoss g_wasValue g_wasNumber g_path m_pathMany g_heavyValue g_heavyTimes m_heavyMany g_fewest g_which g_met m_mostMet, kx_a g_row cyI 160 f, kx_a g_many cyI 324 fm, kx_a g_loss cyI 324 fl, kx_a g_less cyI 324 fe, kx_a g_voteValue cyI 1944 vv, kx_a g_voteNumber cyI 1944 vn, kx_a g_allValue cyI 12 av, kx_a g_allNumber cyI 12 an, kx_a g_nodeL cyI 320 nl, kx_a g_nodeR cyI 320 nr]) hP hD rfl
  refine lv_aload_n hx hb dX5_lays_16 rfl (lv_at hl 1 rfl) ?_
  refine va_get (D := (dC, dI)) (ci := 5) (v := .ref g_nodeL) (C := RX5) (T := TX5) (N := 30) hx hb hts hi_5 hown hK hP 0 rfl rfl 12 (by decide) hf_38 (fun _ h9 => h9) rfl dX5_lays_17 ?_
  refine lv_iload hx hb dX5_lays_20 (lv_at hl 0 rfl) ?_
  refine lv_iload_n hx hb dX5_lays_22 rfl (lv_at hl 2 rfl) ?_
  refine va_iast hx hb hK hP hD hS 9 0 rfl rfl (ki_in (om_10 b5) (om_325 b1 b6)) dX5_lays_23 (fun H locs hP hD hS => ?_)
  obtain ⟨hP, hD⟩ := kx_re (w2 := [kx_5 h0 g_row m_n m_slots m_thrown g_many g_loss g_less g_voteValue g_voteNumber g_allValue g_allNumber m_allMany g_nodeL g_nodeR y_1 g_part m_partMany g_wasMany g_wasLoss g_wasValue g_wasNumber g_path m_pathMany g_heavyValue g_heavyTimes m_heavyMany g_fewest g_which g_met m_mostMet, kx_a g_row cyI 160 f, kx_a g_many cyI 324 fm, kx_a g_loss cyI 324 fl, kx_a g_less cyI 324 fe, kx_a g_voteValue cyI 1944 vv, kx_a g_voteNumber cyI 1944 vn, kx_a g_allValue cyI 12 av, kx_a g_allNumber cyI 12 an, kx_a g_nodeL cyI 320 (upd nl m_nodes.toNatClampNeg p0), kx_a g_nodeR cyI 320 nr]) hP hD rfl
  refine lv_aload_n hx hb dX5_lays_24 rfl (lv_at hl 1 rfl) ?_
  refine va_get (D := (dC, dI)) (ci := 5) (v := .ref g_nodeR) (C := RX5) (T := TX5) (N := 30) hx hb hts hi_5 hown hK hP 0 rfl rfl 13 (by decide) hf_41 (fun _ h9 => h9) rfl dX5_lays_25 ?_
  refine lv_iload hx hb dX5_lays_28 (lv_at hl 0 rfl) ?_
  refine lv_iload_n hx hb dX5_lays_30 rfl (lv_at hl 3 rfl) ?_
  refine va_iast hx hb hK hP hD hS 10 0 rfl rfl (ki_in (om_10 b5) (om_325 b1 b6)) dX5_lays_31 (fun H locs hP hD hS => ?_)
  obtain ⟨hP, hD⟩ := kx_re (w2 := [kx_5 h0 g_row m_n m_slots m_thrown g_many g_loss g_less g_voteValue g_voteNumber g_allValue g_allNumber m_allMany g_nodeL g_nodeR y_1 g_part m_partMany g_wasMany g_wasLoss g_wasValue g_wasNumber g_path m_pathMany g_heavyValue g_heavyTimes m_heavyMany g_fewest g_which g_met m_mostMet, kx_a g_row cyI 160 f, kx_a g_many cyI 324 fm, kx_a g_loss cyI 324 fl, kx_a g_less cyI 324 fe, kx_a g_voteValue cyI 1944 vv, kx_a g_voteNumber cyI 1944 vn, kx_a g_allValue cyI 12 av, kx_a g_allNumber cyI 12 an, kx_a g_nodeL cyI 320 (upd nl m_nodes.toNatClampNeg p0), kx_a g_nodeR cyI 320 (upd nr m_nodes.toNatClampNeg p1)]) hP hD rfl
  refine lv_iload_n hx hb dX5_lays_32 rfl (lv_at hl 3 rfl) ?_
  refine lv_iload_n hx hb dX5_lays_33 rfl (lv_at hl 2 rfl) ?_
  refine lv_isub hx hb dX5_lays_34 ?_
  refine lv_topi (fun y_2 ey_2 => ?_)
  have i_2 : y_2.toInt = p1.toInt - p0.toInt := ki_sub ey_2 rfl rfl (om_168 b1) (om_348 b7)
  refine lv_iconst (v := 1) hx hb dX5_lays_35 (by decide) ?_
  refine lv_icmp_ne (tgt := 54) hx hb dX5_lays_36 (by decide) (fun c_3 => ?_) (fun c_3 => ?_)
  · have i_3 : ¬ y_2.toInt = 1 := kc_ne c_3
    refine lv_iload_n hx hb dX5_lays_54 rfl (lv_at hl 2 rfl) ?_
    refine lv_iload_n hx hb dX5_lays_55 rfl (lv_at hl 3 rfl) ?_
    refine lv_iadd hx hb dX5_lays_56 ?_
    refine lv_topi (fun y_4 ey_4 => ?_)
    have i_4 : y_4.toInt = p0.toInt + p1.toInt := ki_add ey_4 rfl rfl (om_330 b0 b1) (om_331 b1 b2)
    refine lv_iconst (v := 2) hx hb dX5_lays_57 (by decide) ?_
    refine lv_idiv hx hb dX5_lays_58 (by decide) ?_
    refine lv_topi (fun y_5 ey_5 => ?_)
    have i_5 : y_5.toInt = y_4.toInt / 2 := ki_div2 ey_5 rfl (om_332 b0 b1 i_4)
    have d_6 := om_dv i_5
    refine lv_istore (lv' := [(5, .int y_5), (4, .int m_nodes), (0, .ref h0), (1, .int p0), (2, .int p1), (3, .int p2)]) hx hb dX5_lays_59 hl (by decide) rfl (fun ls hl => ?_)
    refine lv_aload_n hx hb dX5_lays_61 rfl (lv_at hl 2 rfl) ?_
    refine lv_iload_n hx hb dX5_lays_62 rfl (lv_at hl 3 rfl) ?_
    refine lv_iload hx hb dX5_lays_63 (lv_at hl 0 rfl) ?_
    refine lv_iload_n hx hb dX5_lays_65 rfl (lv_at hl 5 rfl) ?_
    have hPc := hP
    have hKc := hK
    have hDc := hD
    have hFc := kx_free hD hS hA
    refine va_calli (va_runV (As := [.int p0, .int y_5, .int p2]) (rest := []) ⟨hx, hb, hml, hown, hts⟩ (kx_un (c_X5_lays_1 l dC dI h0 g_row g_many g_loss g_less g_voteValue g_voteNumber g_allValue g_allNumber g_nodeL g_nodeR g_part g_wasMany g_wasLoss g_wasValue g_wasNumber g_path g_heavyValue g_heavyTimes g_fewest g_which g_met m_n m_slots m_thrown m_allMany y_1 m_partMany m_pathMany m_heavyMany m_mostMet cyI fm fl fe vv vn f av an (upd nl m_nodes.toNatClampNeg p0) (upd nr m_nodes.toNatClampNeg p1) p0 y_5 p2 H.size b0 (by omega) (om_333 b1 b2 i_4 d_6.1) b3 b4 (om_34 b5 i_1) (om_334 b1 b6 i_1 i_4 d_6.1) s4 (om_349 b7 i_4 d_6.1))) (cwV 3 hts gX5_lays_X5_lays rfl rfl rfl (by decide +kernel) ⟨Nat.le_of_ble_eq_true rfl, Nat.le_of_ble_eq_true rfl⟩) ⟨fun a U g mk q => by obtain ⟨q0, q1, qP, qK, qD⟩ := q; exact ⟨q0, q1, qP, va_K.moved (u := U) (U := U.calling g mk a) (Vm.Alike.refl U.vm) qK, qD⟩, kx_rc5 hKc hPc (q0 := 0) rfl, fun U hU hW => ⟨rfl, by rw [hU], by rw [hU]; exact hPc, va_K.moved hW.alike hKc, hDc.weaken (fun _ _ _ _ => trivial)⟩⟩ rfl rfl hl.1 rfl (lv_room (Nat.le_of_ble_eq_true rfl)) dX5_lays_66 ⟨Nat.le_of_ble_eq_true rfl, Nat.le_of_ble_eq_true rfl⟩) hS (fun q _ h => hFc q h) hFc (fun r_7 u t H1 locs ht hvm w_7 hB hz1 hk1 hS => ?_)
    obtain ⟨o_8, o_9, o_10, o_11, o_12, o_13, o_14, o_15, o_16, o_17, o_18⟩ := u
    dsimp only at w_7 hB
    obtain ⟨hP1, hK1, hD1⟩ := hB
    rw [ht] at hP1
    have hK1 := va_K.moved hvm.symm hK1
    have hD := hD1.weaken (fun _ q _ h => hFc q.1 h)
    have hP := hP1
    clear hP1 hD1 hK1 hk1 hz1 hFc hDc hPc hKc
    generalize H1 = H at hP hS ⊢
    have w_7 : r_7 = y_1 ∧ o_8.toInt = y_1.toInt + 2 * (y_5.toInt - p0.toInt) - 1 ∧ six4 o_10 ∧ mj_S p2.toNatClampNeg f o_17 o_18 o_10 o_11 o_12 o_13 o_14 1 y_1.toNatClampNeg p0.toNatClampNeg y_5.toNatClampNeg ∧ mj_ag 0 y_1.toNatClampNeg (upd nl m_nodes.toNatClampNeg p0) (upd nr m_nodes.toNatClampNeg p1) fm fl fe vv vn o_17 o_18 o_10 o_11 o_12 o_13 o_14 := w_7
    refine lv_istore (lv' := [(6, .int r_7), (5, .int y_5), (4, .int m_nodes), (0, .ref h0), (1, .int p0), (2, .int p1), (3, .int p2)]) hx hb dX5_lays_69 hl (by decide) rfl (fun ls hl => ?_)
    refine lv_aload_n hx hb dX5_lays_71 rfl (lv_at hl 3 rfl) ?_
    refine lv_iload hx hb dX5_lays_72 (lv_at hl 1 rfl) ?_
    refine lv_iload_n hx hb dX5_lays_74 rfl (lv_at hl 5 rfl) ?_
    refine lv_iload_n hx hb dX5_lays_75 rfl (lv_at hl 6 rfl) ?_
    have hPc := hP
    have hKc := hK
    have hDc := hD
    have hFc := kx_free hD hS hA
    refine va_calli (va_runV (As := [.int y_5, .int p1, .int p2]) (rest := []) ⟨hx, hb, hml, hown, hts⟩ (kx_un (c_X5_lays_1 l dC dI h0 g_row g_many g_loss g_less g_voteValue g_voteNumber g_allValue g_allNumber g_nodeL g_nodeR g_part g_wasMany g_wasLoss g_wasValue g_wasNumber g_path g_heavyValue g_heavyTimes g_fewest g_which g_met m_n m_slots m_thrown o_9 o_8 m_partMany m_pathMany m_heavyMany m_mostMet cyI o_10 o_11 o_12 o_13 o_14 f o_15 o_16 o_17 o_18 y_5 p1 p2 H.size (om_336 b0 b1 i_4 d_6.2) (by omega) b2 b3 b4 (om_337 b1 b5 i_1 i_4 d_6.2 w_7.2.1) (om_338 b6 i_1 w_7.2.1) w_7.2.2.1 (by omega))) (cwV 3 hts gX5_lays_X5_lays rfl rfl rfl (by decide +kernel) ⟨Nat.le_of_ble_eq_true rfl, Nat.le_of_ble_eq_true rfl⟩) ⟨fun a U g mk q => by obtain ⟨q0, q1, qP, qK, qD⟩ := q; exact ⟨q0, q1, qP, va_K.moved (u := U) (U := U.calling g mk a) (Vm.Alike.refl U.vm) qK, qD⟩, kx_rc5 hKc hPc (q0 := 0) rfl, fun U hU hW => ⟨rfl, by rw [hU], by rw [hU]; exact hPc, va_K.moved hW.alike hKc, hDc.weaken (fun _ _ _ _ => trivial)⟩⟩ rfl rfl hl.1 rfl (lv_room (Nat.le_of_ble_eq_true rfl)) dX5_lays_76 ⟨Nat.le_of_ble_eq_true rfl, Nat.le_of_ble_eq_true rfl⟩) hS (fun q _ h => hFc q h) hFc (fun r_19 u t H1 locs ht hvm w_19 hB hz1 hk1 hS => ?_)
    obtain ⟨o_20, o_21, o_22, o_23, o_24, o_25, o_26, o_27, o_28, o_29, o_30⟩ := u
    dsimp only at w_19 hB
    obtain ⟨hP1, hK1, hD1⟩ := hB
    rw [ht] at hP1
    have hK1 := va_K.moved hvm.symm hK1
    have hD := hD1.weaken (fun _ q _ h => hFc q.1 h)
    have hP := hP1
    clear hP1 hD1 hK1 hk1 hz1 hFc hDc hPc hKc
    generalize H1 = H at hP hS ⊢
    have w_19 : r_19 = o_8 ∧ o_20.toInt = o_8.toInt + 2 * (p1.toInt - y_5.toInt) - 1 ∧ six4 o_22 ∧ mj_S p2.toNatClampNeg f o_29 o_30 o_22 o_23 o_24 o_25 o_26 1 o_8.toNatClampNeg y_5.toNatClampNeg p1.toNatClampNeg ∧ mj_ag 0 o_8.toNatClampNeg o_17 o_18 o_10 o_11 o_12 o_13 o_14 o_29 o_30 o_22 o_23 o_24 o_25 o_26 := w_19
    refine lv_istore (lv' := [(7, .int r_19), (6, .int r_7), (5, .int y_5), (4, .int m_nodes), (0, .ref h0), (1, .int p0), (2, .int p1), (3, .int p2)]) hx hb dX5_lays_79 hl (by decide) rfl (fun ls hl => ?_)
    have n_p0 := ki_nat p0 rfl (om_10 b0)
    have n_p1 := ki_nat p1 rfl (om_21 b0 b1)
    have n_p2 := ki_nat p2 rfl (om_51 b3)
    have n_nd := ki_nat m_nodes rfl (om_10 b5)
    have n_y := ki_nat y_1 rfl (om_34 b5 i_1)
    have n_md := ki_nat y_5 rfl (om_336 b0 b1 i_4 d_6.2)
    have n_oL := ki_nat o_8 rfl (om_337 b1 b5 i_1 i_4 d_6.2 w_7.2.1)
    have i_rL : r_7.toInt = y_1.toInt := congrArg Int32.toInt w_7.1
    have i_rR : r_19.toInt = o_8.toInt := congrArg Int32.toInt w_19.1
    obtain ⟨mua, La, ca, tA⟩ := w_7.2.2.2.1
    obtain ⟨mub, Lb, cb, tB⟩ := w_19.2.2.2.1
    obtain ⟨g_1, g_2, g_3, g_4, g_5, g_6⟩ := mj_ly9 n_p0 n_p1 n_nd n_y n_md n_oL i_1 i_4 i_5 w_7.2.1 b1 i_2 i_3
    have tA2 := mj_T_ag _ _ o_8.toNatClampNeg _ _ _ _ _ tA g_1 (mj_ag_sub w_19.2.2.2.2 (Nat.zero_le _) (Nat.le_refl _))
    have nA := mj_T_nd tA2
    have nB := mj_T_nd tB
    refine lv_aload_n hx hb dX5_lays_81 rfl (lv_at hl 4 rfl) ?_
    refine lv_iload hx hb dX5_lays_82 (lv_at hl 1 rfl) ?_
    refine lv_iload hx hb dX5_lays_84 (lv_at hl 0 rfl) ?_
    refine lv_iload hx hb dX5_lays_86 (lv_at hl 3 rfl) ?_
    refine lv_iload_n hx hb dX5_lays_88 rfl (lv_at hl 7 rfl) ?_
    obtain ⟨hPc, hDc, hFc, hCc⟩ := kx_preM (wc := [kx_5 h0 g_row m_n m_slots m_thrown g_many g_loss g_less g_voteValue g_voteNumber g_allValue g_allNumber o_21 g_nodeL g_nodeR o_20 g_part m_partMany g_wasMany g_wasLoss g_wasValue g_wasNumber g_path m_pathMany g_heavyValue g_heavyTimes m_heavyMany g_fewest g_which g_met m_mostMet, kx_a g_many cyI 324 o_22, kx_a g_loss cyI 324 o_23, kx_a g_less cyI 324 o_24, kx_a g_voteValue cyI 1944 o_25, kx_a g_voteNumber cyI 1944 o_26, kx_a g_allValue cyI 12 o_27, kx_a g_allNumber cyI 12 o_28]) hP hD hS hA [true, false, true, true, true, true, true, true, true, false, false] rfl
    have hKc := hK
    refine va_callv (va_runV (As := [.int r_7, .int r_19, .int m_nodes, .int p2]) (rest := []) ⟨hx, hb, hml, hown, hts⟩ (kx_un (c_X5_together l dC dI h0 g_row g_many g_loss g_less g_voteValue g_voteNumber g_allValue g_allNumber g_nodeL g_nodeR g_part g_wasMany g_wasLoss g_wasValue g_wasNumber g_path g_heavyValue g_heavyTimes g_fewest g_which g_met m_n m_slots m_thrown o_21 o_20 m_partMany m_pathMany m_heavyMany m_mostMet cyI o_22 o_23 o_24 o_25 o_26 o_27 o_28 mua mub r_7 r_19 m_nodes p2 H.size (om_339 b5 i_1 i_rL) (om_340 b1 b6 i_1 i_rL) (om_341 b1 b5 i_1 i_4 d_6.2 w_7.2.1 i_rR) (om_342 b1 b6 i_1 i_4 d_6.1 w_7.2.1 i_rR) (om_10 b5) (om_343 b1 b6) (om_51 b3) (om_344 b4) (by rw [w_7.1]; exact nA.2.2.1) (by rw [w_7.1]; exact nA.2.2.2.1) (by rw [w_19.1]; exact nB.2.2.1) (by rw [w_19.1]; exact nB.2.2.2.1) (by rw [w_7.1]; exact nA.2.2.2.2.2.2.2.1) (by rw [w_19.1]; exact nB.2.2.2.2.2.2.2.1) (fun v => by have h1 := mj_T_le _ _ _ _ _ _ _ tA2 v; have h2 := mj_T_le _ _ _ _ _ _ _ tB v; omega))) (cwV 4 hts gX5_lays_X5_together rfl rfl rfl (by decide +kernel) ⟨Nat.le_of_ble_eq_true rfl, Nat.le_of_ble_eq_true rfl⟩) ⟨fun a U g mk q => by obtain ⟨q0, q1, qP, qK, qD⟩ := q; exact ⟨q0, q1, qP, va_K.moved (u := U) (U := U.calling g mk a) (Vm.Alike.refl U.vm) qK, qD⟩, kx_rc5 hKc hPc (q0 := 0) rfl, fun U hU hW => ⟨rfl, by rw [hU], by rw [hU]; exact hPc, va_K.moved hW.alike hKc, hDc.weaken (fun _ _ _ _ => trivial)⟩⟩ rfl rfl hl.1 rfl (lv_room (Nat.le_of_ble_eq_true rfl)) dX5_lays_89 ⟨Nat.le_of_ble_eq_true rfl, Nat.le_of_ble_eq_true rfl⟩) hS (fun q _ h => hFc q h) hFc (fun u t H1 locs ht hvm w_31 hB hz1 hk1 hS => ?_)
    obtain ⟨o_32, o_33, o_34, o_35, o_36, o_37, o_38, o_39, o_40, o_41, o_42⟩ := u
    dsimp only at w_31 hB
    obtain ⟨hP1, hK1, hD1⟩ := hB
    rw [ht] at hP1
    have hK1 := va_K.moved hvm.symm hK1
    obtain ⟨hP, hD⟩ := kx_joinM (w2 := [kx_5 h0 g_row m_n m_slots m_thrown g_many g_loss g_less g_voteValue g_voteNumber g_allValue g_allNumber o_32 g_nodeL g_nodeR o_20 g_part m_partMany g_wasMany g_wasLoss g_wasValue g_wasNumber g_path m_pathMany g_heavyValue g_heavyTimes m_heavyMany g_fewest g_which g_met m_mostMet, kx_a g_row cyI 160 f, kx_a g_many cyI 324 o_36, kx_a g_loss cyI 324 o_37, kx_a g_less cyI 324 o_38, kx_a g_voteValue cyI 1944 o_39, kx_a g_voteNumber cyI 1944 o_40, kx_a g_allValue cyI 12 o_41, kx_a g_allNumber cyI 12 o_42, kx_a g_nodeL cyI 320 o_29, kx_a g_nodeR cyI 320 o_30]) hP hD hP1 hD1 hk1 hFc [true, false, true, true, true, true, true, true, true, false, false] hCc rfl
    clear hP1 hD1 hK1 hk1 hz1 hFc hDc hPc hKc hCc
    generalize H1 = H at hP hS ⊢
    have w_31 : mj_tog p2.toNatClampNeg mua mub o_35 o_33 ∧ o_37 = upd o_23 m_nodes.toNatClampNeg (o_23 r_7.toNatClampNeg + o_23 r_19.toNatClampNeg + o_33) ∧ o_38 = upd o_24 m_nodes.toNatClampNeg o_33 ∧ o_36 = upd o_22 m_nodes.toNatClampNeg o_34 ∧ 0 ≤ o_34.toInt ∧ o_34.toInt ≤ p2.toInt ∧ mj_vs o_39 o_40 (6 * m_nodes.toNatClampNeg) o_34.toNatClampNeg o_35 ∧ mj_srt o_39 o_40 (6 * m_nodes.toNatClampNeg) o_34.toNatClampNeg ∧ ∀ q : Nat, (q < 6 * m_nodes.toNatClampNeg ∨ 6 * m_nodes.toNatClampNeg + 6 ≤ q) → o_39 q = o_25 q ∧ o_40 q = o_26 q := w_31
    refine lv_iload hx hb dX5_lays_92 (lv_at hl 3 rfl) ?_
    have hP9 := hP
    have hD9 := hD
    have hK9 := hK
    have e_fl := w_31.2.1
    rw [w_7.1, w_19.1] at e_fl
    have hN := mj_lay_node (l := p0.toNatClampNeg) (r := p1.toNatClampNeg) (md := y_5.toNatClampNeg) (a := m_nodes.toNatClampNeg) g_2 g_3 n_p0.symm n_p1.symm g_4 g_5 (mj_ag_sub w_7.2.2.2.2 (Nat.le_refl _) g_6) w_19.2.2.2.2 tA2 tB w_31.1 w_31.2.2.2.1 w_31.2.2.2.2.1 (Int.le_trans w_31.2.2.2.2.2.1 (Int.le_of_eq n_p2.symm)) (mj_ln6 n_p2 b4) e_fl w_31.2.2.1 w_31.2.2.2.2.2.2.1 w_31.2.2.2.2.2.2.2.1 w_31.2.2.2.2.2.2.2.2
    exact W.iret (v := m_nodes) hx hb hr (hlocks := hlocks) (fun t ht hW => ⟨⟨m_nodes, (o_20, o_32, o_36, o_37, o_38, o_39, o_40, o_41, o_42, o_29, o_30), rfl, ⟨rfl, (om_345 i_1 w_7.2.1 w_19.2.1), (by (try dsimp only); rw [w_31.2.2.2.1]; exact six4_upd w_19.2.2.1 w_31.2.2.2.2.1 (om_346 b4 w_31.2.2.2.2.2.1)), hN.1, hN.2⟩, by rw [ht]; exact hP9, va_K.moved hW.alike hK9, hD9⟩, hS.F ht⟩) hS.2.2 dX5_lays_94
  · have i_3 : y_2.toInt = 1 := kc_eq c_3
    refine lv_aload_n hx hb dX5_lays_39 rfl (lv_at hl 1 rfl) ?_
    refine lv_iload hx hb dX5_lays_40 (lv_at hl 0 rfl) ?_
    refine lv_aload_n hx hb dX5_lays_42 rfl (lv_at hl 1 rfl) ?_
    refine va_get (D := (dC, dI)) (ci := 5) (v := .ref g_row) (C := RX5) (T := TX5) (N := 30) hx hb hts hi_5 hown hK hP 0 rfl rfl 0 (by decide) hf_7 (fun _ h9 => h9) rfl dX5_lays_43 ?_
    refine lv_iload_n hx hb dX5_lays_46 rfl (lv_at hl 2 rfl) ?_
    refine va_iald hx hb hK hP 1 0 rfl rfl (ki_in (om_10 b0) (om_85 b1 b2)) dX5_lays_47 ?_
    refine lv_topi (fun y_43 ey_43 => ?_)
    have j_43 : y_43.toInt = (f p0.toNatClampNeg).toInt := congrArg Int32.toInt ey_43
    obtain ⟨hPc, hDc, hFc, hCc⟩ := kx_preM (wc := [kx_5 h0 g_row m_n m_slots m_thrown g_many g_loss g_less g_voteValue g_voteNumber g_allValue g_allNumber m_allMany g_nodeL g_nodeR y_1 g_part m_partMany g_wasMany g_wasLoss g_wasValue g_wasNumber g_path m_pathMany g_heavyValue g_heavyTimes m_heavyMany g_fewest g_which g_met m_mostMet, kx_a g_many cyI 324 fm, kx_a g_loss cyI 324 fl, kx_a g_less cyI 324 fe, kx_a g_voteValue cyI 1944 vv, kx_a g_voteNumber cyI 1944 vn]) hP hD hS hA [true, false, true, true, true, true, true, false, false, false, false] rfl
    have hKc := hK
    refine va_callv (va_runV (As := [.int m_nodes, .int y_43]) (rest := []) ⟨hx, hb, hml, hown, hts⟩ (kx_un (c_X5_one_x l dC dI h0 g_row g_many g_loss g_less g_voteValue g_voteNumber g_allValue g_allNumber g_nodeL g_nodeR g_part g_wasMany g_wasLoss g_wasValue g_wasNumber g_path g_heavyValue g_heavyTimes g_fewest g_which g_met m_n m_slots m_thrown m_allMany y_1 m_partMany m_pathMany m_heavyMany m_mostMet cyI fm fl fe vv vn m_nodes y_43 H.size b5 (om_327 b1 b6))) (cwV 2 hts gX5_lays_X5_one rfl rfl rfl (by decide +kernel) ⟨Nat.le_of_ble_eq_true rfl, Nat.le_of_ble_eq_true rfl⟩) ⟨fun a U g mk q => by obtain ⟨q0, q1, qP, qK, qD⟩ := q; exact ⟨q0, q1, qP, va_K.moved (u := U) (U := U.calling g mk a) (Vm.Alike.refl U.vm) qK, qD⟩, kx_rc5 hKc hPc (q0 := 0) rfl, fun U hU hW => ⟨rfl, by rw [hU], by rw [hU]; exact hPc, va_K.moved hW.alike hKc, hDc.weaken (fun _ _ _ _ => trivial)⟩⟩ rfl rfl hl.1 rfl (lv_room (Nat.le_of_ble_eq_true rfl)) dX5_lays_48 ⟨Nat.le_of_ble_eq_true rfl, Nat.le_of_ble_eq_true rfl⟩) hS (fun q _ h => hFc q h) hFc (fun u t H1 locs ht hvm w_44 hB hz1 hk1 hS => ?_)
    obtain ⟨o_45, o_46, o_47, o_48, o_49⟩ := u
    dsimp only at w_44 hB
    obtain ⟨hP1, hK1, hD1⟩ := hB
    rw [ht] at hP1
    have hK1 := va_K.moved hvm.symm hK1
    obtain ⟨hP, hD⟩ := kx_joinM (w2 := [kx_5 h0 g_row m_n m_slots m_thrown g_many g_loss g_less g_voteValue g_voteNumber g_allValue g_allNumber m_allMany g_nodeL g_nodeR y_1 g_part m_partMany g_wasMany g_wasLoss g_wasValue g_wasNumber g_path m_pathMany g_heavyValue g_heavyTimes m_heavyMany g_fewest g_which g_met m_mostMet, kx_a g_row cyI 160 f, kx_a g_many cyI 324 o_45, kx_a g_loss cyI 324 o_46, kx_a g_less cyI 324 o_47, kx_a g_voteValue cyI 1944 o_48, kx_a g_voteNumber cyI 1944 o_49, kx_a g_allValue cyI 12 av, kx_a g_allNumber cyI 12 an, kx_a g_nodeL cyI 320 (upd nl m_nodes.toNatClampNeg p0), kx_a g_nodeR cyI 320 (upd nr m_nodes.toNatClampNeg p1)]) hP hD hP1 hD1 hk1 hFc [true, false, true, true, true, true, true, false, false, false, false] hCc rfl
    clear hP1 hD1 hK1 hk1 hz1 hFc hDc hPc hKc hCc
    generalize H1 = H at hP hS ⊢
    have w_44 : o_45 = upd fm m_nodes.toNatClampNeg 1 ∧ o_46 = upd fl m_nodes.toNatClampNeg 0 ∧ o_47 = upd fe m_nodes.toNatClampNeg 0 ∧ o_48 = upd vv (6 * m_nodes.toNatClampNeg) y_43 ∧ o_49 = upd vn (6 * m_nodes.toNatClampNeg) 1 := w_44
    refine lv_iload hx hb dX5_lays_51 (lv_at hl 0 rfl) ?_
    have hP9 := hP
    have hD9 := hD
    have hK9 := hK
    have n_p0 := ki_nat p0 rfl (om_10 b0)
    have n_p1 := ki_nat p1 rfl (om_21 b0 b1)
    have n_p2 := ki_nat p2 rfl (om_51 b3)
    have n_nd := ki_nat m_nodes rfl (om_10 b5)
    have e_vv := w_44.2.2.2.1
    rw [ey_43] at e_vv
    have hN := mj_lay_leaf (K := p2.toNatClampNeg) (f := f) (nl := nl) (nr := nr) (l := p0.toNatClampNeg) (r := p1.toNatClampNeg) (l32 := p0) (r32 := p1) 2 (mj_ln1 n_p2 b3) (mj_lf9 n_p0 n_p1 i_2 i_3) n_p0.symm n_p1.symm w_44.1 w_44.2.1 w_44.2.2.1 e_vv w_44.2.2.2.2
    exact W.iret (v := m_nodes) hx hb hr (hlocks := hlocks) (fun t ht hW => ⟨⟨m_nodes, (y_1, m_allMany, o_45, o_46, o_47, o_48, o_49, av, an, (upd nl m_nodes.toNatClampNeg p0), (upd nr m_nodes.toNatClampNeg p1)), rfl, ⟨rfl, (om_347 b1 i_1 i_2 i_3), (by (try dsimp only); rw [w_44.1]; exact six4_upd s4 (by decide) (by decide)), hN.1, hN.2⟩, by rw [ht]; exact hP9, va_K.moved hW.alike hK9, hD9⟩, hS.F ht⟩) hS.2.2 dX5_lays_53

set_option maxHeartbeats 4000000 in
set_option maxRecDepth 100000 in
theorem c_X5_lays_3 (l : Launch) (dC : Nat → ClassId) (dI : Nat → Nat → Nat) (h0 : Nat) (g_row : Nat) (g_many : Nat) (g_loss : Nat) (g_less : Nat) (g_voteValue : Nat) (g_voteNumber : Nat) (g_allValue : Nat) (g_allNumber : Nat) (g_nodeL : Nat) (g_nodeR : Nat) (g_part : Nat) (g_wasMany : Nat) (g_wasLoss : Nat) (g_wasValue : Nat) (g_wasNumber : Nat) (g_path : Nat) (g_heavyValue : Nat) (g_heavyTimes : Nat) (g_fewest : Nat) (g_which : Nat) (g_met : Nat) (m_n : Int32) (m_slots : Int32) (m_thrown : Int32) (m_allMany : Int32) (m_nodes : Int32) (m_partMany : Int32) (m_pathMany : Int32) (m_heavyMany : Int32) (m_mostMet : Int32) (cyI : ClassId) (fm : Nat → Int32) (fl : Nat → Int32) (fe : Nat → Int32) (vv : Nat → Int32) (vn : Nat → Int32) (f : Nat → Int32) (av : Nat → Int32) (an : Nat → Int32) (nl : Nat → Int32) (nr : Nat → Int32) (p0 : Int32) (p1 : Int32) (p2 : Int32) (sz : Nat) (b0 : 0 ≤ p0.toInt) (b1 : p0.toInt < p1.toInt) (b2 : p1.toInt ≤ 160) (b3 : 1 ≤ p2.toInt) (b4 : p2.toInt ≤ 6) (b5 : 0 ≤ m_nodes.toInt) (b6 : m_nodes.toInt + 2 * (p1.toInt - p0.toInt) - 1 ≤ 319) (s4 : six4 fm) (b7 : p1.toInt - p0.toInt ≤ 8) : kx_MQ l (dC, dI) yX5_lays wsX5_lays ({ frames := 5, cells := 0, slots := 0, locals := 225 }) [.ref h0, .int p0, .int p1, .int p2] [kx_5 h0 g_row m_n m_slots m_thrown g_many g_loss g_less g_voteValue g_voteNumber g_allValue g_allNumber m_allMany g_nodeL g_nodeR m_nodes g_part m_partMany g_wasMany g_wasLoss g_wasValue g_wasNumber g_path m_pathMany g_heavyValue g_heavyTimes m_heavyMany g_fewest g_which g_met m_mostMet, kx_a g_row cyI 160 f, kx_a g_many cyI 324 fm, kx_a g_loss cyI 324 fl, kx_a g_less cyI 324 fe, kx_a g_voteValue cyI 1944 vv, kx_a g_voteNumber cyI 1944 vn, kx_a g_allValue cyI 12 av, kx_a g_allNumber cyI 12 an, kx_a g_nodeL cyI 320 nl, kx_a g_nodeR cyI 320 nr] [(cyI, .int)] sz (fun A => va_Qi (fun (r : Int32) (u : Int32 × Int32 × (Nat → Int32) × (Nat → Int32) × (Nat → Int32) × (Nat → Int32) × (Nat → Int32) × (Nat → Int32) × (Nat → Int32) × (Nat → Int32) × (Nat → Int32)) => r = m_nodes ∧ u.1.toInt = m_nodes.toInt + 2 * (p1.toInt - p0.toInt) - 1 ∧ six4 u.2.2.1 ∧ mj_S p2.toNatClampNeg f u.2.2.2.2.2.2.2.2.2.1 u.2.2.2.2.2.2.2.2.2.2 u.2.2.1 u.2.2.2.1 u.2.2.2.2.1 u.2.2.2.2.2.1 u.2.2.2.2.2.2.1 3 m_nodes.toNatClampNeg p0.toNatClampNeg p1.toNatClampNeg ∧ mj_ag 0 m_nodes.toNatClampNeg nl nr fm fl fe vv vn u.2.2.2.2.2.2.2.2.2.1 u.2.2.2.2.2.2.2.2.2.2 u.2.2.1 u.2.2.2.1 u.2.2.2.2.1 u.2.2.2.2.2.1 u.2.2.2.2.2.2.1) (fun (u : Int32 × Int32 × (Nat → Int32) × (Nat → Int32) × (Nat → Int32) × (Nat → Int32) × (Nat → Int32) × (Nat → Int32) × (Nat → Int32) × (Nat → Int32) × (Nat → Int32)) (t : State) => va_P (dC, dI) vwCl [kx_5 h0 g_row m_n m_slots m_thrown g_many g_loss g_less g_voteValue g_voteNumber g_allValue g_allNumber u.2.1 g_nodeL g_nodeR u.1 g_part m_partMany g_wasMany g_wasLoss g_wasValue g_wasNumber g_path m_pathMany g_heavyValue g_heavyTimes m_heavyMany g_fewest g_which g_met m_mostMet, kx_a g_row cyI 160 f, kx_a g_many cyI 324 u.2.2.1, kx_a g_loss cyI 324 u.2.2.2.1, kx_a g_less cyI 324 u.2.2.2.2.1, kx_a g_voteValue cyI 1944 u.2.2.2.2.2.1, kx_a g_voteNumber cyI 1944 u.2.2.2.2.2.2.1, kx_a g_allValue cyI 12 u.2.2.2.2.2.2.2.1, kx_a g_allNumber cyI 12 u.2.2.2.2.2.2.2.2.1, kx_a g_nodeL cyI 320 u.2.2.2.2.2.2.2.2.2.1, kx_a g_nodeR cyI 320 u.2.2.2.2.2.2.2.2.2.2] t.heap ∧ va_K (dC, dI) vwCl [(cyI, .int)] t ∧ va_D A [kx_5 h0 g_row m_n m_slots m_thrown g_many g_loss g_less g_voteValue g_voteNumber g_allValue g_allNumber u.2.1 g_nodeL g_nodeR u.1 g_part m_partMany g_wasMany g_wasLoss g_wasValue g_wasNumber g_path m_pathMany g_heavyValue g_heavyTimes m_heavyMany g_fewest g_which g_met m_mostMet, kx_a g_row cyI 160 f, kx_a g_many cyI 324 u.2.2.1, kx_a g_loss cyI 324 u.2.2.2.1, kx_a g_less cyI 324 u.2.2.2.2.1, kx_a g_voteValue cyI 1944 u.2.2.2.2.2.1, kx_a g_voteNumber cyI 1944 u.2.2.2.2.2.2.1, kx_a g_allValue cyI 12 u.2.2.2.2.2.2.2.1, kx_a g_allNumber cyI 12 u.2.2.2.2.2.2.2.2.1, kx_a g_nodeL cyI 320 u.2.2.2.2.2.2.2.2.2.1, kx_a g_nodeR cyI 320 u.2.2.2.2.2.2.2.2.2.2]) A) := by
  refine kx_stQ (ws := wsX5_lays) (cc := cX5_lays) (maxL := 8) (ret := (some .int)) (by decide) rfl (Nat.le_of_ble_eq_true rfl) ?_
  intro p e s m below meth c A ls hx hb hr hlocks hts hown hml hA hS hP hK hD hl
  have hown : s.vm.findClass RX5 = some m.cls := hown
  have hl : lv_has ls 8 [(0, .ref h0), (1, .int p0), (2, .int p1), (3, .int p2)] := hl
  have hf_101 := hts (.fieldLink RX5 101 "MajorityIndexModel" "nodes" "I") (List.mem_of_getElem? (i := 1) rfl)
  have hi_5 : ∀ w ∈ u_ws RX5 TX5 30, w ∈ wsX5_lays := fun w h => List.mem_cons_of_mem _ (List.mem_append_right _ h)
  have hf_38 := hts (.fieldLink RX5 38 "MajorityIndexModel" "nodeL" "[I") (List.mem_of_getElem? (i := 2) rfl)
  have hf_41 := hts (.fieldLink RX5 41 "MajorityIndexModel" "nodeR" "[I") (List.mem_of_getElem? (i := 3) rfl)
  have hf_7 := hts (.fieldLink RX5 7 "MajorityIndexModel" "row" "[I") (List.mem_of_getElem? (i := 4) rfl)
  refine lv_aload_n hx hb dX5_lays_0 rfl (lv_at hl 0 rfl) ?_
  refine va_get (D := (dC, dI)) (ci := 5) (v := .int m_nodes) (C := RX5) (T := TX5) (N := 30) hx hb hts hi_5 hown hK hP 0 rfl rfl 14 (by decide) hf_101 (fun _ h9 => h9) rfl dX5_lays_1 ?_
  refine lv_istore (lv' := [(4, .int m_nodes), (0, .ref h0), (1, .int p0), (2, .int p1), (3, .int p2)]) hx hb dX5_lays_4 hl (by decide) rfl (fun ls hl => ?_)
  refine lv_aload_n hx hb dX5_lays_6 rfl (lv_at hl 1 rfl) ?_
  refine lv_dup hx hb dX5_lays_7 rfl ?_
  refine va_get (D := (dC, dI)) (ci := 5) (v := .int m_nodes) (C := RX5) (T := TX5) (N := 30) hx hb hts hi_5 hown hK hP 0 rfl rfl 14 (by decide) hf_101 (fun _ h9 => h9) rfl dX5_lays_8 ?_
  refine lv_iconst (v := 1) hx hb dX5_lays_11 (by decide) ?_
  refine lv_iadd hx hb dX5_lays_12 ?_
  refine lv_topi (fun y_1 ey_1 => ?_)
  have i_1 : y_1.toInt = m_nodes.toInt + 1 := ki_add ey_1 rfl rfl (om_13 b5) (om_324 b1 b6)
  refine va_put (D := (dC, dI)) (ci := 5) (v := .int y_1) (ty := .int) (C := RX5) (T := TX5) (N := 30) hx hb hts hi_5 tyX5 tyX5_ok nmX5 hown hK hP hD hS 0 rfl rfl 14 (by decide) hf_101 (fun _ h9 => h9) rfl (by decide +kernel) rfl rfl (Nat.le_of_ble_eq_true rfl) dX5_lays_13 (fun H locs hP hD hS => ?_)
  obtain ⟨hP, hD⟩ := kx_re (w2 := [kx_5 h0 g_row m_n m_slots m_thrown g_many g_loss g_less g_voteValue g_voteNumber g_allValue g_allNumber m_allMany g_nodeL g_nodeR y_1 g_part m_partMany g_wasMany g_wasLoss g_wasValue g_wasNumber g_path m_pathMany g_heavyValue g_heavyTimes m_heavyMany g_fewest g_which g_met m_mostMet, kx_a g_row cyI 160 f, kx_a g_many cyI 324 fm, kx_a g_loss cyI 324 fl, kx_a g_less cyI 324 fe, kx_a g_voteValue cyI 1944 vv, kx_a g_voteNumber cyI 1944 vn, kx_a g_allValue cyI 12 av, kx_a g_allNumber cyI 12 an, kx_a g_nodeL cyI 320 nl, kx_a g_nodeR cyI 320 nr]) hP hD rfl
  refine lv_aload_n hx hb dX5_lays_16 rfl (lv_at hl 1 rfl) ?_
  refine va_get (D := (dC, dI)) (ci := 5) (v := .ref g_nodeL) (C := RX5) (T := TX5) (N := 30) hx hb hts hi_5 hown hK hP 0 rfl rfl 12 (by decide) hf_38 (fun _ h9 => h9) rfl dX5_lays_17 ?_
  refine lv_iload hx hb dX5_lays_20 (lv_at hl 0 rfl) ?_
  refine lv_iload_n hx hb dX5_lays_22 rfl (lv_at hl 2 rfl) ?_
  refine va_iast hx hb hK hP hD hS 9 0 rfl rfl (ki_in (om_10 b5) (om_325 b1 b6)) dX5_lays_23 (fun H locs hP hD hS => ?_)
  obtain ⟨hP, hD⟩ := kx_re (w2 := [kx_5 h0 g_row m_n m_slots m_thrown g_many g_loss g_less g_voteValue g_voteNumber g_allValue g_allNumber m_allMany g_nodeL g_nodeR y_1 g_part m_partMany g_wasMany g_wasLoss g_wasValue g_wasNumber g_path m_pathMany g_heavyValue g_heavyTimes m_heavyMany g_fewest g_which g_met m_mostMet, kx_a g_row cyI 160 f, kx_a g_many cyI 324 fm, kx_a g_loss cyI 324 fl, kx_a g_less cyI 324 fe, kx_a g_voteValue cyI 1944 vv, kx_a g_voteNumber cyI 1944 vn, kx_a g_allValue cyI 12 av, kx_a g_allNumber cyI 12 an, kx_a g_nodeL cyI 320 (upd nl m_nodes.toNatClampNeg p0), kx_a g_nodeR cyI 320 nr]) hP hD rfl
  refine lv_aload_n hx hb dX5_lays_24 rfl (lv_at hl 1 rfl) ?_
  refine va_get (D := (dC, dI)) (ci := 5) (v := .ref g_nodeR) (C := RX5) (T := TX5) (N := 30) hx hb hts hi_5 hown hK hP 0 rfl rfl 13 (by decide) hf_41 (fun _ h9 => h9) rfl dX5_lays_25 ?_
  refine lv_iload hx hb dX5_lays_28 (lv_at hl 0 rfl) ?_
  refine lv_iload_n hx hb dX5_lays_30 rfl (lv_at hl 3 rfl) ?_
  refine va_iast hx hb hK hP hD hS 10 0 rfl rfl (ki_in (om_10 b5) (om_325 b1 b6)) dX5_lays_31 (fun H locs hP hD hS => ?_)
  obtain ⟨hP, hD⟩ := kx_re (w2 := [kx_5 h0 g_row m_n m_slots m_thrown g_many g_loss g_less g_voteValue g_voteNumber g_allValue g_allNumber m_allMany g_nodeL g_nodeR y_1 g_part m_partMany g_wasMany g_wasLoss g_wasValue g_wasNumber g_path m_pathMany g_heavyValue g_heavyTimes m_heavyMany g_fewest g_which g_met m_mostMet, kx_a g_row cyI 160 f, kx_a g_many cyI 324 fm, kx_a g_loss cyI 324 fl, kx_a g_less cyI 324 fe, kx_a g_voteValue cyI 1944 vv, kx_a g_voteNumber cyI 1944 vn, kx_a g_allValue cyI 12 av, kx_a g_allNumber cyI 12 an, kx_a g_nodeL cyI 320 (upd nl m_nodes.toNatClampNeg p0), kx_a g_nodeR cyI 320 (upd nr m_nodes.toNatClampNeg p1)]) hP hD rfl
  refine lv_iload_n hx hb dX5_lays_32 rfl (lv_at hl 3 rfl) ?_
  refine lv_iload_n hx hb dX5_lays_33 rfl (lv_at hl 2 rfl) ?_
  refine lv_isub hx hb dX5_lays_34 ?_
  refine lv_topi (fun y_2 ey_2 => ?_)
  have i_2 : y_2.toInt = p1.toInt - p0.toInt := ki_sub ey_2 rfl rfl (om_168 b1) (om_350 b7)
  refine lv_iconst (v := 1) hx hb dX5_lays_35 (by decide) ?_
  refine lv_icmp_ne (tgt := 54) hx hb dX5_lays_36 (by decide) (fun c_3 => ?_) (fun c_3 => ?_)
  · have i_3 : ¬ y_2.toInt = 1 := kc_ne c_3
    refine lv_iload_n hx hb dX5_lays_54 rfl (lv_at hl 2 rfl) ?_
    refine lv_iload_n hx hb dX5_lays_55 rfl (lv_at hl 3 rfl) ?_
    refine lv_iadd hx hb dX5_lays_56 ?_
    refine lv_topi (fun y_4 ey_4 => ?_)
    have i_4 : y_4.toInt = p0.toInt + p1.toInt := ki_add ey_4 rfl rfl (om_330 b0 b1) (om_331 b1 b2)
    refine lv_iconst (v := 2) hx hb dX5_lays_57 (by decide) ?_
    refine lv_idiv hx hb dX5_lays_58 (by decide) ?_
    refine lv_topi (fun y_5 ey_5 => ?_)
    have i_5 : y_5.toInt = y_4.toInt / 2 := ki_div2 ey_5 rfl (om_332 b0 b1 i_4)
    have d_6 := om_dv i_5
    refine lv_istore (lv' := [(5, .int y_5), (4, .int m_nodes), (0, .ref h0), (1, .int p0), (2, .int p1), (3, .int p2)]) hx hb dX5_lays_59 hl (by decide) rfl (fun ls hl => ?_)
    refine lv_aload_n hx hb dX5_lays_61 rfl (lv_at hl 2 rfl) ?_
    refine lv_iload_n hx hb dX5_lays_62 rfl (lv_at hl 3 rfl) ?_
    refine lv_iload hx hb dX5_lays_63 (lv_at hl 0 rfl) ?_
    refine lv_iload_n hx hb dX5_lays_65 rfl (lv_at hl 5 rfl) ?_
    have hPc := hP
    have hKc := hK
    have hDc := hD
    have hFc := kx_free hD hS hA
    refine va_calli (va_runV (As := [.int p0, .int y_5, .int p2]) (rest := []) ⟨hx, hb, hml, hown, hts⟩ (kx_un (c_X5_lays_2 l dC dI h0 g_row g_many g_loss g_less g_voteValue g_voteNumber g_allValue g_allNumber g_nodeL g_nodeR g_part g_wasMany g_wasLoss g_wasValue g_wasNumber g_path g_heavyValue g_heavyTimes g_fewest g_which g_met m_n m_slots m_thrown m_allMany y_1 m_partMany m_pathMany m_heavyMany m_mostMet cyI fm fl fe vv vn f av an (upd nl m_nodes.toNatClampNeg p0) (upd nr m_nodes.toNatClampNeg p1) p0 y_5 p2 H.size b0 (by omega) (om_333 b1 b2 i_4 d_6.1) b3 b4 (om_34 b5 i_1) (om_334 b1 b6 i_1 i_4 d_6.1) s4 (om_351 b7 i_4 d_6.1))) (cwV 3 hts gX5_lays_X5_lays rfl rfl rfl (by decide +kernel) ⟨Nat.le_of_ble_eq_true rfl, Nat.le_of_ble_eq_true rfl⟩) ⟨fun a U g mk q => by obtain ⟨q0, q1, qP, qK, qD⟩ := q; exact ⟨q0, q1, qP, va_K.moved (u := U) (U := U.calling g mk a) (Vm.Alike.refl U.vm) qK, qD⟩, kx_rc5 hKc hPc (q0 := 0) rfl, fun U hU hW => ⟨rfl, by rw [hU], by rw [hU]; exact hPc, va_K.moved hW.alike hKc, hDc.weaken (fun _ _ _ _ => trivial)⟩⟩ rfl rfl hl.1 rfl (lv_room (Nat.le_of_ble_eq_true rfl)) dX5_lays_66 ⟨Nat.le_of_ble_eq_true rfl, Nat.le_of_ble_eq_true rfl⟩) hS (fun q _ h => hFc q h) hFc (fun r_7 u t H1 locs ht hvm w_7 hB hz1 hk1 hS => ?_)
    obtain ⟨o_8, o_9, o_10, o_11, o_12, o_13, o_14, o_15, o_16, o_17, o_18⟩ := u
    dsimp only at w_7 hB
    obtain ⟨hP1, hK1, hD1⟩ := hB
    rw [ht] at hP1
    have hK1 := va_K.moved hvm.symm hK1
    have hD := hD1.weaken (fun _ q _ h => hFc q.1 h)
    have hP := hP1
    clear hP1 hD1 hK1 hk1 hz1 hFc hDc hPc hKc
    generalize H1 = H at hP hS ⊢
    have w_7 : r_7 = y_1 ∧ o_8.toInt = y_1.toInt + 2 * (y_5.toInt - p0.toInt) - 1 ∧ six4 o_10 ∧ mj_S p2.toNatClampNeg f o_17 o_18 o_10 o_11 o_12 o_13 o_14 2 y_1.toNatClampNeg p0.toNatClampNeg y_5.toNatClampNeg ∧ mj_ag 0 y_1.toNatClampNeg (upd nl m_nodes.toNatClampNeg p0) (upd nr m_nodes.toNatClampNeg p1) fm fl fe vv vn o_17 o_18 o_10 o_11 o_12 o_13 o_14 := w_7
    refine lv_istore (lv' := [(6, .int r_7), (5, .int y_5), (4, .int m_nodes), (0, .ref h0), (1, .int p0), (2, .int p1), (3, .int p2)]) hx hb dX5_lays_69 hl (by decide) rfl (fun ls hl => ?_)
    refine lv_aload_n hx hb dX5_lays_71 rfl (lv_at hl 3 rfl) ?_
    refine lv_iload hx hb dX5_lays_72 (lv_at hl 1 rfl) ?_
    refine lv_iload_n hx hb dX5_lays_74 rfl (lv_at hl 5 rfl) ?_
    refine lv_iload_n hx hb dX5_lays_75 rfl (lv_at hl 6 rfl) ?_
    have hPc := hP
    have hKc := hK
    have hDc := hD
    have hFc := kx_free hD hS hA
    refine va_calli (va_runV (As := [.int y_5, .int p1, .int p2]) (rest := []) ⟨hx, hb, hml, hown, hts⟩ (kx_un (c_X5_lays_2 l dC dI h0 g_row g_many g_loss g_less g_voteValue g_voteNumber g_allValue g_allNumber g_nodeL g_nodeR g_part g_wasMany g_wasLoss g_wasValue g_wasNumber g_path g_heavyValue g_heavyTimes g_fewest g_which g_met m_n m_slots m_thrown o_9 o_8 m_partMany m_pathMany m_heavyMany m_mostMet cyI o_10 o_11 o_12 o_13 o_14 f o_15 o_16 o_17 o_18 y_5 p1 p2 H.size (om_336 b0 b1 i_4 d_6.2) (by omega) b2 b3 b4 (om_337 b1 b5 i_1 i_4 d_6.2 w_7.2.1) (om_338 b6 i_1 w_7.2.1) w_7.2.2.1 (by omega))) (cwV 3 hts gX5_lays_X5_lays rfl rfl rfl (by decide +kernel) ⟨Nat.le_of_ble_eq_true rfl, Nat.le_of_ble_eq_true rfl⟩) ⟨fun a U g mk q => by obtain ⟨q0, q1, qP, qK, qD⟩ := q; exact ⟨q0, q1, qP, va_K.moved (u := U) (U := U.calling g mk a) (Vm.Alike.refl U.vm) qK, qD⟩, kx_rc5 hKc hPc (q0 := 0) rfl, fun U hU hW => ⟨rfl, by rw [hU], by rw [hU]; exact hPc, va_K.moved hW.alike hKc, hDc.weaken (fun _ _ _ _ => trivial)⟩⟩ rfl rfl hl.1 rfl (lv_room (Nat.le_of_ble_eq_true rfl)) dX5_lays_76 ⟨Nat.le_of_ble_eq_true rfl, Nat.le_of_ble_eq_true rfl⟩) hS (fun q _ h => hFc q h) hFc (fun r_19 u t H1 locs ht hvm w_19 hB hz1 hk1 hS => ?_)
    obtain ⟨o_20, o_21, o_22, o_23, o_24, o_25, o_26, o_27, o_28, o_29, o_30⟩ := u
    dsimp only at w_19 hB
    obtain ⟨hP1, hK1, hD1⟩ := hB
    rw [ht] at hP1
    have hK1 := va_K.moved hvm.symm hK1
    have hD := hD1.weaken (fun _ q _ h => hFc q.1 h)
    have hP := hP1
    clear hP1 hD1 hK1 hk1 hz1 hFc hDc hPc hKc
    generalize H1 = H at hP hS ⊢
    have w_19 : r_19 = o_8 ∧ o_20.toInt = o_8.toInt + 2 * (p1.toInt - y_5.toInt) - 1 ∧ six4 o_22 ∧ mj_S p2.toNatClampNeg f o_29 o_30 o_22 o_23 o_24 o_25 o_26 2 o_8.toNatClampNeg y_5.toNatClampNeg p1.toNatClampNeg ∧ mj_ag 0 o_8.toNatClampNeg o_17 o_18 o_10 o_11 o_12 o_13 o_14 o_29 o_30 o_22 o_23 o_24 o_25 o_26 := w_19
    refine lv_istore (lv' := [(7, .int r_19), (6, .int r_7), (5, .int y_5), (4, .int m_nodes), (0, .ref h0), (1, .int p0), (2, .int p1), (3, .int p2)]) hx hb dX5_lays_79 hl (by decide) rfl (fun ls hl => ?_)
    have n_p0 := ki_nat p0 rfl (om_10 b0)
    have n_p1 := ki_nat p1 rfl (om_21 b0 b1)
    have n_p2 := ki_nat p2 rfl (om_51 b3)
    have n_nd := ki_nat m_nodes rfl (om_10 b5)
    have n_y := ki_nat y_1 rfl (om_34 b5 i_1)
    have n_md := ki_nat y_5 rfl (om_336 b0 b1 i_4 d_6.2)
    have n_oL := ki_nat o_8 rfl (om_337 b1 b5 i_1 i_4 d_6.2 w_7.2.1)
    have i_rL : r_7.toInt = y_1.toInt := congrArg Int32.toInt w_7.1
    have i_rR : r_19.toInt = o_8.toInt := congrArg Int32.toInt w_19.1
    obtain ⟨mua, La, ca, tA⟩ := w_7.2.2.2.1
    obtain ⟨mub, Lb, cb, tB⟩ := w_19.2.2.2.1
    obtain ⟨g_1, g_2, g_3, g_4, g_5, g_6⟩ := mj_ly9 n_p0 n_p1 n_nd n_y n_md n_oL i_1 i_4 i_5 w_7.2.1 b1 i_2 i_3
    have tA2 := mj_T_ag _ _ o_8.toNatClampNeg _ _ _ _ _ tA g_1 (mj_ag_sub w_19.2.2.2.2 (Nat.zero_le _) (Nat.le_refl _))
    have nA := mj_T_nd tA2
    have nB := mj_T_nd tB
    refine lv_aload_n hx hb dX5_lays_81 rfl (lv_at hl 4 rfl) ?_
    refine lv_iload hx hb dX5_lays_82 (lv_at hl 1 rfl) ?_
    refine lv_iload hx hb dX5_lays_84 (lv_at hl 0 rfl) ?_
    refine lv_iload hx hb dX5_lays_86 (lv_at hl 3 rfl) ?_
    refine lv_iload_n hx hb dX5_lays_88 rfl (lv_at hl 7 rfl) ?_
    obtain ⟨hPc, hDc, hFc, hCc⟩ := kx_preM (wc := [kx_5 h0 g_row m_n m_slots m_thrown g_many g_loss g_less g_voteValue g_voteNumber g_allValue g_allNumber o_21 g_nodeL g_nodeR o_20 g_part m_partMany g_wasMany g_wasLoss g_wasValue g_wasNumber g_path m_pathMany g_heavyValue g_heavyTimes m_heavyMany g_fewest g_which g_met m_mostMet, kx_a g_many cyI 324 o_22, kx_a g_loss cyI 324 o_23, kx_a g_less cyI 324 o_24, kx_a g_voteValue cyI 1944 o_25, kx_a g_voteNumber cyI 1944 o_26, kx_a g_allValue cyI 12 o_27, kx_a g_allNumber cyI 12 o_28]) hP hD hS hA [true, false, true, true, true, true, true, true, true, false, false] rfl
    have hKc := hK
    refine va_callv (va_runV (As := [.int r_7, .int r_19, .int m_nodes, .int p2]) (rest := []) ⟨hx, hb, hml, hown, hts⟩ (kx_un (c_X5_together l dC dI h0 g_row g_many g_loss g_less g_voteValue g_voteNumber g_allValue g_allNumber g_nodeL g_nodeR g_part g_wasMany g_wasLoss g_wasValue g_wasNumber g_path g_heavyValue g_heavyTimes g_fewest g_which g_met m_n m_slots m_thrown o_21 o_20 m_partMany m_pathMany m_heavyMany m_mostMet cyI o_22 o_23 o_24 o_25 o_26 o_27 o_28 mua mub r_7 r_19 m_nodes p2 H.size (om_339 b5 i_1 i_rL) (om_340 b1 b6 i_1 i_rL) (om_341 b1 b5 i_1 i_4 d_6.2 w_7.2.1 i_rR) (om_342 b1 b6 i_1 i_4 d_6.1 w_7.2.1 i_rR) (om_10 b5) (om_343 b1 b6) (om_51 b3) (om_344 b4) (by rw [w_7.1]; exact nA.2.2.1) (by rw [w_7.1]; exact nA.2.2.2.1) (by rw [w_19.1]; exact nB.2.2.1) (by rw [w_19.1]; exact nB.2.2.2.1) (by rw [w_7.1]; exact nA.2.2.2.2.2.2.2.1) (by rw [w_19.1]; exact nB.2.2.2.2.2.2.2.1) (fun v => by have h1 := mj_T_le _ _ _ _ _ _ _ tA2 v; have h2 := mj_T_le _ _ _ _ _ _ _ tB v; omega))) (cwV 4 hts gX5_lays_X5_together rfl rfl rfl (by decide +kernel) ⟨Nat.le_of_ble_eq_true rfl, Nat.le_of_ble_eq_true rfl⟩) ⟨fun a U g mk q => by obtain ⟨q0, q1, qP, qK, qD⟩ := q; exact ⟨q0, q1, qP, va_K.moved (u := U) (U := U.calling g mk a) (Vm.Alike.refl U.vm) qK, qD⟩, kx_rc5 hKc hPc (q0 := 0) rfl, fun U hU hW => ⟨rfl, by rw [hU], by rw [hU]; exact hPc, va_K.moved hW.alike hKc, hDc.weaken (fun _ _ _ _ => trivial)⟩⟩ rfl rfl hl.1 rfl (lv_room (Nat.le_of_ble_eq_true rfl)) dX5_lays_89 ⟨Nat.le_of_ble_eq_true rfl, Nat.le_of_ble_eq_true rfl⟩) hS (fun q _ h => hFc q h) hFc (fun u t H1 locs ht hvm w_31 hB hz1 hk1 hS => ?_)
    obtain ⟨o_32, o_33, o_34, o_35, o_36, o_37, o_38, o_39, o_40, o_41, o_42⟩ := u
    dsimp only at w_31 hB
    obtain ⟨hP1, hK1, hD1⟩ := hB
    rw [ht] at hP1
    have hK1 := va_K.moved hvm.symm hK1
    obtain ⟨hP, hD⟩ := kx_joinM (w2 := [kx_5 h0 g_row m_n m_slots m_thrown g_many g_loss g_less g_voteValue g_voteNumber g_allValue g_allNumber o_32 g_nodeL g_nodeR o_20 g_part m_partMany g_wasMany g_wasLoss g_wasValue g_wasNumber g_path m_pathMany g_heavyValue g_heavyTimes m_heavyMany g_fewest g_which g_met m_mostMet, kx_a g_row cyI 160 f, kx_a g_many cyI 324 o_36, kx_a g_loss cyI 324 o_37, kx_a g_less cyI 324 o_38, kx_a g_voteValue cyI 1944 o_39, kx_a g_voteNumber cyI 1944 o_40, kx_a g_allValue cyI 12 o_41, kx_a g_allNumber cyI 12 o_42, kx_a g_nodeL cyI 320 o_29, kx_a g_nodeR cyI 320 o_30]) hP hD hP1 hD1 hk1 hFc [true, false, true, true, true, true, true, true, true, false, false] hCc rfl
    clear hP1 hD1 hK1 hk1 hz1 hFc hDc hPc hKc hCc
    generalize H1 = H at hP hS ⊢
    have w_31 : mj_tog p2.toNatClampNeg mua mub o_35 o_33 ∧ o_37 = upd o_23 m_nodes.toNatClampNeg (o_23 r_7.toNatClampNeg + o_23 r_19.toNatClampNeg + o_33) ∧ o_38 = upd o_24 m_nodes.toNatClampNeg o_33 ∧ o_36 = upd o_22 m_nodes.toNatClampNeg o_34 ∧ 0 ≤ o_34.toInt ∧ o_34.toInt ≤ p2.toInt ∧ mj_vs o_39 o_40 (6 * m_nodes.toNatClampNeg) o_34.toNatClampNeg o_35 ∧ mj_srt o_39 o_40 (6 * m_nodes.toNatClampNeg) o_34.toNatClampNeg ∧ ∀ q : Nat, (q < 6 * m_nodes.toNatClampNeg ∨ 6 * m_nodes.toNatClampNeg + 6 ≤ q) → o_39 q = o_25 q ∧ o_40 q = o_26 q := w_31
    refine lv_iload hx hb dX5_lays_92 (lv_at hl 3 rfl) ?_
    have hP9 := hP
    have hD9 := hD
    have hK9 := hK
    have e_fl := w_31.2.1
    rw [w_7.1, w_19.1] at e_fl
    have hN := mj_lay_node (l := p0.toNatClampNeg) (r := p1.toNatClampNeg) (md := y_5.toNatClampNeg) (a := m_nodes.toNatClampNeg) g_2 g_3 n_p0.symm n_p1.symm g_4 g_5 (mj_ag_sub w_7.2.2.2.2 (Nat.le_refl _) g_6) w_19.2.2.2.2 tA2 tB w_31.1 w_31.2.2.2.1 w_31.2.2.2.2.1 (Int.le_trans w_31.2.2.2.2.2.1 (Int.le_of_eq n_p2.symm)) (mj_ln6 n_p2 b4) e_fl w_31.2.2.1 w_31.2.2.2.2.2.2.1 w_31.2.2.2.2.2.2.2.1 w_31.2.2.2.2.2.2.2.2
    exact W.iret (v := m_nodes) hx hb hr (hlocks := hlocks) (fun t ht hW => ⟨⟨m_nodes, (o_20, o_32, o_36, o_37, o_38, o_39, o_40, o_41, o_42, o_29, o_30), rfl, ⟨rfl, (om_345 i_1 w_7.2.1 w_19.2.1), (by (try dsimp only); rw [w_31.2.2.2.1]; exact six4_upd w_19.2.2.1 w_31.2.2.2.2.1 (om_346 b4 w_31.2.2.2.2.2.1)), hN.1, hN.2⟩, by rw [ht]; exact hP9, va_K.moved hW.alike hK9, hD9⟩, hS.F ht⟩) hS.2.2 dX5_lays_94
  · have i_3 : y_2.toInt = 1 := kc_eq c_3
    refine lv_aload_n hx hb dX5_lays_39 rfl (lv_at hl 1 rfl) ?_
    refine lv_iload hx hb dX5_lays_40 (lv_at hl 0 rfl) ?_
    refine lv_aload_n hx hb dX5_lays_42 rfl (lv_at hl 1 rfl) ?_
    refine va_get (D := (dC, dI)) (ci := 5) (v := .ref g_row) (C := RX5) (T := TX5) (N := 30) hx hb hts hi_5 hown hK hP 0 rfl rfl 0 (by decide) hf_7 (fun _ h9 => h9) rfl dX5_lays_43 ?_
    refine lv_iload_n hx hb dX5_lays_46 rfl (lv_at hl 2 rfl) ?_
    refine va_iald hx hb hK hP 1 0 rfl rfl (ki_in (om_10 b0) (om_85 b1 b2)) dX5_lays_47 ?_
    refine lv_topi (fun y_43 ey_43 => ?_)
    have j_43 : y_43.toInt = (f p0.toNatClampNeg).toInt := congrArg Int32.toInt ey_43
    obtain ⟨hPc, hDc, hFc, hCc⟩ := kx_preM (wc := [kx_5 h0 g_row m_n m_slots m_thrown g_many g_loss g_less g_voteValue g_voteNumber g_allValue g_allNumber m_allMany g_nodeL g_nodeR y_1 g_part m_partMany g_wasMany g_wasLoss g_wasValue g_wasNumber g_path m_pathMany g_heavyValue g_heavyTimes m_heavyMany g_fewest g_which g_met m_mostMet, kx_a g_many cyI 324 fm, kx_a g_loss cyI 324 fl, kx_a g_less cyI 324 fe, kx_a g_voteValue cyI 1944 vv, kx_a g_voteNumber cyI 1944 vn]) hP hD hS hA [true, false, true, true, true, true, true, false, false, false, false] rfl
    have hKc := hK
    refine va_callv (va_runV (As := [.int m_nodes, .int y_43]) (rest := []) ⟨hx, hb, hml, hown, hts⟩ (kx_un (c_X5_one_x l dC dI h0 g_row g_many g_loss g_less g_voteValue g_voteNumber g_allValue g_allNumber g_nodeL g_nodeR g_part g_wasMany g_wasLoss g_wasValue g_wasNumber g_path g_heavyValue g_heavyTimes g_fewest g_which g_met m_n m_slots m_thrown m_allMany y_1 m_partMany m_pathMany m_heavyMany m_mostMet cyI fm fl fe vv vn m_nodes y_43 H.size b5 (om_327 b1 b6))) (cwV 2 hts gX5_lays_X5_one rfl rfl rfl (by decide +kernel) ⟨Nat.le_of_ble_eq_true rfl, Nat.le_of_ble_eq_true rfl⟩) ⟨fun a U g mk q => by obtain ⟨q0, q1, qP, qK, qD⟩ := q; exact ⟨q0, q1, qP, va_K.moved (u := U) (U := U.calling g mk a) (Vm.Alike.refl U.vm) qK, qD⟩, kx_rc5 hKc hPc (q0 := 0) rfl, fun U hU hW => ⟨rfl, by rw [hU], by rw [hU]; exact hPc, va_K.moved hW.alike hKc, hDc.weaken (fun _ _ _ _ => trivial)⟩⟩ rfl rfl hl.1 rfl (lv_room (Nat.le_of_ble_eq_true rfl)) dX5_lays_48 ⟨Nat.le_of_ble_eq_true rfl, Nat.le_of_ble_eq_true rfl⟩) hS (fun q _ h => hFc q h) hFc (fun u t H1 locs ht hvm w_44 hB hz1 hk1 hS => ?_)
    obtain ⟨o_45, o_46, o_47, o_48, o_49⟩ := u
    dsimp only at w_44 hB
    obtain ⟨hP1, hK1, hD1⟩ := hB
    rw [ht] at hP1
    have hK1 := va_K.moved hvm.symm hK1
    obtain ⟨hP, hD⟩ := kx_joinM (w2 := [kx_5 h0 g_row m_n m_slots m_thrown g_many g_loss g_less g_voteValue g_voteNumber g_allValue g_allNumber m_allMany g_nodeL g_nodeR y_1 g_part m_partMany g_wasMany g_wasLoss g_wasValue g_wasNumber g_path m_pathMany g_heavyValue g_heavyTimes m_heavyMany g_fewest g_which g_met m_mostMet, kx_a g_row cyI 160 f, kx_a g_many cyI 324 o_45, kx_a g_loss cyI 324 o_46, kx_a g_less cyI 324 o_47, kx_a g_voteValue cyI 1944 o_48, kx_a g_voteNumber cyI 1944 o_49, kx_a g_allValue cyI 12 av, kx_a g_allNumber cyI 12 an, kx_a g_nodeL cyI 320 (upd nl m_nodes.toNatClampNeg p0), kx_a g_nodeR cyI 320 (upd nr m_nodes.toNatClampNeg p1)]) hP hD hP1 hD1 hk1 hFc [true, false, true, true, true, true, true, false, false, false, false] hCc rfl
    clear hP1 hD1 hK1 hk1 hz1 hFc hDc hPc hKc hCc
    generalize H1 = H at hP hS ⊢
    have w_44 : o_45 = upd fm m_nodes.toNatClampNeg 1 ∧ o_46 = upd fl m_nodes.toNatClampNeg 0 ∧ o_47 = upd fe m_nodes.toNatClampNeg 0 ∧ o_48 = upd vv (6 * m_nodes.toNatClampNeg) y_43 ∧ o_49 = upd vn (6 * m_nodes.toNatClampNeg) 1 := w_44
    refine lv_iload hx hb dX5_lays_51 (lv_at hl 0 rfl) ?_
    have hP9 := hP
    have hD9 := hD
    have hK9 := hK
    have n_p0 := ki_nat p0 rfl (om_10 b0)
    have n_p1 := ki_nat p1 rfl (om_21 b0 b1)
    have n_p2 := ki_nat p2 rfl (om_51 b3)
    have n_nd := ki_nat m_nodes rfl (om_10 b5)
    have e_vv := w_44.2.2.2.1
    rw [ey_43] at e_vv
    have hN := mj_lay_leaf (K := p2.toNatClampNeg) (f := f) (nl := nl) (nr := nr) (l := p0.toNatClampNeg) (r := p1.toNatClampNeg) (l32 := p0) (r32 := p1) 3 (mj_ln1 n_p2 b3) (mj_lf9 n_p0 n_p1 i_2 i_3) n_p0.symm n_p1.symm w_44.1 w_44.2.1 w_44.2.2.1 e_vv w_44.2.2.2.2
    exact W.iret (v := m_nodes) hx hb hr (hlocks := hlocks) (fun t ht hW => ⟨⟨m_nodes, (y_1, m_allMany, o_45, o_46, o_47, o_48, o_49, av, an, (upd nl m_nodes.toNatClampNeg p0), (upd nr m_nodes.toNatClampNeg p1)), rfl, ⟨rfl, (om_347 b1 i_1 i_2 i_3), (by (try dsimp only); rw [w_44.1]; exact six4_upd s4 (by decide) (by decide)), hN.1, hN.2⟩, by rw [ht]; exact hP9, va_K.moved hW.alike hK9, hD9⟩, hS.F ht⟩) hS.2.2 dX5_lays_53

set_option maxHeartbeats 4000000 in
set_option maxRecDepth 100000 in
theorem c_X5_lays_4 (l : Launch) (dC : Nat → ClassId) (dI : Nat → Nat → Nat) (h0 : Nat) (g_row : Nat) (g_many : Nat) (g_loss : Nat) (g_less : Nat) (g_voteValue : Nat) (g_voteNumber : Nat) (g_allValue : Nat) (g_allNumber : Nat) (g_nodeL : Nat) (g_nodeR : Nat) (g_part : Nat) (g_wasMany : Nat) (g_wasLoss : Nat) (g_wasValue : Nat) (g_wasNumber : Nat) (g_path : Nat) (g_heavyValue : Nat) (g_heavyTimes : Nat) (g_fewest : Nat) (g_which : Nat) (g_met : Nat) (m_n : Int32) (m_slots : Int32) (m_thrown : Int32) (m_allMany : Int32) (m_nodes : Int32) (m_partMany : Int32) (m_pathMany : Int32) (m_heavyMany : Int32) (m_mostMet : Int32) (cyI : ClassId) (fm : Nat → Int32) (fl : Nat → Int32) (fe : Nat → Int32) (vv : Nat → Int32) (vn : Nat → Int32) (f : Nat → Int32) (av : Nat → Int32) (an : Nat → Int32) (nl : Nat → Int32) (nr : Nat → Int32) (p0 : Int32) (p1 : Int32) (p2 : Int32) (sz : Nat) (b0 : 0 ≤ p0.toInt) (b1 : p0.toInt < p1.toInt) (b2 : p1.toInt ≤ 160) (b3 : 1 ≤ p2.toInt) (b4 : p2.toInt ≤ 6) (b5 : 0 ≤ m_nodes.toInt) (b6 : m_nodes.toInt + 2 * (p1.toInt - p0.toInt) - 1 ≤ 319) (s4 : six4 fm) (b7 : p1.toInt - p0.toInt ≤ 16) : kx_MQ l (dC, dI) yX5_lays wsX5_lays ({ frames := 6, cells := 0, slots := 0, locals := 270 }) [.ref h0, .int p0, .int p1, .int p2] [kx_5 h0 g_row m_n m_slots m_thrown g_many g_loss g_less g_voteValue g_voteNumber g_allValue g_allNumber m_allMany g_nodeL g_nodeR m_nodes g_part m_partMany g_wasMany g_wasLoss g_wasValue g_wasNumber g_path m_pathMany g_heavyValue g_heavyTimes m_heavyMany g_fewest g_which g_met m_mostMet, kx_a g_row cyI 160 f, kx_a g_many cyI 324 fm, kx_a g_loss cyI 324 fl, kx_a g_less cyI 324 fe, kx_a g_voteValue cyI 1944 vv, kx_a g_voteNumber cyI 1944 vn, kx_a g_allValue cyI 12 av, kx_a g_allNumber cyI 12 an, kx_a g_nodeL cyI 320 nl, kx_a g_nodeR cyI 320 nr] [(cyI, .int)] sz (fun A => va_Qi (fun (r : Int32) (u : Int32 × Int32 × (Nat → Int32) × (Nat → Int32) × (Nat → Int32) × (Nat → Int32) × (Nat → Int32) × (Nat → Int32) × (Nat → Int32) × (Nat → Int32) × (Nat → Int32)) => r = m_nodes ∧ u.1.toInt = m_nodes.toInt + 2 * (p1.toInt - p0.toInt) - 1 ∧ six4 u.2.2.1 ∧ mj_S p2.toNatClampNeg f u.2.2.2.2.2.2.2.2.2.1 u.2.2.2.2.2.2.2.2.2.2 u.2.2.1 u.2.2.2.1 u.2.2.2.2.1 u.2.2.2.2.2.1 u.2.2.2.2.2.2.1 4 m_nodes.toNatClampNeg p0.toNatClampNeg p1.toNatClampNeg ∧ mj_ag 0 m_nodes.toNatClampNeg nl nr fm fl fe vv vn u.2.2.2.2.2.2.2.2.2.1 u.2.2.2.2.2.2.2.2.2.2 u.2.2.1 u.2.2.2.1 u.2.2.2.2.1 u.2.2.2.2.2.1 u.2.2.2.2.2.2.1) (fun (u : Int32 × Int32 × (Nat → Int32) × (Nat → Int32) × (Nat → Int32) × (Nat → Int32) × (Nat → Int32) × (Nat → Int32) × (Nat → Int32) × (Nat → Int32) × (Nat → Int32)) (t : State) => va_P (dC, dI) vwCl [kx_5 h0 g_row m_n m_slots m_thrown g_many g_loss g_less g_voteValue g_voteNumber g_allValue g_allNumber u.2.1 g_nodeL g_nodeR u.1 g_part m_partMany g_wasMany g_wasLoss g_wasValue g_wasNumber g_path m_pathMany g_heavyValue g_heavyTimes m_heavyMany g_fewest g_which g_met m_mostMet, kx_a g_row cyI 160 f, kx_a g_many cyI 324 u.2.2.1, kx_a g_loss cyI 324 u.2.2.2.1, kx_a g_less cyI 324 u.2.2.2.2.1, kx_a g_voteValue cyI 1944 u.2.2.2.2.2.1, kx_a g_voteNumber cyI 1944 u.2.2.2.2.2.2.1, kx_a g_allValue cyI 12 u.2.2.2.2.2.2.2.1, kx_a g_allNumber cyI 12 u.2.2.2.2.2.2.2.2.1, kx_a g_nodeL cyI 320 u.2.2.2.2.2.2.2.2.2.1, kx_a g_nodeR cyI 320 u.2.2.2.2.2.2.2.2.2.2] t.heap ∧ va_K (dC, dI) vwCl [(cyI, .int)] t ∧ va_D A [kx_5 h0 g_row m_n m_slots m_thrown g_many g_loss g_less g_voteValue g_voteNumber g_allValue g_allNumber u.2.1 g_nodeL g_nodeR u.1 g_part m_partMany g_wasMany g_wasLoss g_wasValue g_wasNumber g_path m_pathMany g_heavyValue g_heavyTimes m_heavyMany g_fewest g_which g_met m_mostMet, kx_a g_row cyI 160 f, kx_a g_many cyI 324 u.2.2.1, kx_a g_loss cyI 324 u.2.2.2.1, kx_a g_less cyI 324 u.2.2.2.2.1, kx_a g_voteValue cyI 1944 u.2.2.2.2.2.1, kx_a g_voteNumber cyI 1944 u.2.2.2.2.2.2.1, kx_a g_allValue cyI 12 u.2.2.2.2.2.2.2.1, kx_a g_allNumber cyI 12 u.2.2.2.2.2.2.2.2.1, kx_a g_nodeL cyI 320 u.2.2.2.2.2.2.2.2.2.1, kx_a g_nodeR cyI 320 u.2.2.2.2.2.2.2.2.2.2]) A) := by
  refine kx_stQ (ws := wsX5_lays) (cc := cX5_lays) (maxL := 8) (ret := (some .int)) (by decide) rfl (Nat.le_of_ble_eq_true rfl) ?_
  intro p e s m below meth c A ls hx hb hr hlocks hts hown hml hA hS hP hK hD hl
  have hown : s.vm.findClass RX5 = some m.cls := hown
  have hl : lv_has ls 8 [(0, .ref h0), (1, .int p0), (2, .int p1), (3, .int p2)] := hl
  have hf_101 := hts (.fieldLink RX5 101 "MajorityIndexModel" "nodes" "I") (List.mem_of_getElem? (i := 1) rfl)
  have hi_5 : ∀ w ∈ u_ws RX5 TX5 30, w ∈ wsX5_lays := fun w h => List.mem_cons_of_mem _ (List.mem_append_right _ h)
  have hf_38 := hts (.fieldLink RX5 38 "MajorityIndexModel" "nodeL" "[I") (List.mem_of_getElem? (i := 2) rfl)
  have hf_41 := hts (.fieldLink RX5 41 "MajorityIndexModel" "nodeR" "[I") (List.mem_of_getElem? (i := 3) rfl)
  have hf_7 := hts (.fieldLink RX5 7 "MajorityIndexModel" "row" "[I") (List.mem_of_getElem? (i := 4) rfl)
  refine lv_aload_n hx hb dX5_lays_0 rfl (lv_at hl 0 rfl) ?_
  refine va_get (D := (dC, dI)) (ci := 5) (v := .int m_nodes) (C := RX5) (T := TX5) (N := 30) hx hb hts hi_5 hown hK hP 0 rfl rfl 14 (by decide) hf_101 (fun _ h9 => h9) rfl dX5_lays_1 ?_
  refine lv_istore (lv' := [(4, .int m_nodes), (0, .ref h0), (1, .int p0), (2, .int p1), (3, .int p2)]) hx hb dX5_lays_4 hl (by decide) rfl (fun ls hl => ?_)
  refine lv_aload_n hx hb dX5_lays_6 rfl (lv_at hl 1 rfl) ?_
  refine lv_dup hx hb dX5_lays_7 rfl ?_
  refine va_get (D := (dC, dI)) (ci := 5) (v := .int m_nodes) (C := RX5) (T := TX5) (N := 30) hx hb hts hi_5 hown hK hP 0 rfl rfl 14 (by decide) hf_101 (fun _ h9 => h9) rfl dX5_lays_8 ?_
  refine lv_iconst (v := 1) hx hb dX5_lays_11 (by decide) ?_
  refine lv_iadd hx hb dX5_lays_12 ?_
  refine lv_topi (fun y_1 ey_1 => ?_)
  have i_1 : y_1.toInt = m_nodes.toInt + 1 := ki_add ey_1 rfl rfl (om_13 b5) (om_324 b1 b6)
  refine va_put (D := (dC, dI)) (ci := 5) (v := .int y_1) (ty := .int) (C := RX5) (T := TX5) (N := 30) hx hb hts hi_5 tyX5 tyX5_ok nmX5 hown hK hP hD hS 0 rfl rfl 14 (by decide) hf_101 (fun _ h9 => h9) rfl (by decide +kernel) rfl rfl (Nat.le_of_ble_eq_true rfl) dX5_lays_13 (fun H locs hP hD hS => ?_)
  obtain ⟨hP, hD⟩ := kx_re (w2 := [kx_5 h0 g_row m_n m_slots m_thrown g_many g_loss g_less g_voteValue g_voteNumber g_allValue g_allNumber m_allMany g_nodeL g_nodeR y_1 g_part m_partMany g_wasMany g_wasLoss g_wasValue g_wasNumber g_path m_pathMany g_heavyValue g_heavyTimes m_heavyMany g_fewest g_which g_met m_mostMet, kx_a g_row cyI 160 f, kx_a g_many cyI 324 fm, kx_a g_loss cyI 324 fl, kx_a g_less cyI 324 fe, kx_a g_voteValue cyI 1944 vv, kx_a g_voteNumber cyI 1944 vn, kx_a g_allValue cyI 12 av, kx_a g_allNumber cyI 12 an, kx_a g_nodeL cyI 320 nl, kx_a g_nodeR cyI 320 nr]) hP hD rfl
  refine lv_aload_n hx hb dX5_lays_16 rfl (lv_at hl 1 rfl) ?_
  refine va_get (D := (dC, dI)) (ci := 5) (v := .ref g_nodeL) (C := RX5) (T := TX5) (N := 30) hx hb hts hi_5 hown hK hP 0 rfl rfl 12 (by decide) hf_38 (fun _ h9 => h9) rfl dX5_lays_17 ?_
  refine lv_iload hx hb dX5_lays_20 (lv_at hl 0 rfl) ?_
  refine lv_iload_n hx hb dX5_lays_22 rfl (lv_at hl 2 rfl) ?_
  refine va_iast hx hb hK hP hD hS 9 0 rfl rfl (ki_in (om_10 b5) (om_325 b1 b6)) dX5_lays_23 (fun H locs hP hD hS => ?_)
  obtain ⟨hP, hD⟩ := kx_re (w2 := [kx_5 h0 g_row m_n m_slots m_thrown g_many g_loss g_less g_voteValue g_voteNumber g_allValue g_allNumber m_allMany g_nodeL g_nodeR y_1 g_part m_partMany g_wasMany g_wasLoss g_wasValue g_wasNumber g_path m_pathMany g_heavyValue g_heavyTimes m_heavyMany g_fewest g_which g_met m_mostMet, kx_a g_row cyI 160 f, kx_a g_many cyI 324 fm, kx_a g_loss cyI 324 fl, kx_a g_less cyI 324 fe, kx_a g_voteValue cyI 1944 vv, kx_a g_voteNumber cyI 1944 vn, kx_a g_allValue cyI 12 av, kx_a g_allNumber cyI 12 an, kx_a g_nodeL cyI 320 (upd nl m_nodes.toNatClampNeg p0), kx_a g_nodeR cyI 320 nr]) hP hD rfl
  refine lv_aload_n hx hb dX5_lays_24 rfl (lv_at hl 1 rfl) ?_
  refine va_get (D := (dC, dI)) (ci := 5) (v := .ref g_nodeR) (C := RX5) (T := TX5) (N := 30) hx hb hts hi_5 hown hK hP 0 rfl rfl 13 (by decide) hf_41 (fun _ h9 => h9) rfl dX5_lays_25 ?_
  refine lv_iload hx hb dX5_lays_28 (lv_at hl 0 rfl) ?_
  refine lv_iload_n hx hb dX5_lays_30 rfl (lv_at hl 3 rfl) ?_
  refine va_iast hx hb hK hP hD hS 10 0 rfl rfl (ki_in (om_10 b5) (om_325 b1 b6)) dX5_lays_31 (fun H locs hP hD hS => ?_)
  obtain ⟨hP, hD⟩ := kx_re (w2 := [kx_5 h0 g_row m_n m_slots m_thrown g_many g_loss g_less g_voteValue g_voteNumber g_allValue g_allNumber m_allMany g_nodeL g_nodeR y_1 g_part m_partMany g_wasMany g_wasLoss g_wasValue g_wasNumber g_path m_pathMany g_heavyValue g_heavyTimes m_heavyMany g_fewest g_which g_met m_mostMet, kx_a g_row cyI 160 f, kx_a g_many cyI 324 fm, kx_a g_loss cyI 324 fl, kx_a g_less cyI 324 fe, kx_a g_voteValue cyI 1944 vv, kx_a g_voteNumber cyI 1944 vn, kx_a g_allValue cyI 12 av, kx_a g_allNumber cyI 12 an, kx_a g_nodeL cyI 320 (upd nl m_nodes.toNatClampNeg p0), kx_a g_nodeR cyI 320 (upd nr m_nodes.toNatClampNeg p1)]) hP hD rfl
  refine lv_iload_n hx hb dX5_lays_32 rfl (lv_at hl 3 rfl) ?_
  refine lv_iload_n hx hb dX5_lays_33 rfl (lv_at hl 2 rfl) ?_
  refine lv_isub hx hb dX5_lays_34 ?_
  refine lv_topi (fun y_2 ey_2 => ?_)
  have i_2 : y_2.toInt = p1.toInt - p0.toInt := ki_sub ey_2 rfl rfl (om_168 b1) (om_352 b7)
  refine lv_iconst (v := 1) hx hb dX5_lays_35 (by decide) ?_
  refine lv_icmp_ne (tgt := 54) hx hb dX5_lays_36 (by decide) (fun c_3 => ?_) (fun c_3 => ?_)
  · have i_3 : ¬ y_2.toInt = 1 := kc_ne c_3
    refine lv_iload_n hx hb dX5_lays_54 rfl (lv_at hl 2 rfl) ?_
    refine lv_iload_n hx hb dX5_lays_55 rfl (lv_at hl 3 rfl) ?_
    refine lv_iadd hx hb dX5_lays_56 ?_
    refine lv_topi (fun y_4 ey_4 => ?_)
    have i_4 : y_4.toInt = p0.toInt + p1.toInt := ki_add ey_4 rfl rfl (om_330 b0 b1) (om_331 b1 b2)
    refine lv_iconst (v := 2) hx hb dX5_lays_57 (by decide) ?_
    refine lv_idiv hx hb dX5_lays_58 (by decide) ?_
    refine lv_topi (fun y_5 ey_5 => ?_)
    have i_5 : y_5.toInt = y_4.toInt / 2 := ki_div2 ey_5 rfl (om_332 b0 b1 i_4)
    have d_6 := om_dv i_5
    refine lv_istore (lv' := [(5, .int y_5), (4, .int m_nodes), (0, .ref h0), (1, .int p0), (2, .int p1), (3, .int p2)]) hx hb dX5_lays_59 hl (by decide) rfl (fun ls hl => ?_)
    refine lv_aload_n hx hb dX5_lays_61 rfl (lv_at hl 2 rfl) ?_
    refine lv_iload_n hx hb dX5_lays_62 rfl (lv_at hl 3 rfl) ?_
    refine lv_iload hx hb dX5_lays_63 (lv_at hl 0 rfl) ?_
    refine lv_iload_n hx hb dX5_lays_65 rfl (lv_at hl 5 rfl) ?_
    have hPc := hP
    have hKc := hK
    have hDc := hD
    have hFc := kx_free hD hS hA
    refine va_calli (va_runV (As := [.int p0, .int y_5, .int p2]) (rest := []) ⟨hx, hb, hml, hown, hts⟩ (kx_un (c_X5_lays_3 l dC dI h0 g_row g_many g_loss g_less g_voteValue g_voteNumber g_allValue g_allNumber g_nodeL g_nodeR g_part g_wasMany g_wasLoss g_wasValue g_wasNumber g_path g_heavyValue g_heavyTimes g_fewest g_which g_met m_n m_slots m_thrown m_allMany y_1 m_partMany m_pathMany m_heavyMany m_mostMet cyI fm fl fe vv vn f av an (upd nl m_nodes.toNatClampNeg p0) (upd nr m_nodes.toNatClampNeg p1) p0 y_5 p2 H.size b0 (by omega) (om_333 b1 b2 i_4 d_6.1) b3 b4 (om_34 b5 i_1) (om_334 b1 b6 i_1 i_4 d_6.1) s4 (om_353 b7 i_4 d_6.1))) (cwV 3 hts gX5_lays_X5_lays rfl rfl rfl (by decide +kernel) ⟨Nat.le_of_ble_eq_true rfl, Nat.le_of_ble_eq_true rfl⟩) ⟨fun a U g mk q => by obtain ⟨q0, q1, qP, qK, qD⟩ := q; exact ⟨q0, q1, qP, va_K.moved (u := U) (U := U.calling g mk a) (Vm.Alike.refl U.vm) qK, qD⟩, kx_rc5 hKc hPc (q0 := 0) rfl, fun U hU hW => ⟨rfl, by rw [hU], by rw [hU]; exact hPc, va_K.moved hW.alike hKc, hDc.weaken (fun _ _ _ _ => trivial)⟩⟩ rfl rfl hl.1 rfl (lv_room (Nat.le_of_ble_eq_true rfl)) dX5_lays_66 ⟨Nat.le_of_ble_eq_true rfl, Nat.le_of_ble_eq_true rfl⟩) hS (fun q _ h => hFc q h) hFc (fun r_7 u t H1 locs ht hvm w_7 hB hz1 hk1 hS => ?_)
    obtain ⟨o_8, o_9, o_10, o_11, o_12, o_13, o_14, o_15, o_16, o_17, o_18⟩ := u
    dsimp only at w_7 hB
    obtain ⟨hP1, hK1, hD1⟩ := hB
    rw [ht] at hP1
    have hK1 := va_K.moved hvm.symm hK1
    have hD := hD1.weaken (fun _ q _ h => hFc q.1 h)
    have hP := hP1
    clear hP1 hD1 hK1 hk1 hz1 hFc hDc hPc hKc
    generalize H1 = H at hP hS ⊢
    have w_7 : r_7 = y_1 ∧ o_8.toInt = y_1.toInt + 2 * (y_5.toInt - p0.toInt) - 1 ∧ six4 o_10 ∧ mj_S p2.toNatClampNeg f o_17 o_18 o_10 o_11 o_12 o_13 o_14 3 y_1.toNatClampNeg p0.toNatClampNeg y_5.toNatClampNeg ∧ mj_ag 0 y_1.toNatClampNeg (upd nl m_nodes.toNatClampNeg p0) (upd nr m_nodes.toNatClampNeg p1) fm fl fe vv vn o_17 o_18 o_10 o_11 o_12 o_13 o_14 := w_7
    refine lv_istore (lv' := [(6, .int r_7), (5, .int y_5), (4, .int m_nodes), (0, .ref h0), (1, .int p0), (2, .int p1), (3, .int p2)]) hx hb dX5_lays_69 hl (by decide) rfl (fun ls hl => ?_)
    refine lv_aload_n hx hb dX5_lays_71 rfl (lv_at hl 3 rfl) ?_
    refine lv_iload hx hb dX5_lays_72 (lv_at hl 1 rfl) ?_
    refine lv_iload_n hx hb dX5_lays_74 rfl (lv_at hl 5 rfl) ?_
    refine lv_iload_n hx hb dX5_lays_75 rfl (lv_at hl 6 rfl) ?_
    have hPc := hP
    have hKc := hK
    have hDc := hD
    have hFc := kx_free hD hS hA
    refine va_calli (va_runV (As := [.int y_5, .int p1, .int p2]) (rest := []) ⟨hx, hb, hml, hown, hts⟩ (kx_un (c_X5_lays_3 l dC dI h0 g_row g_many g_loss g_less g_voteValue g_voteNumber g_allValue g_allNumber g_nodeL g_nodeR g_part g_wasMany g_wasLoss g_wasValue g_wasNumber g_path g_heavyValue g_heavyTimes g_fewest g_which g_met m_n m_slots m_thrown o_9 o_8 m_partMany m_pathMany m_heavyMany m_mostMet cyI o_10 o_11 o_12 o_13 o_14 f o_15 o_16 o_17 o_18 y_5 p1 p2 H.size (om_336 b0 b1 i_4 d_6.2) (by omega) b2 b3 b4 (om_337 b1 b5 i_1 i_4 d_6.2 w_7.2.1) (om_338 b6 i_1 w_7.2.1) w_7.2.2.1 (by omega))) (cwV 3 hts gX5_lays_X5_lays rfl rfl rfl (by decide +kernel) ⟨Nat.le_of_ble_eq_true rfl, Nat.le_of_ble_eq_true rfl⟩) ⟨fun a U g mk q => by obtain ⟨q0, q1, qP, qK, qD⟩ := q; exact ⟨q0, q1, qP, va_K.moved (u := U) (U := U.calling g mk a) (Vm.Alike.refl U.vm) qK, qD⟩, kx_rc5 hKc hPc (q0 := 0) rfl, fun U hU hW => ⟨rfl, by rw [hU], by rw [hU]; exact hPc, va_K.moved hW.alike hKc, hDc.weaken (fun _ _ _ _ => trivial)⟩⟩ rfl rfl hl.1 rfl (lv_room (Nat.le_of_ble_eq_true rfl)) dX5_lays_76 ⟨Nat.le_of_ble_eq_true rfl, Nat.le_of_ble_eq_true rfl⟩) hS (fun q _ h => hFc q h) hFc (fun r_19 u t H1 locs ht hvm w_19 hB hz1 hk1 hS => ?_)
    obtain ⟨o_20, o_21, o_22, o_23, o_24, o_25, o_26, o_27, o_28, o_29, o_30⟩ := u
    dsimp only at w_19 hB
    obtain ⟨hP1, hK1, hD1⟩ := hB
    rw [ht] at hP1
    have hK1 := va_K.moved hvm.symm hK1
    have hD := hD1.weaken (fun _ q _ h => hFc q.1 h)
    have hP := hP1
    clear hP1 hD1 hK1 hk1 hz1 hFc hDc hPc hKc
    generalize H1 = H at hP hS ⊢
    have w_19 : r_19 = o_8 ∧ o_20.toInt = o_8.toInt + 2 * (p1.toInt - y_5.toInt) - 1 ∧ six4 o_22 ∧ mj_S p2.toNatClampNeg f o_29 o_30 o_22 o_23 o_24 o_25 o_26 3 o_8.toNatClampNeg y_5.toNatClampNeg p1.toNatClampNeg ∧ mj_ag 0 o_8.toNatClampNeg o_17 o_18 o_10 o_11 o_12 o_13 o_14 o_29 o_30 o_22 o_23 o_24 o_25 o_26 := w_19
    refine lv_istore (lv' := [(7, .int r_19), (6, .int r_7), (5, .int y_5), (4, .int m_nodes), (0, .ref h0), (1, .int p0), (2, .int p1), (3, .int p2)]) hx hb dX5_lays_79 hl (by decide) rfl (fun ls hl => ?_)
    have n_p0 := ki_nat p0 rfl (om_10 b0)
    have n_p1 := ki_nat p1 rfl (om_21 b0 b1)
    have n_p2 := ki_nat p2 rfl (om_51 b3)
    have n_nd := ki_nat m_nodes rfl (om_10 b5)
    have n_y := ki_nat y_1 rfl (om_34 b5 i_1)
    have n_md := ki_nat y_5 rfl (om_336 b0 b1 i_4 d_6.2)
    have n_oL := ki_nat o_8 rfl (om_337 b1 b5 i_1 i_4 d_6.2 w_7.2.1)
    have i_rL : r_7.toInt = y_1.toInt := congrArg Int32.toInt w_7.1
    have i_rR : r_19.toInt = o_8.toInt := congrArg Int32.toInt w_19.1
    obtain ⟨mua, La, ca, tA⟩ := w_7.2.2.2.1
    obtain ⟨mub, Lb, cb, tB⟩ := w_19.2.2.2.1
    obtain ⟨g_1, g_2, g_3, g_4, g_5, g_6⟩ := mj_ly9 n_p0 n_p1 n_nd n_y n_md n_oL i_1 i_4 i_5 w_7.2.1 b1 i_2 i_3
    have tA2 := mj_T_ag _ _ o_8.toNatClampNeg _ _ _ _ _ tA g_1 (mj_ag_sub w_19.2.2.2.2 (Nat.zero_le _) (Nat.le_refl _))
    have nA := mj_T_nd tA2
    have nB := mj_T_nd tB
    refine lv_aload_n hx hb dX5_lays_81 rfl (lv_at hl 4 rfl) ?_
    refine lv_iload hx hb dX5_lays_82 (lv_at hl 1 rfl) ?_
    refine lv_iload hx hb dX5_lays_84 (lv_at hl 0 rfl) ?_
    refine lv_iload hx hb dX5_lays_86 (lv_at hl 3 rfl) ?_
    refine lv_iload_n hx hb dX5_lays_88 rfl (lv_at hl 7 rfl) ?_
    obtain ⟨hPc, hDc, hFc, hCc⟩ := kx_preM (wc := [kx_5 h0 g_row m_n m_slots m_thrown g_many g_loss g_less g_voteValue g_voteNumber g_allValue g_allNumber o_21 g_nodeL g_nodeR o_20 g_part m_partMany g_wasMany g_wasLoss g_wasValue g_wasNumber g_path m_pathMany g_heavyValue g_heavyTimes m_heavyMany g_fewest g_which g_met m_mostMet, kx_a g_many cyI 324 o_22, kx_a g_loss cyI 324 o_23, kx_a g_less cyI 324 o_24, kx_a g_voteValue cyI 1944 o_25, kx_a g_voteNumber cyI 1944 o_26, kx_a g_allValue cyI 12 o_27, kx_a g_allNumber cyI 12 o_28]) hP hD hS hA [true, false, true, true, true, true, true, true, true, false, false] rfl
    have hKc := hK
    refine va_callv (va_runV (As := [.int r_7, .int r_19, .int m_nodes, .int p2]) (rest := []) ⟨hx, hb, hml, hown, hts⟩ (kx_un (c_X5_together l dC dI h0 g_row g_many g_loss g_less g_voteValue g_voteNumber g_allValue g_allNumber g_nodeL g_nodeR g_part g_wasMany g_wasLoss g_wasValue g_wasNumber g_path g_heavyValue g_heavyTimes g_fewest g_which g_met m_n m_slots m_thrown o_21 o_20 m_partMany m_pathMany m_heavyMany m_mostMet cyI o_22 o_23 o_24 o_25 o_26 o_27 o_28 mua mub r_7 r_19 m_nodes p2 H.size (om_339 b5 i_1 i_rL) (om_340 b1 b6 i_1 i_rL) (om_341 b1 b5 i_1 i_4 d_6.2 w_7.2.1 i_rR) (om_342 b1 b6 i_1 i_4 d_6.1 w_7.2.1 i_rR) (om_10 b5) (om_343 b1 b6) (om_51 b3) (om_344 b4) (by rw [w_7.1]; exact nA.2.2.1) (by rw [w_7.1]; exact nA.2.2.2.1) (by rw [w_19.1]; exact nB.2.2.1) (by rw [w_19.1]; exact nB.2.2.2.1) (by rw [w_7.1]; exact nA.2.2.2.2.2.2.2.1) (by rw [w_19.1]; exact nB.2.2.2.2.2.2.2.1) (fun v => by have h1 := mj_T_le _ _ _ _ _ _ _ tA2 v; have h2 := mj_T_le _ _ _ _ _ _ _ tB v; omega))) (cwV 4 hts gX5_lays_X5_together rfl rfl rfl (by decide +kernel) ⟨Nat.le_of_ble_eq_true rfl, Nat.le_of_ble_eq_true rfl⟩) ⟨fun a U g mk q => by obtain ⟨q0, q1, qP, qK, qD⟩ := q; exact ⟨q0, q1, qP, va_K.moved (u := U) (U := U.calling g mk a) (Vm.Alike.refl U.vm) qK, qD⟩, kx_rc5 hKc hPc (q0 := 0) rfl, fun U hU hW => ⟨rfl, by rw [hU], by rw [hU]; exact hPc, va_K.moved hW.alike hKc, hDc.weaken (fun _ _ _ _ => trivial)⟩⟩ rfl rfl hl.1 rfl (lv_room (Nat.le_of_ble_eq_true rfl)) dX5_lays_89 ⟨Nat.le_of_ble_eq_true rfl, Nat.le_of_ble_eq_true rfl⟩) hS (fun q _ h => hFc q h) hFc (fun u t H1 locs ht hvm w_31 hB hz1 hk1 hS => ?_)
    obtain ⟨o_32, o_33, o_34, o_35, o_36, o_37, o_38, o_39, o_40, o_41, o_42⟩ := u
    dsimp only at w_31 hB
    obtain ⟨hP1, hK1, hD1⟩ := hB
    rw [ht] at hP1
    have hK1 := va_K.moved hvm.symm hK1
    obtain ⟨hP, hD⟩ := kx_joinM (w2 := [kx_5 h0 g_row m_n m_slots m_thrown g_many g_loss g_less g_voteValue g_voteNumber g_allValue g_allNumber o_32 g_nodeL g_nodeR o_20 g_part m_partMany g_wasMany g_wasLoss g_wasValue g_wasNumber g_path m_pathMany g_heavyValue g_heavyTimes m_heavyMany g_fewest g_which g_met m_mostMet, kx_a g_row cyI 160 f, kx_a g_many cyI 324 o_36, kx_a g_loss cyI 324 o_37, kx_a g_less cyI 324 o_38, kx_a g_voteValue cyI 1944 o_39, kx_a g_voteNumber cyI 1944 o_40, kx_a g_allValue cyI 12 o_41, kx_a g_allNumber cyI 12 o_42, kx_a g_nodeL cyI 320 o_29, kx_a g_nodeR cyI 320 o_30]) hP hD hP1 hD1 hk1 hFc [true, false, true, true, true, true, true, true, true, false, false] hCc rfl
    clear hP1 hD1 hK1 hk1 hz1 hFc hDc hPc hKc hCc
    generalize H1 = H at hP hS ⊢
    have w_31 : mj_tog p2.toNatClampNeg mua mub o_35 o_33 ∧ o_37 = upd o_23 m_nodes.toNatClampNeg (o_23 r_7.toNatClampNeg + o_23 r_19.toNatClampNeg + o_33) ∧ o_38 = upd o_24 m_nodes.toNatClampNeg o_33 ∧ o_36 = upd o_22 m_nodes.toNatClampNeg o_34 ∧ 0 ≤ o_34.toInt ∧ o_34.toInt ≤ p2.toInt ∧ mj_vs o_39 o_40 (6 * m_nodes.toNatClampNeg) o_34.toNatClampNeg o_35 ∧ mj_srt o_39 o_40 (6 * m_nodes.toNatClampNeg) o_34.toNatClampNeg ∧ ∀ q : Nat, (q < 6 * m_nodes.toNatClampNeg ∨ 6 * m_nodes.toNatClampNeg + 6 ≤ q) → o_39 q = o_25 q ∧ o_40 q = o_26 q := w_31
    refine lv_iload hx hb dX5_lays_92 (lv_at hl 3 rfl) ?_
    have hP9 := hP
    have hD9 := hD
    have hK9 := hK
    have e_fl := w_31.2.1
    rw [w_7.1, w_19.1] at e_fl
    have hN := mj_lay_node (l := p0.toNatClampNeg) (r := p1.toNatClampNeg) (md := y_5.toNatClampNeg) (a := m_nodes.toNatClampNeg) g_2 g_3 n_p0.symm n_p1.symm g_4 g_5 (mj_ag_sub w_7.2.2.2.2 (Nat.le_refl _) g_6) w_19.2.2.2.2 tA2 tB w_31.1 w_31.2.2.2.1 w_31.2.2.2.2.1 (Int.le_trans w_31.2.2.2.2.2.1 (Int.le_of_eq n_p2.symm)) (mj_ln6 n_p2 b4) e_fl w_31.2.2.1 w_31.2.2.2.2.2.2.1 w_31.2.2.2.2.2.2.2.1 w_31.2.2.2.2.2.2.2.2
    exact W.iret (v := m_nodes) hx hb hr (hlocks := hlocks) (fun t ht hW => ⟨⟨m_nodes, (o_20, o_32, o_36, o_37, o_38, o_39, o_40, o_41, o_42, o_29, o_30), rfl, ⟨rfl, (om_345 i_1 w_7.2.1 w_19.2.1), (by (try dsimp only); rw [w_31.2.2.2.1]; exact six4_upd w_19.2.2.1 w_31.2.2.2.2.1 (om_346 b4 w_31.2.2.2.2.2.1)), hN.1, hN.2⟩, by rw [ht]; exact hP9, va_K.moved hW.alike hK9, hD9⟩, hS.F ht⟩) hS.2.2 dX5_lays_94
  · have i_3 : y_2.toInt = 1 := kc_eq c_3
    refine lv_aload_n hx hb dX5_lays_39 rfl (lv_at hl 1 rfl) ?_
    refine lv_iload hx hb dX5_lays_40 (lv_at hl 0 rfl) ?_
    refine lv_aload_n hx hb dX5_lays_42 rfl (lv_at hl 1 rfl) ?_
    refine va_get (D := (dC, dI)) (ci := 5) (v := .ref g_row) (C := RX5) (T := TX5) (N := 30) hx hb hts hi_5 hown hK hP 0 rfl rfl 0 (by decide) hf_7 (fun _ h9 => h9) rfl dX5_lays_43 ?_
    refine lv_iload_n hx hb dX5_lays_46 rfl (lv_at hl 2 rfl) ?_
    refine va_iald hx hb hK hP 1 0 rfl rfl (ki_in (om_10 b0) (om_85 b1 b2)) dX5_lays_47 ?_
    refine lv_topi (fun y_43 ey_43 => ?_)
    have j_43 : y_43.toInt = (f p0.toNatClampNeg).toInt := congrArg Int32.toInt ey_43
    obtain ⟨hPc, hDc, hFc, hCc⟩ := kx_preM (wc := [kx_5 h0 g_row m_n m_slots m_thrown g_many g_loss g_less g_voteValue g_voteNumber g_allValue g_allNumber m_allMany g_nodeL g_nodeR y_1 g_part m_partMany g_wasMany g_wasLoss g_wasValue g_wasNumber g_path m_pathMany g_heavyValue g_heavyTimes m_heavyMany g_fewest g_which g_met m_mostMet, kx_a g_many cyI 324 fm, kx_a g_loss cyI 324 fl, kx_a g_less cyI 324 fe, kx_a g_voteValue cyI 1944 vv, kx_a g_voteNumber cyI 1944 vn]) hP hD hS hA [true, false, true, true, true, true, true, false, false, false, false] rfl
    have hKc := hK
    refine va_callv (va_runV (As := [.int m_nodes, .int y_43]) (rest := []) ⟨hx, hb, hml, hown, hts⟩ (kx_un (c_X5_one_x l dC dI h0 g_row g_many g_loss g_less g_voteValue g_voteNumber g_allValue g_allNumber g_nodeL g_nodeR g_part g_wasMany g_wasLoss g_wasValue g_wasNumber g_path g_heavyValue g_heavyTimes g_fewest g_which g_met m_n m_slots m_thrown m_allMany y_1 m_partMany m_pathMany m_heavyMany m_mostMet cyI fm fl fe vv vn m_nodes y_43 H.size b5 (om_327 b1 b6))) (cwV 2 hts gX5_lays_X5_one rfl rfl rfl (by decide +kernel) ⟨Nat.le_of_ble_eq_true rfl, Nat.le_of_ble_eq_true rfl⟩) ⟨fun a U g mk q => by obtain ⟨q0, q1, qP, qK, qD⟩ := q; exact ⟨q0, q1, qP, va_K.moved (u := U) (U := U.calling g mk a) (Vm.Alike.refl U.vm) qK, qD⟩, kx_rc5 hKc hPc (q0 := 0) rfl, fun U hU hW => ⟨rfl, by rw [hU], by rw [hU]; exact hPc, va_K.moved hW.alike hKc, hDc.weaken (fun _ _ _ _ => trivial)⟩⟩ rfl rfl hl.1 rfl (lv_room (Nat.le_of_ble_eq_true rfl)) dX5_lays_48 ⟨Nat.le_of_ble_eq_true rfl, Nat.le_of_ble_eq_true rfl⟩) hS (fun q _ h => hFc q h) hFc (fun u t H1 locs ht hvm w_44 hB hz1 hk1 hS => ?_)
    obtain ⟨o_45, o_46, o_47, o_48, o_49⟩ := u
    dsimp only at w_44 hB
    obtain ⟨hP1, hK1, hD1⟩ := hB
    rw [ht] at hP1
    have hK1 := va_K.moved hvm.symm hK1
    obtain ⟨hP, hD⟩ := kx_joinM (w2 := [kx_5 h0 g_row m_n m_slots m_thrown g_many g_loss g_less g_voteValue g_voteNumber g_allValue g_allNumber m_allMany g_nodeL g_nodeR y_1 g_part m_partMany g_wasMany g_wasLoss g_wasValue g_wasNumber g_path m_pathMany g_heavyValue g_heavyTimes m_heavyMany g_fewest g_which g_met m_mostMet, kx_a g_row cyI 160 f, kx_a g_many cyI 324 o_45, kx_a g_loss cyI 324 o_46, kx_a g_less cyI 324 o_47, kx_a g_voteValue cyI 1944 o_48, kx_a g_voteNumber cyI 1944 o_49, kx_a g_allValue cyI 12 av, kx_a g_allNumber cyI 12 an, kx_a g_nodeL cyI 320 (upd nl m_nodes.toNatClampNeg p0), kx_a g_nodeR cyI 320 (upd nr m_nodes.toNatClampNeg p1)]) hP hD hP1 hD1 hk1 hFc [true, false, true, true, true, true, true, false, false, false, false] hCc rfl
    clear hP1 hD1 hK1 hk1 hz1 hFc hDc hPc hKc hCc
    generalize H1 = H at hP hS ⊢
    have w_44 : o_45 = upd fm m_nodes.toNatClampNeg 1 ∧ o_46 = upd fl m_nodes.toNatClampNeg 0 ∧ o_47 = upd fe m_nodes.toNatClampNeg 0 ∧ o_48 = upd vv (6 * m_nodes.toNatClampNeg) y_43 ∧ o_49 = upd vn (6 * m_nodes.toNatClampNeg) 1 := w_44
    refine lv_iload hx hb dX5_lays_51 (lv_at hl 0 rfl) ?_
    have hP9 := hP
    have hD9 := hD
    have hK9 := hK
    have n_p0 := ki_nat p0 rfl (om_10 b0)
    have n_p1 := ki_nat p1 rfl (om_21 b0 b1)
    have n_p2 := ki_nat p2 rfl (om_51 b3)
    have n_nd := ki_nat m_nodes rfl (om_10 b5)
    have e_vv := w_44.2.2.2.1
    rw [ey_43] at e_vv
    have hN := mj_lay_leaf (K := p2.toNatClampNeg) (f := f) (nl := nl) (nr := nr) (l := p0.toNatClampNeg) (r := p1.toNatClampNeg) (l32 := p0) (r32 := p1) 4 (mj_ln1 n_p2 b3) (mj_lf9 n_p0 n_p1 i_2 i_3) n_p0.symm n_p1.symm w_44.1 w_44.2.1 w_44.2.2.1 e_vv w_44.2.2.2.2
    exact W.iret (v := m_nodes) hx hb hr (hlocks := hlocks) (fun t ht hW => ⟨⟨m_nodes, (y_1, m_allMany, o_45, o_46, o_47, o_48, o_49, av, an, (upd nl m_nodes.toNatClampNeg p0), (upd nr m_nodes.toNatClampNeg p1)), rfl, ⟨rfl, (om_347 b1 i_1 i_2 i_3), (by (try dsimp only); rw [w_44.1]; exact six4_upd s4 (by decide) (by decide)), hN.1, hN.2⟩, by rw [ht]; exact hP9, va_K.moved hW.alike hK9, hD9⟩, hS.F ht⟩) hS.2.2 dX5_lays_53



abbrev cX5_laysAll : ByteArray := prog_7_method_14_code
def yX5_laysAll : MethodName := ⟨RX5, "laysAll", "(I)V"⟩
def wsX5_laysAll_r1 : List Cond := [Cond.fieldLink RX5 101 "MajorityIndexModel" "nodes" "I", Cond.fieldLink RX5 84 "MajorityIndexModel" "n" "I", Cond.methodLink RX5 107 yX5_lays, Cond.instanceMethod yX5_lays, Cond.selects RX5 yX5_lays yX5_lays, Cond.initialized RX5, Cond.code yX5_lays cX5_lays 8 (some .int), Cond.fieldLink RX5 38 "MajorityIndexModel" "nodeL" "[I", Cond.fieldLink RX5 41 "MajorityIndexModel" "nodeR" "[I", Cond.fieldLink RX5 7 "MajorityIndexModel" "row" "[I", Cond.methodLink RX5 104 yX5_one, Cond.instanceMethod yX5_one, Cond.selects RX5 yX5_one yX5_one, Cond.code yX5_one cX5_one 3 none, Cond.fieldLink RX5 17 "MajorityIndexModel" "many" "[I", Cond.fieldLink RX5 20 "MajorityIndexModel" "loss" "[I", Cond.fieldLink RX5 23 "MajorityIndexModel" "less" "[I", Cond.fieldLink RX5 26 "MajorityIndexModel" "voteValue" "[I", Cond.fieldLink RX5 29 "MajorityIndexModel" "voteNumber" "[I", Cond.methodLink RX5 111 yX5_together, Cond.instanceMethod yX5_together, Cond.selects RX5 yX5_together yX5_together, Cond.code yX5_together cX5_together 9 none, Cond.fieldLink RX5 87 "MajorityIndexModel" "allMany" "I"]
def wsX5_laysAll_r2 : List Cond := [Cond.fieldLink RX5 35 "MajorityIndexModel" "allNumber" "[I", Cond.fieldLink RX5 32 "MajorityIndexModel" "allValue" "[I", Cond.methodLink RX5 94 yX5_adds, Cond.instanceMethod yX5_adds, Cond.selects RX5 yX5_adds yX5_adds, Cond.code yX5_adds cX5_adds 4 none, Cond.methodLink RX5 98 yX5_sorts, Cond.instanceMethod yX5_sorts, Cond.selects RX5 yX5_sorts yX5_sorts, Cond.code yX5_sorts cX5_sorts 4 none, Cond.methodLink RX5 90 yX5_isAhead, Cond.instanceMethod yX5_isAhead, Cond.selects RX5 yX5_isAhead yX5_isAhead, Cond.code yX5_isAhead cX5_isAhead 3 (some .boolean)]
def wsX5_laysAll : List Cond := .code yX5_laysAll cX5_laysAll 2 none :: ((wsX5_laysAll_r1 ++ wsX5_laysAll_r2) ++ wsX50)
theorem mi_wsX5_laysAll_wsX5_laysAll_r1 : ∀ w ∈ wsX5_laysAll_r1, w ∈ wsX5_laysAll := fun _ h => (List.mem_cons_of_mem _ (List.mem_append_left _ (List.mem_append_left _ h)))
theorem mi_wsX5_laysAll_wsX5_laysAll_r2 : ∀ w ∈ wsX5_laysAll_r2, w ∈ wsX5_laysAll := fun _ h => (List.mem_cons_of_mem _ (List.mem_append_left _ (List.mem_append_right _ h)))
theorem mi_wsX5_laysAll_wsX50 : ∀ w ∈ wsX50, w ∈ wsX5_laysAll := fun _ h => (List.mem_cons_of_mem _ (List.mem_append_right _ h))
set_option maxRecDepth 20000 in
theorem ggX5_laysAll_X5_lays : GoodIn wsX5_laysAll wsX5_lays := goodIn_m _ [(wsX5_laysAll_r1, [false, false, false, false, false, false, true]), (wsX5_laysAll_r1, [true, false, false, false, false, false, false, true, true, true, true, true, true]), (wsX5_laysAll_r1, [false, false, false, false, false, true, false, false, false, false, false, false, false, true, true, true, true, true, true]), (wsX5_laysAll_r1, [false, false, true, true, true, false, false, false, false, false, false, false, false, false, false, false, false, false, false, true, true, true, true, true]), (wsX5_laysAll_r2, [true, true, true, true, true, true, true, true, true, true, true, true, true, true]), (wsX50, [true, true, true, true, true, true, true, true, true, true, true, true, true, true, true, true, true, true, true, true, true, true, true, true, true, true, true, true, true, true])] (gm_c mi_wsX5_laysAll_wsX5_laysAll_r1 (gm_c mi_wsX5_laysAll_wsX5_laysAll_r1 (gm_c mi_wsX5_laysAll_wsX5_laysAll_r1 (gm_c mi_wsX5_laysAll_wsX5_laysAll_r1 (gm_c mi_wsX5_laysAll_wsX5_laysAll_r2 (gm_c mi_wsX5_laysAll_wsX50 gm_n)))))) rfl (by decide +kernel)
set_option maxRecDepth 20000 in
theorem gX5_laysAll_X5_lays : GoodIn wsX5_laysAll (wsV RX5 107 RX5 yX5_lays wsX5_lays) := goodIn_app (goodIn_m _ [(wsX5_laysAll_r1, [false, false, true, true, true, true])] (gm_c mi_wsX5_laysAll_wsX5_laysAll_r1 gm_n) rfl (by decide +kernel)) ggX5_laysAll_X5_lays
def dt_cX5_laysAll_0 : List (Nat × Nat × Nat × Nat) := [(0, 42, 0, 0), (1, 3, 0, 0), (2, 181, 2, 101), (5, 42, 0, 0), (6, 180, 2, 84), (9, 158, 2, 14), (12, 42, 0, 0), (13, 3, 0, 0), (14, 42, 0, 0), (15, 180, 2, 84), (18, 27, 0, 0), (19, 182, 2, 107), (22, 87, 0, 0), (23, 177, 0, 0)]
theorem da_cX5_laysAll_0 : fw dt_cX5_laysAll_0 0 cX5_laysAll.data.toList = true := by decide +kernel
theorem dX5_laysAll_0 : decode cX5_laysAll 0 = .ok (.aload_n 0, 1) := fo_42 (fw_get da_cX5_laysAll_0 0 rfl)
theorem dX5_laysAll_1 : decode cX5_laysAll 1 = .ok (.iconst 0, 1) := fo_3 (fw_get da_cX5_laysAll_0 1 rfl)
theorem dX5_laysAll_2 : decode cX5_laysAll 2 = .ok (.putfield 101, 3) := fo_181 (fw_get da_cX5_laysAll_0 2 rfl)
theorem dX5_laysAll_5 : decode cX5_laysAll 5 = .ok (.aload_n 0, 1) := fo_42 (fw_get da_cX5_laysAll_0 3 rfl)
theorem dX5_laysAll_6 : decode cX5_laysAll 6 = .ok (.getfield 84, 3) := fo_180 (fw_get da_cX5_laysAll_0 4 rfl)
theorem dX5_laysAll_9 : decode cX5_laysAll 9 = .ok (.ifCond .le 14, 3) := fo_158 (fw_get da_cX5_laysAll_0 5 rfl) (by decide +kernel)
theorem dX5_laysAll_12 : decode cX5_laysAll 12 = .ok (.aload_n 0, 1) := fo_42 (fw_get da_cX5_laysAll_0 6 rfl)
theorem dX5_laysAll_13 : decode cX5_laysAll 13 = .ok (.iconst 0, 1) := fo_3 (fw_get da_cX5_laysAll_0 7 rfl)
theorem dX5_laysAll_14 : decode cX5_laysAll 14 = .ok (.aload_n 0, 1) := fo_42 (fw_get da_cX5_laysAll_0 8 rfl)
theorem dX5_laysAll_15 : decode cX5_laysAll 15 = .ok (.getfield 84, 3) := fo_180 (fw_get da_cX5_laysAll_0 9 rfl)
theorem dX5_laysAll_18 : decode cX5_laysAll 18 = .ok (.iload_n 1, 1) := fo_27 (fw_get da_cX5_laysAll_0 10 rfl)
theorem dX5_laysAll_19 : decode cX5_laysAll 19 = .ok (.invokevirtual 107, 3) := fo_182 (fw_get da_cX5_laysAll_0 11 rfl)
theorem dX5_laysAll_22 : decode cX5_laysAll 22 = .ok (.pop, 1) := fo_87 (fw_get da_cX5_laysAll_0 12 rfl)
theorem dX5_laysAll_23 : decode cX5_laysAll 23 = .ok (.return_, 1) := fo_177 (fw_get da_cX5_laysAll_0 13 rfl)


set_option maxHeartbeats 4000000 in
set_option maxRecDepth 100000 in
theorem c_X5_lays_5 (l : Launch) (dC : Nat → ClassId) (dI : Nat → Nat → Nat) (h0 : Nat) (g_row : Nat) (g_many : Nat) (g_loss : Nat) (g_less : Nat) (g_voteValue : Nat) (g_voteNumber : Nat) (g_allValue : Nat) (g_allNumber : Nat) (g_nodeL : Nat) (g_nodeR : Nat) (g_part : Nat) (g_wasMany : Nat) (g_wasLoss : Nat) (g_wasValue : Nat) (g_wasNumber : Nat) (g_path : Nat) (g_heavyValue : Nat) (g_heavyTimes : Nat) (g_fewest : Nat) (g_which : Nat) (g_met : Nat) (m_n : Int32) (m_slots : Int32) (m_thrown : Int32) (m_allMany : Int32) (m_nodes : Int32) (m_partMany : Int32) (m_pathMany : Int32) (m_heavyMany : Int32) (m_mostMet : Int32) (cyI : ClassId) (fm : Nat → Int32) (fl : Nat → Int32) (fe : Nat → Int32) (vv : Nat → Int32) (vn : Nat → Int32) (f : Nat → Int32) (av : Nat → Int32) (an : Nat → Int32) (nl : Nat → Int32) (nr : Nat → Int32) (p0 : Int32) (p1 : Int32) (p2 : Int32) (sz : Nat) (b0 : 0 ≤ p0.toInt) (b1 : p0.toInt < p1.toInt) (b2 : p1.toInt ≤ 160) (b3 : 1 ≤ p2.toInt) (b4 : p2.toInt ≤ 6) (b5 : 0 ≤ m_nodes.toInt) (b6 : m_nodes.toInt + 2 * (p1.toInt - p0.toInt) - 1 ≤ 319) (s4 : six4 fm) (b7 : p1.toInt - p0.toInt ≤ 32) : kx_MQ l (dC, dI) yX5_lays wsX5_lays ({ frames := 7, cells := 0, slots := 0, locals := 315 }) [.ref h0, .int p0, .int p1, .int p2] [kx_5 h0 g_row m_n m_slots m_thrown g_many g_loss g_less g_voteValue g_voteNumber g_allValue g_allNumber m_allMany g_nodeL g_nodeR m_nodes g_part m_partMany g_wasMany g_wasLoss g_wasValue g_wasNumber g_path m_pathMany g_heavyValue g_heavyTimes m_heavyMany g_fewest g_which g_met m_mostMet, kx_a g_row cyI 160 f, kx_a g_many cyI 324 fm, kx_a g_loss cyI 324 fl, kx_a g_less cyI 324 fe, kx_a g_voteValue cyI 1944 vv, kx_a g_voteNumber cyI 1944 vn, kx_a g_allValue cyI 12 av, kx_a g_allNumber cyI 12 an, kx_a g_nodeL cyI 320 nl, kx_a g_nodeR cyI 320 nr] [(cyI, .int)] sz (fun A => va_Qi (fun (r : Int32) (u : Int32 × Int32 × (Nat → Int32) × (Nat → Int32) × (Nat → Int32) × (Nat → Int32) × (Nat → Int32) × (Nat → Int32) × (Nat → Int32) × (Nat → Int32) × (Nat → Int32)) => r = m_nodes ∧ u.1.toInt = m_nodes.toInt + 2 * (p1.toInt - p0.toInt) - 1 ∧ six4 u.2.2.1 ∧ mj_S p2.toNatClampNeg f u.2.2.2.2.2.2.2.2.2.1 u.2.2.2.2.2.2.2.2.2.2 u.2.2.1 u.2.2.2.1 u.2.2.2.2.1 u.2.2.2.2.2.1 u.2.2.2.2.2.2.1 5 m_nodes.toNatClampNeg p0.toNatClampNeg p1.toNatClampNeg ∧ mj_ag 0 m_nodes.toNatClampNeg nl nr fm fl fe vv vn u.2.2.2.2.2.2.2.2.2.1 u.2.2.2.2.2.2.2.2.2.2 u.2.2.1 u.2.2.2.1 u.2.2.2.2.1 u.2.2.2.2.2.1 u.2.2.2.2.2.2.1) (fun (u : Int32 × Int32 × (Nat → Int32) × (Nat → Int32) × (Nat → Int32) × (Nat → Int32) × (Nat → Int32) × (Nat → Int32) × (Nat → Int32) × (Nat → Int32) × (Nat → Int32)) (t : State) => va_P (dC, dI) vwCl [kx_5 h0 g_row m_n m_slots m_thrown g_many g_loss g_less g_voteValue g_voteNumber g_allValue g_allNumber u.2.1 g_nodeL g_nodeR u.1 g_part m_partMany g_wasMany g_wasLoss g_wasValue g_wasNumber g_path m_pathMany g_heavyValue g_heavyTimes m_heavyMany g_fewest g_which g_met m_mostMet, kx_a g_row cyI 160 f, kx_a g_many cyI 324 u.2.2.1, kx_a g_loss cyI 324 u.2.2.2.1, kx_a g_less cyI 324 u.2.2.2.2.1, kx_a g_voteValue cyI 1944 u.2.2.2.2.2.1, kx_a g_voteNumber cyI 1944 u.2.2.2.2.2.2.1, kx_a g_allValue cyI 12 u.2.2.2.2.2.2.2.1, kx_a g_allNumber cyI 12 u.2.2.2.2.2.2.2.2.1, kx_a g_nodeL cyI 320 u.2.2.2.2.2.2.2.2.2.1, kx_a g_nodeR cyI 320 u.2.2.2.2.2.2.2.2.2.2] t.heap ∧ va_K (dC, dI) vwCl [(cyI, .int)] t ∧ va_D A [kx_5 h0 g_row m_n m_slots m_thrown g_many g_loss g_less g_voteValue g_voteNumber g_allValue g_allNumber u.2.1 g_nodeL g_nodeR u.1 g_part m_partMany g_wasMany g_wasLoss g_wasValue g_wasNumber g_path m_pathMany g_heavyValue g_heavyTimes m_heavyMany g_fewest g_which g_met m_mostMet, kx_a g_row cyI 160 f, kx_a g_many cyI 324 u.2.2.1, kx_a g_loss cyI 324 u.2.2.2.1, kx_a g_less cyI 324 u.2.2.2.2.1, kx_a g_voteValue cyI 1944 u.2.2.2.2.2.1, kx_a g_voteNumber cyI 1944 u.2.2.2.2.2.2.1, kx_a g_allValue cyI 12 u.2.2.2.2.2.2.2.1, kx_a g_allNumber cyI 12 u.2.2.2.2.2.2.2.2.1, kx_a g_nodeL cyI 320 u.2.2.2.2.2.2.2.2.2.1, kx_a g_nodeR cyI 320 u.2.2.2.2.2.2.2.2.2.2]) A) := by
  refine kx_stQ (ws := wsX5_lays) (cc := cX5_lays) (maxL := 8) (ret := (some .int)) (by decide) rfl (Nat.le_of_ble_eq_true rfl) ?_
  intro p e s m below meth c A ls hx hb hr hlocks hts hown hml hA hS hP hK hD hl
  have hown : s.vm.findClass RX5 = some m.cls := hown
  have hl : lv_has ls 8 [(0, .ref h0), (1, .int p0), (2, .int p1), (3, .int p2)] := hl
  have hf_101 := hts (.fieldLink RX5 101 "MajorityIndexModel" "nodes" "I") (List.mem_of_getElem? (i := 1) rfl)
  have hi_5 : ∀ w ∈ u_ws RX5 TX5 30, w ∈ wsX5_lays := fun w h => List.mem_cons_of_mem _ (List.mem_append_right _ h)
  have hf_38 := hts (.fieldLink RX5 38 "MajorityIndexModel" "nodeL" "[I") (List.mem_of_getElem? (i := 2) rfl)
  have hf_41 := hts (.fieldLink RX5 41 "MajorityIndexModel" "nodeR" "[I") (List.mem_of_getElem? (i := 3) rfl)
  have hf_7 := hts (.fieldLink RX5 7 "MajorityIndexModel" "row" "[I") (List.mem_of_getElem? (i := 4) rfl)
  refine lv_aload_n hx hb dX5_lays_0 rfl (lv_at hl 0 rfl) ?_
  refine va_get (D := (dC, dI)) (ci := 5) (v := .int m_nodes) (C := RX5) (T := TX5) (N := 30) hx hb hts hi_5 hown hK hP 0 rfl rfl 14 (by decide) hf_101 (fun _ h9 => h9) rfl dX5_lays_1 ?_
  refine lv_istore (lv' := [(4, .int m_nodes), (0, .ref h0), (1, .int p0), (2, .int p1), (3, .int p2)]) hx hb dX5_lays_4 hl (by decide) rfl (fun ls hl => ?_)
  refine lv_aload_n hx hb dX5_lays_6 rfl (lv_at hl 1 rfl) ?_
  refine lv_dup hx hb dX5_lays_7 rfl ?_
  refine va_get (D := (dC, dI)) (ci := 5) (v := .int m_nodes) (C := RX5) (T := TX5) (N := 30) hx hb hts hi_5 hown hK hP 0 rfl rfl 14 (by decide) hf_101 (fun _ h9 => h9) rfl dX5_lays_8 ?_
  refine lv_iconst (v := 1) hx hb dX5_lays_11 (by decide) ?_
  refine lv_iadd hx hb dX5_lays_12 ?_
  refine lv_topi (fun y_1 ey_1 => ?_)
  have i_1 : y_1.toInt = m_nodes.toInt + 1 := ki_add ey_1 rfl rfl (om_13 b5) (om_324 b1 b6)
  refine va_put (D := (dC, dI)) (ci := 5) (v := .int y_1) (ty := .int) (C := RX5) (T := TX5) (N := 30) hx hb hts hi_5 tyX5 tyX5_ok nmX5 hown hK hP hD hS 0 rfl rfl 14 (by decide) hf_101 (fun _ h9 => h9) rfl (by decide +kernel) rfl rfl (Nat.le_of_ble_eq_true rfl) dX5_lays_13 (fun H locs hP hD hS => ?_)
  obtain ⟨hP, hD⟩ := kx_re (w2 := [kx_5 h0 g_row m_n m_slots m_thrown g_many g_loss g_less g_voteValue g_voteNumber g_allValue g_allNumber m_allMany g_nodeL g_nodeR y_1 g_part m_partMany g_wasMany g_wasLoss g_wasValue g_wasNumber g_path m_pathMany g_heavyValue g_heavyTimes m_heavyMany g_fewest g_which g_met m_mostMet, kx_a g_row cyI 160 f, kx_a g_many cyI 324 fm, kx_a g_loss cyI 324 fl, kx_a g_less cyI 324 fe, kx_a g_voteValue cyI 1944 vv, kx_a g_voteNumber cyI 1944 vn, kx_a g_allValue cyI 12 av, kx_a g_allNumber cyI 12 an, kx_a g_nodeL cyI 320 nl, kx_a g_nodeR cyI 320 nr]) hP hD rfl
  refine lv_aload_n hx hb dX5_lays_16 rfl (lv_at hl 1 rfl) ?_
  refine va_get (D := (dC, dI)) (ci := 5) (v := .ref g_nodeL) (C := RX5) (T := TX5) (N := 30) hx hb hts hi_5 hown hK hP 0 rfl rfl 12 (by decide) hf_38 (fun _ h9 => h9) rfl dX5_lays_17 ?_
  refine lv_iload hx hb dX5_lays_20 (lv_at hl 0 rfl) ?_
  refine lv_iload_n hx hb dX5_lays_22 rfl (lv_at hl 2 rfl) ?_
  refine va_iast hx hb hK hP hD hS 9 0 rfl rfl (ki_in (om_10 b5) (om_325 b1 b6)) dX5_lays_23 (fun H locs hP hD hS => ?_)
  obtain ⟨hP, hD⟩ := kx_re (w2 := [kx_5 h0 g_row m_n m_slots m_thrown g_many g_loss g_less g_voteValue g_voteNumber g_allValue g_allNumber m_allMany g_nodeL g_nodeR y_1 g_part m_partMany g_wasMany g_wasLoss g_wasValue g_wasNumber g_path m_pathMany g_heavyValue g_heavyTimes m_heavyMany g_fewest g_which g_met m_mostMet, kx_a g_row cyI 160 f, kx_a g_many cyI 324 fm, kx_a g_loss cyI 324 fl, kx_a g_less cyI 324 fe, kx_a g_voteValue cyI 1944 vv, kx_a g_voteNumber cyI 1944 vn, kx_a g_allValue cyI 12 av, kx_a g_allNumber cyI 12 an, kx_a g_nodeL cyI 320 (upd nl m_nodes.toNatClampNeg p0), kx_a g_nodeR cyI 320 nr]) hP hD rfl
  refine lv_aload_n hx hb dX5_lays_24 rfl (lv_at hl 1 rfl) ?_
  refine va_get (D := (dC, dI)) (ci := 5) (v := .ref g_nodeR) (C := RX5) (T := TX5) (N := 30) hx hb hts hi_5 hown hK hP 0 rfl rfl 13 (by decide) hf_41 (fun _ h9 => h9) rfl dX5_lays_25 ?_
  refine lv_iload hx hb dX5_lays_28 (lv_at hl 0 rfl) ?_
  refine lv_iload_n hx hb dX5_lays_30 rfl (lv_at hl 3 rfl) ?_
  refine va_iast hx hb hK hP hD hS 10 0 rfl rfl (ki_in (om_10 b5) (om_325 b1 b6)) dX5_lays_31 (fun H locs hP hD hS => ?_)
  obtain ⟨hP, hD⟩ := kx_re (w2 := [kx_5 h0 g_row m_n m_slots m_thrown g_many g_loss g_less g_voteValue g_voteNumber g_allValue g_allNumber m_allMany g_nodeL g_nodeR y_1 g_part m_partMany g_wasMany g_wasLoss g_wasValue g_wasNumber g_path m_pathMany g_heavyValue g_heavyTimes m_heavyMany g_fewest g_which g_met m_mostMet, kx_a g_row cyI 160 f, kx_a g_many cyI 324 fm, kx_a g_loss cyI 324 fl, kx_a g_less cyI 324 fe, kx_a g_voteValue cyI 1944 vv, kx_a g_voteNumber cyI 1944 vn, kx_a g_allValue cyI 12 av, kx_a g_allNumber cyI 12 an, kx_a g_nodeL cyI 320 (upd nl m_nodes.toNatClampNeg p0), kx_a g_nodeR cyI 320 (upd nr m_nodes.toNatClampNeg p1)]) hP hD rfl
  refine lv_iload_n hx hb dX5_lays_32 rfl (lv_at hl 3 rfl) ?_
  refine lv_iload_n hx hb dX5_lays_33 rfl (lv_at hl 2 rfl) ?_
  refine lv_isub hx hb dX5_lays_34 ?_
  refine lv_topi (fun y_2 ey_2 => ?_)
  have i_2 : y_2.toInt = p1.toInt - p0.toInt := ki_sub ey_2 rfl rfl (om_168 b1) (om_354 b7)
  refine lv_iconst (v := 1) hx hb dX5_lays_35 (by decide) ?_
  refine lv_icmp_ne (tgt := 54) hx hb dX5_lays_36 (by decide) (fun c_3 => ?_) (fun c_3 => ?_)
  · have i_3 : ¬ y_2.toInt = 1 := kc_ne c_3
    refine lv_iload_n hx hb dX5_lays_54 rfl (lv_at hl 2 rfl) ?_
    refine lv_iload_n hx hb dX5_lays_55 rfl (lv_at hl 3 rfl) ?_
    refine lv_iadd hx hb dX5_lays_56 ?_
    refine lv_topi (fun y_4 ey_4 => ?_)
    have i_4 : y_4.toInt = p0.toInt + p1.toInt := ki_add ey_4 rfl rfl (om_330 b0 b1) (om_331 b1 b2)
    refine lv_iconst (v := 2) hx hb dX5_lays_57 (by decide) ?_
    refine lv_idiv hx hb dX5_lays_58 (by decide) ?_
    refine lv_topi (fun y_5 ey_5 => ?_)
    have i_5 : y_5.toInt = y_4.toInt / 2 := ki_div2 ey_5 rfl (om_332 b0 b1 i_4)
    have d_6 := om_dv i_5
    refine lv_istore (lv' := [(5, .int y_5), (4, .int m_nodes), (0, .ref h0), (1, .int p0), (2, .int p1), (3, .int p2)]) hx hb dX5_lays_59 hl (by decide) rfl (fun ls hl => ?_)
    refine lv_aload_n hx hb dX5_lays_61 rfl (lv_at hl 2 rfl) ?_
    refine lv_iload_n hx hb dX5_lays_62 rfl (lv_at hl 3 rfl) ?_
    refine lv_iload hx hb dX5_lays_63 (lv_at hl 0 rfl) ?_
    refine lv_iload_n hx hb dX5_lays_65 rfl (lv_at hl 5 rfl) ?_
    have hPc := hP
    have hKc := hK
    have hDc := hD
    have hFc := kx_free hD hS hA
    refine va_calli (va_runV (As := [.int p0, .int y_5, .int p2]) (rest := []) ⟨hx, hb, hml, hown, hts⟩ (kx_un (c_X5_lays_4 l dC dI h0 g_row g_many g_loss g_less g_voteValue g_voteNumber g_allValue g_allNumber g_nodeL g_nodeR g_part g_wasMany g_wasLoss g_wasValue g_wasNumber g_path g_heavyValue g_heavyTimes g_fewest g_which g_met m_n m_slots m_thrown m_allMany y_1 m_partMany m_pathMany m_heavyMany m_mostMet cyI fm fl fe vv vn f av an (upd nl m_nodes.toNatClampNeg p0) (upd nr m_nodes.toNatClampNeg p1) p0 y_5 p2 H.size b0 (by omega) (om_333 b1 b2 i_4 d_6.1) b3 b4 (om_34 b5 i_1) (om_334 b1 b6 i_1 i_4 d_6.1) s4 (om_355 b7 i_4 d_6.1))) (cwV 3 hts gX5_lays_X5_lays rfl rfl rfl (by decide +kernel) ⟨Nat.le_of_ble_eq_true rfl, Nat.le_of_ble_eq_true rfl⟩) ⟨fun a U g mk q => by obtain ⟨q0, q1, qP, qK, qD⟩ := q; exact ⟨q0, q1, qP, va_K.moved (u := U) (U := U.calling g mk a) (Vm.Alike.refl U.vm) qK, qD⟩, kx_rc5 hKc hPc (q0 := 0) rfl, fun U hU hW => ⟨rfl, by rw [hU], by rw [hU]; exact hPc, va_K.moved hW.alike hKc, hDc.weaken (fun _ _ _ _ => trivial)⟩⟩ rfl rfl hl.1 rfl (lv_room (Nat.le_of_ble_eq_true rfl)) dX5_lays_66 ⟨Nat.le_of_ble_eq_true rfl, Nat.le_of_ble_eq_true rfl⟩) hS (fun q _ h => hFc q h) hFc (fun r_7 u t H1 locs ht hvm w_7 hB hz1 hk1 hS => ?_)
    obtain ⟨o_8, o_9, o_10, o_11, o_12, o_13, o_14, o_15, o_16, o_17, o_18⟩ := u
    dsimp only at w_7 hB
    obtain ⟨hP1, hK1, hD1⟩ := hB
    rw [ht] at hP1
    have hK1 := va_K.moved hvm.symm hK1
    have hD := hD1.weaken (fun _ q _ h => hFc q.1 h)
    have hP := hP1
    clear hP1 hD1 hK1 hk1 hz1 hFc hDc hPc hKc
    generalize H1 = H at hP hS ⊢
    have w_7 : r_7 = y_1 ∧ o_8.toInt = y_1.toInt + 2 * (y_5.toInt - p0.toInt) - 1 ∧ six4 o_10 ∧ mj_S p2.toNatClampNeg f o_17 o_18 o_10 o_11 o_12 o_13 o_14 4 y_1.toNatClampNeg p0.toNatClampNeg y_5.toNatClampNeg ∧ mj_ag 0 y_1.toNatClampNeg (upd nl m_nodes.toNatClampNeg p0) (upd nr m_nodes.toNatClampNeg p1) fm fl fe vv vn o_17 o_18 o_10 o_11 o_12 o_13 o_14 := w_7
    refine lv_istore (lv' := [(6, .int r_7), (5, .int y_5), (4, .int m_nodes), (0, .ref h0), (1, .int p0), (2, .int p1), (3, .int p2)]) hx hb dX5_lays_69 hl (by decide) rfl (fun ls hl => ?_)
    refine lv_aload_n hx hb dX5_lays_71 rfl (lv_at hl 3 rfl) ?_
    refine lv_iload hx hb dX5_lays_72 (lv_at hl 1 rfl) ?_
    refine lv_iload_n hx hb dX5_lays_74 rfl (lv_at hl 5 rfl) ?_
    refine lv_iload_n hx hb dX5_lays_75 rfl (lv_at hl 6 rfl) ?_
    have hPc := hP
    have hKc := hK
    have hDc := hD
    have hFc := kx_free hD hS hA
    refine va_calli (va_runV (As := [.int y_5, .int p1, .int p2]) (rest := []) ⟨hx, hb, hml, hown, hts⟩ (kx_un (c_X5_lays_4 l dC dI h0 g_row g_many g_loss g_less g_voteValue g_voteNumber g_allValue g_allNumber g_nodeL g_nodeR g_part g_wasMany g_wasLoss g_wasValue g_wasNumber g_path g_heavyValue g_heavyTimes g_fewest g_which g_met m_n m_slots m_thrown o_9 o_8 m_partMany m_pathMany m_heavyMany m_mostMet cyI o_10 o_11 o_12 o_13 o_14 f o_15 o_16 o_17 o_18 y_5 p1 p2 H.size (om_336 b0 b1 i_4 d_6.2) (by omega) b2 b3 b4 (om_337 b1 b5 i_1 i_4 d_6.2 w_7.2.1) (om_338 b6 i_1 w_7.2.1) w_7.2.2.1 (by omega))) (cwV 3 hts gX5_lays_X5_lays rfl rfl rfl (by decide +kernel) ⟨Nat.le_of_ble_eq_true rfl, Nat.le_of_ble_eq_true rfl⟩) ⟨fun a U g mk q => by obtain ⟨q0, q1, qP, qK, qD⟩ := q; exact ⟨q0, q1, qP, va_K.moved (u := U) (U := U.calling g mk a) (Vm.Alike.refl U.vm) qK, qD⟩, kx_rc5 hKc hPc (q0 := 0) rfl, fun U hU hW => ⟨rfl, by rw [hU], by rw [hU]; exact hPc, va_K.moved hW.alike hKc, hDc.weaken (fun _ _ _ _ => trivial)⟩⟩ rfl rfl hl.1 rfl (lv_room (Nat.le_of_ble_eq_true rfl)) dX5_lays_76 ⟨Nat.le_of_ble_eq_true rfl, Nat.le_of_ble_eq_true rfl⟩) hS (fun q _ h => hFc q h) hFc (fun r_19 u t H1 locs ht hvm w_19 hB hz1 hk1 hS => ?_)
    obtain ⟨o_20, o_21, o_22, o_23, o_24, o_25, o_26, o_27, o_28, o_29, o_30⟩ := u
    dsimp only at w_19 hB
    obtain ⟨hP1, hK1, hD1⟩ := hB
    rw [ht] at hP1
    have hK1 := va_K.moved hvm.symm hK1
    have hD := hD1.weaken (fun _ q _ h => hFc q.1 h)
    have hP := hP1
    clear hP1 hD1 hK1 hk1 hz1 hFc hDc hPc hKc
    generalize H1 = H at hP hS ⊢
    have w_19 : r_19 = o_8 ∧ o_20.toInt = o_8.toInt + 2 * (p1.toInt - y_5.toInt) - 1 ∧ six4 o_22 ∧ mj_S p2.toNatClampNeg f o_29 o_30 o_22 o_23 o_24 o_25 o_26 4 o_8.toNatClampNeg y_5.toNatClampNeg p1.toNatClampNeg ∧ mj_ag 0 o_8.toNatClampNeg o_17 o_18 o_10 o_11 o_12 o_13 o_14 o_29 o_30 o_22 o_23 o_24 o_25 o_26 := w_19
    refine lv_istore (lv' := [(7, .int r_19), (6, .int r_7), (5, .int y_5), (4, .int m_nodes), (0, .ref h0), (1, .int p0), (2, .int p1), (3, .int p2)]) hx hb dX5_lays_79 hl (by decide) rfl (fun ls hl => ?_)
    have n_p0 := ki_nat p0 rfl (om_10 b0)
    have n_p1 := ki_nat p1 rfl (om_21 b0 b1)
    have n_p2 := ki_nat p2 rfl (om_51 b3)
    have n_nd := ki_nat m_nodes rfl (om_10 b5)
    have n_y := ki_nat y_1 rfl (om_34 b5 i_1)
    have n_md := ki_nat y_5 rfl (om_336 b0 b1 i_4 d_6.2)
    have n_oL := ki_nat o_8 rfl (om_337 b1 b5 i_1 i_4 d_6.2 w_7.2.1)
    have i_rL : r_7.toInt = y_1.toInt := congrArg Int32.toInt w_7.1
    have i_rR : r_19.toInt = o_8.toInt := congrArg Int32.toInt w_19.1
    obtain ⟨mua, La, ca, tA⟩ := w_7.2.2.2.1
    obtain ⟨mub, Lb, cb, tB⟩ := w_19.2.2.2.1
    obtain ⟨g_1, g_2, g_3, g_4, g_5, g_6⟩ := mj_ly9 n_p0 n_p1 n_nd n_y n_md n_oL i_1 i_4 i_5 w_7.2.1 b1 i_2 i_3
    have tA2 := mj_T_ag _ _ o_8.toNatClampNeg _ _ _ _ _ tA g_1 (mj_ag_sub w_19.2.2.2.2 (Nat.zero_le _) (Nat.le_refl _))
    have nA := mj_T_nd tA2
    have nB := mj_T_nd tB
    refine lv_aload_n hx hb dX5_lays_81 rfl (lv_at hl 4 rfl) ?_
    refine lv_iload hx hb dX5_lays_82 (lv_at hl 1 rfl) ?_
    refine lv_iload hx hb dX5_lays_84 (lv_at hl 0 rfl) ?_
    refine lv_iload hx hb dX5_lays_86 (lv_at hl 3 rfl) ?_
    refine lv_iload_n hx hb dX5_lays_88 rfl (lv_at hl 7 rfl) ?_
    obtain ⟨hPc, hDc, hFc, hCc⟩ := kx_preM (wc := [kx_5 h0 g_row m_n m_slots m_thrown g_many g_loss g_less g_voteValue g_voteNumber g_allValue g_allNumber o_21 g_nodeL g_nodeR o_20 g_part m_partMany g_wasMany g_wasLoss g_wasValue g_wasNumber g_path m_pathMany g_heavyValue g_heavyTimes m_heavyMany g_fewest g_which g_met m_mostMet, kx_a g_many cyI 324 o_22, kx_a g_loss cyI 324 o_23, kx_a g_less cyI 324 o_24, kx_a g_voteValue cyI 1944 o_25, kx_a g_voteNumber cyI 1944 o_26, kx_a g_allValue cyI 12 o_27, kx_a g_allNumber cyI 12 o_28]) hP hD hS hA [true, false, true, true, true, true, true, true, true, false, false] rfl
    have hKc := hK
    refine va_callv (va_runV (As := [.int r_7, .int r_19, .int m_nodes, .int p2]) (rest := []) ⟨hx, hb, hml, hown, hts⟩ (kx_un (c_X5_together l dC dI h0 g_row g_many g_loss g_less g_voteValue g_voteNumber g_allValue g_allNumber g_nodeL g_nodeR g_part g_wasMany g_wasLoss g_wasValue g_wasNumber g_path g_heavyValue g_heavyTimes g_fewest g_which g_met m_n m_slots m_thrown o_21 o_20 m_partMany m_pathMany m_heavyMany m_mostMet cyI o_22 o_23 o_24 o_25 o_26 o_27 o_28 mua mub r_7 r_19 m_nodes p2 H.size (om_339 b5 i_1 i_rL) (om_340 b1 b6 i_1 i_rL) (om_341 b1 b5 i_1 i_4 d_6.2 w_7.2.1 i_rR) (om_342 b1 b6 i_1 i_4 d_6.1 w_7.2.1 i_rR) (om_10 b5) (om_343 b1 b6) (om_51 b3) (om_344 b4) (by rw [w_7.1]; exact nA.2.2.1) (by rw [w_7.1]; exact nA.2.2.2.1) (by rw [w_19.1]; exact nB.2.2.1) (by rw [w_19.1]; exact nB.2.2.2.1) (by rw [w_7.1]; exact nA.2.2.2.2.2.2.2.1) (by rw [w_19.1]; exact nB.2.2.2.2.2.2.2.1) (fun v => by have h1 := mj_T_le _ _ _ _ _ _ _ tA2 v; have h2 := mj_T_le _ _ _ _ _ _ _ tB v; omega))) (cwV 4 hts gX5_lays_X5_together rfl rfl rfl (by decide +kernel) ⟨Nat.le_of_ble_eq_true rfl, Nat.le_of_ble_eq_true rfl⟩) ⟨fun a U g mk q => by obtain ⟨q0, q1, qP, qK, qD⟩ := q; exact ⟨q0, q1, qP, va_K.moved (u := U) (U := U.calling g mk a) (Vm.Alike.refl U.vm) qK, qD⟩, kx_rc5 hKc hPc (q0 := 0) rfl, fun U hU hW => ⟨rfl, by rw [hU], by rw [hU]; exact hPc, va_K.moved hW.alike hKc, hDc.weaken (fun _ _ _ _ => trivial)⟩⟩ rfl rfl hl.1 rfl (lv_room (Nat.le_of_ble_eq_true rfl)) dX5_lays_89 ⟨Nat.le_of_ble_eq_true rfl, Nat.le_of_ble_eq_true rfl⟩) hS (fun q _ h => hFc q h) hFc (fun u t H1 locs ht hvm w_31 hB hz1 hk1 hS => ?_)
    obtain ⟨o_32, o_33, o_34, o_35, o_36, o_37, o_38, o_39, o_40, o_41, o_42⟩ := u
    dsimp only at w_31 hB
    obtain ⟨hP1, hK1, hD1⟩ := hB
    rw [ht] at hP1
    have hK1 := va_K.moved hvm.symm hK1
    obtain ⟨hP, hD⟩ := kx_joinM (w2 := [kx_5 h0 g_row m_n m_slots m_thrown g_many g_loss g_less g_voteValue g_voteNumber g_allValue g_allNumber o_32 g_nodeL g_nodeR o_20 g_part m_partMany g_wasMany g_wasLoss g_wasValue g_wasNumber g_path m_pathMany g_heavyValue g_heavyTimes m_heavyMany g_fewest g_which g_met m_mostMet, kx_a g_row cyI 160 f, kx_a g_many cyI 324 o_36, kx_a g_loss cyI 324 o_37, kx_a g_less cyI 324 o_38, kx_a g_voteValue cyI 1944 o_39, kx_a g_voteNumber cyI 1944 o_40, kx_a g_allValue cyI 12 o_41, kx_a g_allNumber cyI 12 o_42, kx_a g_nodeL cyI 320 o_29, kx_a g_nodeR cyI 320 o_30]) hP hD hP1 hD1 hk1 hFc [true, false, true, true, true, true, true, true, true, false, false] hCc rfl
    clear hP1 hD1 hK1 hk1 hz1 hFc hDc hPc hKc hCc
    generalize H1 = H at hP hS ⊢
    have w_31 : mj_tog p2.toNatClampNeg mua mub o_35 o_33 ∧ o_37 = upd o_23 m_nodes.toNatClampNeg (o_23 r_7.toNatClampNeg + o_23 r_19.toNatClampNeg + o_33) ∧ o_38 = upd o_24 m_nodes.toNatClampNeg o_33 ∧ o_36 = upd o_22 m_nodes.toNatClampNeg o_34 ∧ 0 ≤ o_34.toInt ∧ o_34.toInt ≤ p2.toInt ∧ mj_vs o_39 o_40 (6 * m_nodes.toNatClampNeg) o_34.toNatClampNeg o_35 ∧ mj_srt o_39 o_40 (6 * m_nodes.toNatClampNeg) o_34.toNatClampNeg ∧ ∀ q : Nat, (q < 6 * m_nodes.toNatClampNeg ∨ 6 * m_nodes.toNatClampNeg + 6 ≤ q) → o_39 q = o_25 q ∧ o_40 q = o_26 q := w_31
    refine lv_iload hx hb dX5_lays_92 (lv_at hl 3 rfl) ?_
    have hP9 := hP
    have hD9 := hD
    have hK9 := hK
    have e_fl := w_31.2.1
    rw [w_7.1, w_19.1] at e_fl
    have hN := mj_lay_node (l := p0.toNatClampNeg) (r := p1.toNatClampNeg) (md := y_5.toNatClampNeg) (a := m_nodes.toNatClampNeg) g_2 g_3 n_p0.symm n_p1.symm g_4 g_5 (mj_ag_sub w_7.2.2.2.2 (Nat.le_refl _) g_6) w_19.2.2.2.2 tA2 tB w_31.1 w_31.2.2.2.1 w_31.2.2.2.2.1 (Int.le_trans w_31.2.2.2.2.2.1 (Int.le_of_eq n_p2.symm)) (mj_ln6 n_p2 b4) e_fl w_31.2.2.1 w_31.2.2.2.2.2.2.1 w_31.2.2.2.2.2.2.2.1 w_31.2.2.2.2.2.2.2.2
    exact W.iret (v := m_nodes) hx hb hr (hlocks := hlocks) (fun t ht hW => ⟨⟨m_nodes, (o_20, o_32, o_36, o_37, o_38, o_39, o_40, o_41, o_42, o_29, o_30), rfl, ⟨rfl, (om_345 i_1 w_7.2.1 w_19.2.1), (by (try dsimp only); rw [w_31.2.2.2.1]; exact six4_upd w_19.2.2.1 w_31.2.2.2.2.1 (om_346 b4 w_31.2.2.2.2.2.1)), hN.1, hN.2⟩, by rw [ht]; exact hP9, va_K.moved hW.alike hK9, hD9⟩, hS.F ht⟩) hS.2.2 dX5_lays_94
  · have i_3 : y_2.toInt = 1 := kc_eq c_3
    refine lv_aload_n hx hb dX5_lays_39 rfl (lv_at hl 1 rfl) ?_
    refine lv_iload hx hb dX5_lays_40 (lv_at hl 0 rfl) ?_
    refine lv_aload_n hx hb dX5_lays_42 rfl (lv_at hl 1 rfl) ?_
    refine va_get (D := (dC, dI)) (ci := 5) (v := .ref g_row) (C := RX5) (T := TX5) (N := 30) hx hb hts hi_5 hown hK hP 0 rfl rfl 0 (by decide) hf_7 (fun _ h9 => h9) rfl dX5_lays_43 ?_
    refine lv_iload_n hx hb dX5_lays_46 rfl (lv_at hl 2 rfl) ?_
    refine va_iald hx hb hK hP 1 0 rfl rfl (ki_in (om_10 b0) (om_85 b1 b2)) dX5_lays_47 ?_
    refine lv_topi (fun y_43 ey_43 => ?_)
    have j_43 : y_43.toInt = (f p0.toNatClampNeg).toInt := congrArg Int32.toInt ey_43
    obtain ⟨hPc, hDc, hFc, hCc⟩ := kx_preM (wc := [kx_5 h0 g_row m_n m_slots m_thrown g_many g_loss g_less g_voteValue g_voteNumber g_allValue g_allNumber m_allMany g_nodeL g_nodeR y_1 g_part m_partMany g_wasMany g_wasLoss g_wasValue g_wasNumber g_path m_pathMany g_heavyValue g_heavyTimes m_heavyMany g_fewest g_which g_met m_mostMet, kx_a g_many cyI 324 fm, kx_a g_loss cyI 324 fl, kx_a g_less cyI 324 fe, kx_a g_voteValue cyI 1944 vv, kx_a g_voteNumber cyI 1944 vn]) hP hD hS hA [true, false, true, true, true, true, true, false, false, false, false] rfl
    have hKc := hK
    refine va_callv (va_runV (As := [.int m_nodes, .int y_43]) (rest := []) ⟨hx, hb, hml, hown, hts⟩ (kx_un (c_X5_one_x l dC dI h0 g_row g_many g_loss g_less g_voteValue g_voteNumber g_allValue g_allNumber g_nodeL g_nodeR g_part g_wasMany g_wasLoss g_wasValue g_wasNumber g_path g_heavyValue g_heavyTimes g_fewest g_which g_met m_n m_slots m_thrown m_allMany y_1 m_partMany m_pathMany m_heavyMany m_mostMet cyI fm fl fe vv vn m_nodes y_43 H.size b5 (om_327 b1 b6))) (cwV 2 hts gX5_lays_X5_one rfl rfl rfl (by decide +kernel) ⟨Nat.le_of_ble_eq_true rfl, Nat.le_of_ble_eq_true rfl⟩) ⟨fun a U g mk q => by obtain ⟨q0, q1, qP, qK, qD⟩ := q; exact ⟨q0, q1, qP, va_K.moved (u := U) (U := U.calling g mk a) (Vm.Alike.refl U.vm) qK, qD⟩, kx_rc5 hKc hPc (q0 := 0) rfl, fun U hU hW => ⟨rfl, by rw [hU], by rw [hU]; exact hPc, va_K.moved hW.alike hKc, hDc.weaken (fun _ _ _ _ => trivial)⟩⟩ rfl rfl hl.1 rfl (lv_room (Nat.le_of_ble_eq_true rfl)) dX5_lays_48 ⟨Nat.le_of_ble_eq_true rfl, Nat.le_of_ble_eq_true rfl⟩) hS (fun q _ h => hFc q h) hFc (fun u t H1 locs ht hvm w_44 hB hz1 hk1 hS => ?_)
    obtain ⟨o_45, o_46, o_47, o_48, o_49⟩ := u
    dsimp only at w_44 hB
    obtain ⟨hP1, hK1, hD1⟩ := hB
    rw [ht] at hP1
    have hK1 := va_K.moved hvm.symm hK1
    obtain ⟨hP, hD⟩ := kx_joinM (w2 := [kx_5 h0 g_row m_n m_slots m_thrown g_many g_loss g_less g_voteValue g_voteNumber g_allValue g_allNumber m_allMany g_nodeL g_nodeR y_1 g_part m_partMany g_wasMany g_wasLoss g_wasValue g_wasNumber g_path m_pathMany g_heavyValue g_heavyTimes m_heavyMany g_fewest g_which g_met m_mostMet, kx_a g_row cyI 160 f, kx_a g_many cyI 324 o_45, kx_a g_loss cyI 324 o_46, kx_a g_less cyI 324 o_47, kx_a g_voteValue cyI 1944 o_48, kx_a g_voteNumber cyI 1944 o_49, kx_a g_allValue cyI 12 av, kx_a g_allNumber cyI 12 an, kx_a g_nodeL cyI 320 (upd nl m_nodes.toNatClampNeg p0), kx_a g_nodeR cyI 320 (upd nr m_nodes.toNatClampNeg p1)]) hP hD hP1 hD1 hk1 hFc [true, false, true, true, true, true, true, false, false, false, false] hCc rfl
    clear hP1 hD1 hK1 hk1 hz1 hFc hDc hPc hKc hCc
    generalize H1 = H at hP hS ⊢
    have w_44 : o_45 = upd fm m_nodes.toNatClampNeg 1 ∧ o_46 = upd fl m_nodes.toNatClampNeg 0 ∧ o_47 = upd fe m_nodes.toNatClampNeg 0 ∧ o_48 = upd vv (6 * m_nodes.toNatClampNeg) y_43 ∧ o_49 = upd vn (6 * m_nodes.toNatClampNeg) 1 := w_44
    refine lv_iload hx hb dX5_lays_51 (lv_at hl 0 rfl) ?_
    have hP9 := hP
    have hD9 := hD
    have hK9 := hK
    have n_p0 := ki_nat p0 rfl (om_10 b0)
    have n_p1 := ki_nat p1 rfl (om_21 b0 b1)
    have n_p2 := ki_nat p2 rfl (om_51 b3)
    have n_nd := ki_nat m_nodes rfl (om_10 b5)
    have e_vv := w_44.2.2.2.1
    rw [ey_43] at e_vv
    have hN := mj_lay_leaf (K := p2.toNatClampNeg) (f := f) (nl := nl) (nr := nr) (l := p0.toNatClampNeg) (r := p1.toNatClampNeg) (l32 := p0) (r32 := p1) 5 (mj_ln1 n_p2 b3) (mj_lf9 n_p0 n_p1 i_2 i_3) n_p0.symm n_p1.symm w_44.1 w_44.2.1 w_44.2.2.1 e_vv w_44.2.2.2.2
    exact W.iret (v := m_nodes) hx hb hr (hlocks := hlocks) (fun t ht hW => ⟨⟨m_nodes, (y_1, m_allMany, o_45, o_46, o_47, o_48, o_49, av, an, (upd nl m_nodes.toNatClampNeg p0), (upd nr m_nodes.toNatClampNeg p1)), rfl, ⟨rfl, (om_347 b1 i_1 i_2 i_3), (by (try dsimp only); rw [w_44.1]; exact six4_upd s4 (by decide) (by decide)), hN.1, hN.2⟩, by rw [ht]; exact hP9, va_K.moved hW.alike hK9, hD9⟩, hS.F ht⟩) hS.2.2 dX5_lays_53

set_option maxHeartbeats 4000000 in
set_option maxRecDepth 100000 in
theorem c_X5_lays_6 (l : Launch) (dC : Nat → ClassId) (dI : Nat → Nat → Nat) (h0 : Nat) (g_row : Nat) (g_many : Nat) (g_loss : Nat) (g_less : Nat) (g_voteValue : Nat) (g_voteNumber : Nat) (g_allValue : Nat) (g_allNumber : Nat) (g_nodeL : Nat) (g_nodeR : Nat) (g_part : Nat) (g_wasMany : Nat) (g_wasLoss : Nat) (g_wasValue : Nat) (g_wasNumber : Nat) (g_path : Nat) (g_heavyValue : Nat) (g_heavyTimes : Nat) (g_fewest : Nat) (g_which : Nat) (g_met : Nat) (m_n : Int32) (m_slots : Int32) (m_thrown : Int32) (m_allMany : Int32) (m_nodes : Int32) (m_partMany : Int32) (m_pathMany : Int32) (m_heavyMany : Int32) (m_mostMet : Int32) (cyI : ClassId) (fm : Nat → Int32) (fl : Nat → Int32) (fe : Nat → Int32) (vv : Nat → Int32) (vn : Nat → Int32) (f : Nat → Int32) (av : Nat → Int32) (an : Nat → Int32) (nl : Nat → Int32) (nr : Nat → Int32) (p0 : Int32) (p1 : Int32) (p2 : Int32) (sz : Nat) (b0 : 0 ≤ p0.toInt) (b1 : p0.toInt < p1.toInt) (b2 : p1.toInt ≤ 160) (b3 : 1 ≤ p2.toInt) (b4 : p2.toInt ≤ 6) (b5 : 0 ≤ m_nodes.toInt) (b6 : m_nodes.toInt + 2 * (p1.toInt - p0.toInt) - 1 ≤ 319) (s4 : six4 fm) (b7 : p1.toInt - p0.toInt ≤ 64) : kx_MQ l (dC, dI) yX5_lays wsX5_lays ({ frames := 8, cells := 0, slots := 0, locals := 360 }) [.ref h0, .int p0, .int p1, .int p2] [kx_5 h0 g_row m_n m_slots m_thrown g_many g_loss g_less g_voteValue g_voteNumber g_allValue g_allNumber m_allMany g_nodeL g_nodeR m_nodes g_part m_partMany g_wasMany g_wasLoss g_wasValue g_wasNumber g_path m_pathMany g_heavyValue g_heavyTimes m_heavyMany g_fewest g_which g_met m_mostMet, kx_a g_row cyI 160 f, kx_a g_many cyI 324 fm, kx_a g_loss cyI 324 fl, kx_a g_less cyI 324 fe, kx_a g_voteValue cyI 1944 vv, kx_a g_voteNumber cyI 1944 vn, kx_a g_allValue cyI 12 av, kx_a g_allNumber cyI 12 an, kx_a g_nodeL cyI 320 nl, kx_a g_nodeR cyI 320 nr] [(cyI, .int)] sz (fun A => va_Qi (fun (r : Int32) (u : Int32 × Int32 × (Nat → Int32) × (Nat → Int32) × (Nat → Int32) × (Nat → Int32) × (Nat → Int32) × (Nat → Int32) × (Nat → Int32) × (Nat → Int32) × (Nat → Int32)) => r = m_nodes ∧ u.1.toInt = m_nodes.toInt + 2 * (p1.toInt - p0.toInt) - 1 ∧ six4 u.2.2.1 ∧ mj_S p2.toNatClampNeg f u.2.2.2.2.2.2.2.2.2.1 u.2.2.2.2.2.2.2.2.2.2 u.2.2.1 u.2.2.2.1 u.2.2.2.2.1 u.2.2.2.2.2.1 u.2.2.2.2.2.2.1 6 m_nodes.toNatClampNeg p0.toNatClampNeg p1.toNatClampNeg ∧ mj_ag 0 m_nodes.toNatClampNeg nl nr fm fl fe vv vn u.2.2.2.2.2.2.2.2.2.1 u.2.2.2.2.2.2.2.2.2.2 u.2.2.1 u.2.2.2.1 u.2.2.2.2.1 u.2.2.2.2.2.1 u.2.2.2.2.2.2.1) (fun (u : Int32 × Int32 × (Nat → Int32) × (Nat → Int32) × (Nat → Int32) × (Nat → Int32) × (Nat → Int32) × (Nat → Int32) × (Nat → Int32) × (Nat → Int32) × (Nat → Int32)) (t : State) => va_P (dC, dI) vwCl [kx_5 h0 g_row m_n m_slots m_thrown g_many g_loss g_less g_voteValue g_voteNumber g_allValue g_allNumber u.2.1 g_nodeL g_nodeR u.1 g_part m_partMany g_wasMany g_wasLoss g_wasValue g_wasNumber g_path m_pathMany g_heavyValue g_heavyTimes m_heavyMany g_fewest g_which g_met m_mostMet, kx_a g_row cyI 160 f, kx_a g_many cyI 324 u.2.2.1, kx_a g_loss cyI 324 u.2.2.2.1, kx_a g_less cyI 324 u.2.2.2.2.1, kx_a g_voteValue cyI 1944 u.2.2.2.2.2.1, kx_a g_voteNumber cyI 1944 u.2.2.2.2.2.2.1, kx_a g_allValue cyI 12 u.2.2.2.2.2.2.2.1, kx_a g_allNumber cyI 12 u.2.2.2.2.2.2.2.2.1, kx_a g_nodeL cyI 320 u.2.2.2.2.2.2.2.2.2.1, kx_a g_nodeR cyI 320 u.2.2.2.2.2.2.2.2.2.2] t.heap ∧ va_K (dC, dI) vwCl [(cyI, .int)] t ∧ va_D A [kx_5 h0 g_row m_n m_slots m_thrown g_many g_loss g_less g_voteValue g_voteNumber g_allValue g_allNumber u.2.1 g_nodeL g_nodeR u.1 g_part m_partMany g_wasMany g_wasLoss g_wasValue g_wasNumber g_path m_pathMany g_heavyValue g_heavyTimes m_heavyMany g_fewest g_which g_met m_mostMet, kx_a g_row cyI 160 f, kx_a g_many cyI 324 u.2.2.1, kx_a g_loss cyI 324 u.2.2.2.1, kx_a g_less cyI 324 u.2.2.2.2.1, kx_a g_voteValue cyI 1944 u.2.2.2.2.2.1, kx_a g_voteNumber cyI 1944 u.2.2.2.2.2.2.1, kx_a g_allValue cyI 12 u.2.2.2.2.2.2.2.1, kx_a g_allNumber cyI 12 u.2.2.2.2.2.2.2.2.1, kx_a g_nodeL cyI 320 u.2.2.2.2.2.2.2.2.2.1, kx_a g_nodeR cyI 320 u.2.2.2.2.2.2.2.2.2.2]) A) := by
  refine kx_stQ (ws := wsX5_lays) (cc := cX5_lays) (maxL := 8) (ret := (some .int)) (by decide) rfl (Nat.le_of_ble_eq_true rfl) ?_
  intro p e s m below meth c A ls hx hb hr hlocks hts hown hml hA hS hP hK hD hl
  have hown : s.vm.findClass RX5 = some m.cls := hown
  have hl : lv_has ls 8 [(0, .ref h0), (1, .int p0), (2, .int p1), (3, .int p2)] := hl
  have hf_101 := hts (.fieldLink RX5 101 "MajorityIndexModel" "nodes" "I") (List.mem_of_getElem? (i := 1) rfl)
  have hi_5 : ∀ w ∈ u_ws RX5 TX5 30, w ∈ wsX5_lays := fun w h => List.mem_cons_of_mem _ (List.mem_append_right _ h)
  have hf_38 := hts (.fieldLink RX5 38 "MajorityIndexModel" "nodeL" "[I") (List.mem_of_getElem? (i := 2) rfl)
  have hf_41 := hts (.fieldLink RX5 41 "MajorityIndexModel" "nodeR" "[I") (List.mem_of_getElem? (i := 3) rfl)
  have hf_7 := hts (.fieldLink RX5 7 "MajorityIndexModel" "row" "[I") (List.mem_of_getElem? (i := 4) rfl)
  refine lv_aload_n hx hb dX5_lays_0 rfl (lv_at hl 0 rfl) ?_
  refine va_get (D := (dC, dI)) (ci := 5) (v := .int m_nodes) (C := RX5) (T := TX5) (N := 30) hx hb hts hi_5 hown hK hP 0 rfl rfl 14 (by decide) hf_101 (fun _ h9 => h9) rfl dX5_lays_1 ?_
  refine lv_istore (lv' := [(4, .int m_nodes), (0, .ref h0), (1, .int p0), (2, .int p1), (3, .int p2)]) hx hb dX5_lays_4 hl (by decide) rfl (fun ls hl => ?_)
  refine lv_aload_n hx hb dX5_lays_6 rfl (lv_at hl 1 rfl) ?_
  refine lv_dup hx hb dX5_lays_7 rfl ?_
  refine va_get (D := (dC, dI)) (ci := 5) (v := .int m_nodes) (C := RX5) (T := TX5) (N := 30) hx hb hts hi_5 hown hK hP 0 rfl rfl 14 (by decide) hf_101 (fun _ h9 => h9) rfl dX5_lays_8 ?_
  refine lv_iconst (v := 1) hx hb dX5_lays_11 (by decide) ?_
  refine lv_iadd hx hb dX5_lays_12 ?_
  refine lv_topi (fun y_1 ey_1 => ?_)
  have i_1 : y_1.toInt = m_nodes.toInt + 1 := ki_add ey_1 rfl rfl (om_13 b5) (om_324 b1 b6)
  refine va_put (D := (dC, dI)) (ci := 5) (v := .int y_1) (ty := .int) (C := RX5) (T := TX5) (N := 30) hx hb hts hi_5 tyX5 tyX5_ok nmX5 hown hK hP hD hS 0 rfl rfl 14 (by decide) hf_101 (fun _ h9 => h9) rfl (by decide +kernel) rfl rfl (Nat.le_of_ble_eq_true rfl) dX5_lays_13 (fun H locs hP hD hS => ?_)
  obtain ⟨hP, hD⟩ := kx_re (w2 := [kx_5 h0 g_row m_n m_slots m_thrown g_many g_loss g_less g_voteValue g_voteNumber g_allValue g_allNumber m_allMany g_nodeL g_nodeR y_1 g_part m_partMany g_wasMany g_wasLoss g_wasValue g_wasNumber g_path m_pathMany g_heavyValue g_heavyTimes m_heavyMany g_fewest g_which g_met m_mostMet, kx_a g_row cyI 160 f, kx_a g_many cyI 324 fm, kx_a g_loss cyI 324 fl, kx_a g_less cyI 324 fe, kx_a g_voteValue cyI 1944 vv, kx_a g_voteNumber cyI 1944 vn, kx_a g_allValue cyI 12 av, kx_a g_allNumber cyI 12 an, kx_a g_nodeL cyI 320 nl, kx_a g_nodeR cyI 320 nr]) hP hD rfl
  refine lv_aload_n hx hb dX5_lays_16 rfl (lv_at hl 1 rfl) ?_
  refine va_get (D := (dC, dI)) (ci := 5) (v := .ref g_nodeL) (C := RX5) (T := TX5) (N := 30) hx hb hts hi_5 hown hK hP 0 rfl rfl 12 (by decide) hf_38 (fun _ h9 => h9) rfl dX5_lays_17 ?_
  refine lv_iload hx hb dX5_lays_20 (lv_at hl 0 rfl) ?_
  refine lv_iload_n hx hb dX5_lays_22 rfl (lv_at hl 2 rfl) ?_
  refine va_iast hx hb hK hP hD hS 9 0 rfl rfl (ki_in (om_10 b5) (om_325 b1 b6)) dX5_lays_23 (fun H locs hP hD hS => ?_)
  obtain ⟨hP, hD⟩ := kx_re (w2 := [kx_5 h0 g_row m_n m_slots m_thrown g_many g_loss g_less g_voteValue g_voteNumber g_allValue g_allNumber m_allMany g_nodeL g_nodeR y_1 g_part m_partMany g_wasMany g_wasLoss g_wasValue g_wasNumber g_path m_pathMany g_heavyValue g_heavyTimes m_heavyMany g_fewest g_which g_met m_mostMet, kx_a g_row cyI 160 f, kx_a g_many cyI 324 fm, kx_a g_loss cyI 324 fl, kx_a g_less cyI 324 fe, kx_a g_voteValue cyI 1944 vv, kx_a g_voteNumber cyI 1944 vn, kx_a g_allValue cyI 12 av, kx_a g_allNumber cyI 12 an, kx_a g_nodeL cyI 320 (upd nl m_nodes.toNatClampNeg p0), kx_a g_nodeR cyI 320 nr]) hP hD rfl
  refine lv_aload_n hx hb dX5_lays_24 rfl (lv_at hl 1 rfl) ?_
  refine va_get (D := (dC, dI)) (ci := 5) (v := .ref g_nodeR) (C := RX5) (T := TX5) (N := 30) hx hb hts hi_5 hown hK hP 0 rfl rfl 13 (by decide) hf_41 (fun _ h9 => h9) rfl dX5_lays_25 ?_
  refine lv_iload hx hb dX5_lays_28 (lv_at hl 0 rfl) ?_
  refine lv_iload_n hx hb dX5_lays_30 rfl (lv_at hl 3 rfl) ?_
  refine va_iast hx hb hK hP hD hS 10 0 rfl rfl (ki_in (om_10 b5) (om_325 b1 b6)) dX5_lays_31 (fun H locs hP hD hS => ?_)
  obtain ⟨hP, hD⟩ := kx_re (w2 := [kx_5 h0 g_row m_n m_slots m_thrown g_many g_loss g_less g_voteValue g_voteNumber g_allValue g_allNumber m_allMany g_nodeL g_nodeR y_1 g_part m_partMany g_wasMany g_wasLoss g_wasValue g_wasNumber g_path m_pathMany g_heavyValue g_heavyTimes m_heavyMany g_fewest g_which g_met m_mostMet, kx_a g_row cyI 160 f, kx_a g_many cyI 324 fm, kx_a g_loss cyI 324 fl, kx_a g_less cyI 324 fe, kx_a g_voteValue cyI 1944 vv, kx_a g_voteNumber cyI 1944 vn, kx_a g_allValue cyI 12 av, kx_a g_allNumber cyI 12 an, kx_a g_nodeL cyI 320 (upd nl m_nodes.toNatClampNeg p0), kx_a g_nodeR cyI 320 (upd nr m_nodes.toNatClampNeg p1)]) hP hD rfl
  refine lv_iload_n hx hb dX5_lays_32 rfl (lv_at hl 3 rfl) ?_
  refine lv_iload_n hx hb dX5_lays_33 rfl (lv_at hl 2 rfl) ?_
  refine lv_isub hx hb dX5_lays_34 ?_
  refine lv_topi (fun y_2 ey_2 => ?_)
  have i_2 : y_2.toInt = p1.toInt - p0.toInt := ki_sub ey_2 rfl rfl (om_168 b1) (om_356 b7)
  refine lv_iconst (v := 1) hx hb dX5_lays_35 (by decide) ?_
  refine lv_icmp_ne (tgt := 54) hx hb dX5_lays_36 (by decide) (fun c_3 => ?_) (fun c_3 => ?_)
  · have i_3 : ¬ y_2.toInt = 1 := kc_ne c_3
    refine lv_iload_n hx hb dX5_lays_54 rfl (lv_at hl 2 rfl) ?_
    refine lv_iload_n hx hb dX5_lays_55 rfl (lv_at hl 3 rfl) ?_
    refine lv_iadd hx hb dX5_lays_56 ?_
    refine lv_topi (fun y_4 ey_4 => ?_)
    have i_4 : y_4.toInt = p0.toInt + p1.toInt := ki_add ey_4 rfl rfl (om_330 b0 b1) (om_331 b1 b2)
    refine lv_iconst (v := 2) hx hb dX5_lays_57 (by decide) ?_
    refine lv_idiv hx hb dX5_lays_58 (by decide) ?_
    refine lv_topi (fun y_5 ey_5 => ?_)
    have i_5 : y_5.toInt = y_4.toInt / 2 := ki_div2 ey_5 rfl (om_332 b0 b1 i_4)
    have d_6 := om_dv i_5
    refine lv_istore (lv' := [(5, .int y_5), (4, .int m_nodes), (0, .ref h0), (1, .int p0), (2, .int p1), (3, .int p2)]) hx hb dX5_lays_59 hl (by decide) rfl (fun ls hl => ?_)
    refine lv_aload_n hx hb dX5_lays_61 rfl (lv_at hl 2 rfl) ?_
    refine lv_iload_n hx hb dX5_lays_62 rfl (lv_at hl 3 rfl) ?_
    refine lv_iload hx hb dX5_lays_63 (lv_at hl 0 rfl) ?_
    refine lv_iload_n hx hb dX5_lays_65 rfl (lv_at hl 5 rfl) ?_
    have hPc := hP
    have hKc := hK
    have hDc := hD
    have hFc := kx_free hD hS hA
    refine va_calli (va_runV (As := [.int p0, .int y_5, .int p2]) (rest := []) ⟨hx, hb, hml, hown, hts⟩ (kx_un (c_X5_lays_5 l dC dI h0 g_row g_many g_loss g_less g_voteValue g_voteNumber g_allValue g_allNumber g_nodeL g_nodeR g_part g_wasMany g_wasLoss g_wasValue g_wasNumber g_path g_heavyValue g_heavyTimes g_fewest g_which g_met m_n m_slots m_thrown m_allMany y_1 m_partMany m_pathMany m_heavyMany m_mostMet cyI fm fl fe vv vn f av an (upd nl m_nodes.toNatClampNeg p0) (upd nr m_nodes.toNatClampNeg p1) p0 y_5 p2 H.size b0 (by omega) (om_333 b1 b2 i_4 d_6.1) b3 b4 (om_34 b5 i_1) (om_334 b1 b6 i_1 i_4 d_6.1) s4 (om_357 b7 i_4 d_6.1))) (cwV 3 hts gX5_lays_X5_lays rfl rfl rfl (by decide +kernel) ⟨Nat.le_of_ble_eq_true rfl, Nat.le_of_ble_eq_true rfl⟩) ⟨fun a U g mk q => by obtain ⟨q0, q1, qP, qK, qD⟩ := q; exact ⟨q0, q1, qP, va_K.moved (u := U) (U := U.calling g mk a) (Vm.Alike.refl U.vm) qK, qD⟩, kx_rc5 hKc hPc (q0 := 0) rfl, fun U hU hW => ⟨rfl, by rw [hU], by rw [hU]; exact hPc, va_K.moved hW.alike hKc, hDc.weaken (fun _ _ _ _ => trivial)⟩⟩ rfl rfl hl.1 rfl (lv_room (Nat.le_of_ble_eq_true rfl)) dX5_lays_66 ⟨Nat.le_of_ble_eq_true rfl, Nat.le_of_ble_eq_true rfl⟩) hS (fun q _ h => hFc q h) hFc (fun r_7 u t H1 locs ht hvm w_7 hB hz1 hk1 hS => ?_)
    obtain ⟨o_8, o_9, o_10, o_11, o_12, o_13, o_14, o_15, o_16, o_17, o_18⟩ := u
    dsimp only at w_7 hB
    obtain ⟨hP1, hK1, hD1⟩ := hB
    rw [ht] at hP1
    have hK1 := va_K.moved hvm.symm hK1
    have hD := hD1.weaken (fun _ q _ h => hFc q.1 h)
    have hP := hP1
    clear hP1 hD1 hK1 hk1 hz1 hFc hDc hPc hKc
    generalize H1 = H at hP hS ⊢
    have w_7 : r_7 = y_1 ∧ o_8.toInt = y_1.toInt + 2 * (y_5.toInt - p0.toInt) - 1 ∧ six4 o_10 ∧ mj_S p2.toNatClampNeg f o_17 o_18 o_10 o_11 o_12 o_13 o_14 5 y_1.toNatClampNeg p0.toNatClampNeg y_5.toNatClampNeg ∧ mj_ag 0 y_1.toNatClampNeg (upd nl m_nodes.toNatClampNeg p0) (upd nr m_nodes.toNatClampNeg p1) fm fl fe vv vn o_17 o_18 o_10 o_11 o_12 o_13 o_14 := w_7
    refine lv_istore (lv' := [(6, .int r_7), (5, .int y_5), (4, .int m_nodes), (0, .ref h0), (1, .int p0), (2, .int p1), (3, .int p2)]) hx hb dX5_lays_69 hl (by decide) rfl (fun ls hl => ?_)
    refine lv_aload_n hx hb dX5_lays_71 rfl (lv_at hl 3 rfl) ?_
    refine lv_iload hx hb dX5_lays_72 (lv_at hl 1 rfl) ?_
    refine lv_iload_n hx hb dX5_lays_74 rfl (lv_at hl 5 rfl) ?_
    refine lv_iload_n hx hb dX5_lays_75 rfl (lv_at hl 6 rfl) ?_
    have hPc := hP
    have hKc := hK
    have hDc := hD
    have hFc := kx_free hD hS hA
    refine va_calli (va_runV (As := [.int y_5, .int p1, .int p2]) (rest := []) ⟨hx, hb, hml, hown, hts⟩ (kx_un (c_X5_lays_5 l dC dI h0 g_row g_many g_loss g_less g_voteValue g_voteNumber g_allValue g_allNumber g_nodeL g_nodeR g_part g_wasMany g_wasLoss g_wasValue g_wasNumber g_path g_heavyValue g_heavyTimes g_fewest g_which g_met m_n m_slots m_thrown o_9 o_8 m_partMany m_pathMany m_heavyMany m_mostMet cyI o_10 o_11 o_12 o_13 o_14 f o_15 o_16 o_17 o_18 y_5 p1 p2 H.size (om_336 b0 b1 i_4 d_6.2) (by omega) b2 b3 b4 (om_337 b1 b5 i_1 i_4 d_6.2 w_7.2.1) (om_338 b6 i_1 w_7.2.1) w_7.2.2.1 (by omega))) (cwV 3 hts gX5_lays_X5_lays rfl rfl rfl (by decide +kernel) ⟨Nat.le_of_ble_eq_true rfl, Nat.le_of_ble_eq_true rfl⟩) ⟨fun a U g mk q => by obtain ⟨q0, q1, qP, qK, qD⟩ := q; exact ⟨q0, q1, qP, va_K.moved (u := U) (U := U.calling g mk a) (Vm.Alike.refl U.vm) qK, qD⟩, kx_rc5 hKc hPc (q0 := 0) rfl, fun U hU hW => ⟨rfl, by rw [hU], by rw [hU]; exact hPc, va_K.moved hW.alike hKc, hDc.weaken (fun _ _ _ _ => trivial)⟩⟩ rfl rfl hl.1 rfl (lv_room (Nat.le_of_ble_eq_true rfl)) dX5_lays_76 ⟨Nat.le_of_ble_eq_true rfl, Nat.le_of_ble_eq_true rfl⟩) hS (fun q _ h => hFc q h) hFc (fun r_19 u t H1 locs ht hvm w_19 hB hz1 hk1 hS => ?_)
    obtain ⟨o_20, o_21, o_22, o_23, o_24, o_25, o_26, o_27, o_28, o_29, o_30⟩ := u
    dsimp only at w_19 hB
    obtain ⟨hP1, hK1, hD1⟩ := hB
    rw [ht] at hP1
    have hK1 := va_K.moved hvm.symm hK1
    have hD := hD1.weaken (fun _ q _ h => hFc q.1 h)
    have hP := hP1
    clear hP1 hD1 hK1 hk1 hz1 hFc hDc hPc hKc
    generalize H1 = H at hP hS ⊢
    have w_19 : r_19 = o_8 ∧ o_20.toInt = o_8.toInt + 2 * (p1.toInt - y_5.toInt) - 1 ∧ six4 o_22 ∧ mj_S p2.toNatClampNeg f o_29 o_30 o_22 o_23 o_24 o_25 o_26 5 o_8.toNatClampNeg y_5.toNatClampNeg p1.toNatClampNeg ∧ mj_ag 0 o_8.toNatClampNeg o_17 o_18 o_10 o_11 o_12 o_13 o_14 o_29 o_30 o_22 o_23 o_24 o_25 o_26 := w_19
    refine lv_istore (lv' := [(7, .int r_19), (6, .int r_7), (5, .int y_5), (4, .int m_nodes), (0, .ref h0), (1, .int p0), (2, .int p1), (3, .int p2)]) hx hb dX5_lays_79 hl (by decide) rfl (fun ls hl => ?_)
    have n_p0 := ki_nat p0 rfl (om_10 b0)
    have n_p1 := ki_nat p1 rfl (om_21 b0 b1)
    have n_p2 := ki_nat p2 rfl (om_51 b3)
    have n_nd := ki_nat m_nodes rfl (om_10 b5)
    have n_y := ki_nat y_1 rfl (om_34 b5 i_1)
    have n_md := ki_nat y_5 rfl (om_336 b0 b1 i_4 d_6.2)
    have n_oL := ki_nat o_8 rfl (om_337 b1 b5 i_1 i_4 d_6.2 w_7.2.1)
    have i_rL : r_7.toInt = y_1.toInt := congrArg Int32.toInt w_7.1
    have i_rR : r_19.toInt = o_8.toInt := congrArg Int32.toInt w_19.1
    obtain ⟨mua, La, ca, tA⟩ := w_7.2.2.2.1
    obtain ⟨mub, Lb, cb, tB⟩ := w_19.2.2.2.1
    obtain ⟨g_1, g_2, g_3, g_4, g_5, g_6⟩ := mj_ly9 n_p0 n_p1 n_nd n_y n_md n_oL i_1 i_4 i_5 w_7.2.1 b1 i_2 i_3
    have tA2 := mj_T_ag _ _ o_8.toNatClampNeg _ _ _ _ _ tA g_1 (mj_ag_sub w_19.2.2.2.2 (Nat.zero_le _) (Nat.le_refl _))
    have nA := mj_T_nd tA2
    have nB := mj_T_nd tB
    refine lv_aload_n hx hb dX5_lays_81 rfl (lv_at hl 4 rfl) ?_
    refine lv_iload hx hb dX5_lays_82 (lv_at hl 1 rfl) ?_
    refine lv_iload hx hb dX5_lays_84 (lv_at hl 0 rfl) ?_
    refine lv_iload hx hb dX5_lays_86 (lv_at hl 3 rfl) ?_
    refine lv_iload_n hx hb dX5_lays_88 rfl (lv_at hl 7 rfl) ?_
    obtain ⟨hPc, hDc, hFc, hCc⟩ := kx_preM (wc := [kx_5 h0 g_row m_n m_slots m_thrown g_many g_loss g_less g_voteValue g_voteNumber g_allValue g_allNumber o_21 g_nodeL g_nodeR o_20 g_part m_partMany g_wasMany g_wasLoss g_wasValue g_wasNumber g_path m_pathMany g_heavyValue g_heavyTimes m_heavyMany g_fewest g_which g_met m_mostMet, kx_a g_many cyI 324 o_22, kx_a g_loss cyI 324 o_23, kx_a g_less cyI 324 o_24, kx_a g_voteValue cyI 1944 o_25, kx_a g_voteNumber cyI 1944 o_26, kx_a g_allValue cyI 12 o_27, kx_a g_allNumber cyI 12 o_28]) hP hD hS hA [true, false, true, true, true, true, true, true, true, false, false] rfl
    have hKc := hK
    refine va_callv (va_runV (As := [.int r_7, .int r_19, .int m_nodes, .int p2]) (rest := []) ⟨hx, hb, hml, hown, hts⟩ (kx_un (c_X5_together l dC dI h0 g_row g_many g_loss g_less g_voteValue g_voteNumber g_allValue g_allNumber g_nodeL g_nodeR g_part g_wasMany g_wasLoss g_wasValue g_wasNumber g_path g_heavyValue g_heavyTimes g_fewest g_which g_met m_n m_slots m_thrown o_21 o_20 m_partMany m_pathMany m_heavyMany m_mostMet cyI o_22 o_23 o_24 o_25 o_26 o_27 o_28 mua mub r_7 r_19 m_nodes p2 H.size (om_339 b5 i_1 i_rL) (om_340 b1 b6 i_1 i_rL) (om_341 b1 b5 i_1 i_4 d_6.2 w_7.2.1 i_rR) (om_342 b1 b6 i_1 i_4 d_6.1 w_7.2.1 i_rR) (om_10 b5) (om_343 b1 b6) (om_51 b3) (om_344 b4) (by rw [w_7.1]; exact nA.2.2.1) (by rw [w_7.1]; exact nA.2.2.2.1) (by rw [w_19.1]; exact nB.2.2.1) (by rw [w_19.1]; exact nB.2.2.2.1) (by rw [w_7.1]; exact nA.2.2.2.2.2.2.2.1) (by rw [w_19.1]; exact nB.2.2.2.2.2.2.2.1) (fun v => by have h1 := mj_T_le _ _ _ _ _ _ _ tA2 v; have h2 := mj_T_le _ _ _ _ _ _ _ tB v; omega))) (cwV 4 hts gX5_lays_X5_together rfl rfl rfl (by decide +kernel) ⟨Nat.le_of_ble_eq_true rfl, Nat.le_of_ble_eq_true rfl⟩) ⟨fun a U g mk q => by obtain ⟨q0, q1, qP, qK, qD⟩ := q; exact ⟨q0, q1, qP, va_K.moved (u := U) (U := U.calling g mk a) (Vm.Alike.refl U.vm) qK, qD⟩, kx_rc5 hKc hPc (q0 := 0) rfl, fun U hU hW => ⟨rfl, by rw [hU], by rw [hU]; exact hPc, va_K.moved hW.alike hKc, hDc.weaken (fun _ _ _ _ => trivial)⟩⟩ rfl rfl hl.1 rfl (lv_room (Nat.le_of_ble_eq_true rfl)) dX5_lays_89 ⟨Nat.le_of_ble_eq_true rfl, Nat.le_of_ble_eq_true rfl⟩) hS (fun q _ h => hFc q h) hFc (fun u t H1 locs ht hvm w_31 hB hz1 hk1 hS => ?_)
    obtain ⟨o_32, o_33, o_34, o_35, o_36, o_37, o_38, o_39, o_40, o_41, o_42⟩ := u
    dsimp only at w_31 hB
    obtain ⟨hP1, hK1, hD1⟩ := hB
    rw [ht] at hP1
    have hK1 := va_K.moved hvm.symm hK1
    obtain ⟨hP, hD⟩ := kx_joinM (w2 := [kx_5 h0 g_row m_n m_slots m_thrown g_many g_loss g_less g_voteValue g_voteNumber g_allValue g_allNumber o_32 g_nodeL g_nodeR o_20 g_part m_partMany g_wasMany g_wasLoss g_wasValue g_wasNumber g_path m_pathMany g_heavyValue g_heavyTimes m_heavyMany g_fewest g_which g_met m_mostMet, kx_a g_row cyI 160 f, kx_a g_many cyI 324 o_36, kx_a g_loss cyI 324 o_37, kx_a g_less cyI 324 o_38, kx_a g_voteValue cyI 1944 o_39, kx_a g_voteNumber cyI 1944 o_40, kx_a g_allValue cyI 12 o_41, kx_a g_allNumber cyI 12 o_42, kx_a g_nodeL cyI 320 o_29, kx_a g_nodeR cyI 320 o_30]) hP hD hP1 hD1 hk1 hFc [true, false, true, true, true, true, true, true, true, false, false] hCc rfl
    clear hP1 hD1 hK1 hk1 hz1 hFc hDc hPc hKc hCc
    generalize H1 = H at hP hS ⊢
    have w_31 : mj_tog p2.toNatClampNeg mua mub o_35 o_33 ∧ o_37 = upd o_23 m_nodes.toNatClampNeg (o_23 r_7.toNatClampNeg + o_23 r_19.toNatClampNeg + o_33) ∧ o_38 = upd o_24 m_nodes.toNatClampNeg o_33 ∧ o_36 = upd o_22 m_nodes.toNatClampNeg o_34 ∧ 0 ≤ o_34.toInt ∧ o_34.toInt ≤ p2.toInt ∧ mj_vs o_39 o_40 (6 * m_nodes.toNatClampNeg) o_34.toNatClampNeg o_35 ∧ mj_srt o_39 o_40 (6 * m_nodes.toNatClampNeg) o_34.toNatClampNeg ∧ ∀ q : Nat, (q < 6 * m_nodes.toNatClampNeg ∨ 6 * m_nodes.toNatClampNeg + 6 ≤ q) → o_39 q = o_25 q ∧ o_40 q = o_26 q := w_31
    refine lv_iload hx hb dX5_lays_92 (lv_at hl 3 rfl) ?_
    have hP9 := hP
    have hD9 := hD
    have hK9 := hK
    have e_fl := w_31.2.1
    rw [w_7.1, w_19.1] at e_fl
    have hN := mj_lay_node (l := p0.toNatClampNeg) (r := p1.toNatClampNeg) (md := y_5.toNatClampNeg) (a := m_nodes.toNatClampNeg) g_2 g_3 n_p0.symm n_p1.symm g_4 g_5 (mj_ag_sub w_7.2.2.2.2 (Nat.le_refl _) g_6) w_19.2.2.2.2 tA2 tB w_31.1 w_31.2.2.2.1 w_31.2.2.2.2.1 (Int.le_trans w_31.2.2.2.2.2.1 (Int.le_of_eq n_p2.symm)) (mj_ln6 n_p2 b4) e_fl w_31.2.2.1 w_31.2.2.2.2.2.2.1 w_31.2.2.2.2.2.2.2.1 w_31.2.2.2.2.2.2.2.2
    exact W.iret (v := m_nodes) hx hb hr (hlocks := hlocks) (fun t ht hW => ⟨⟨m_nodes, (o_20, o_32, o_36, o_37, o_38, o_39, o_40, o_41, o_42, o_29, o_30), rfl, ⟨rfl, (om_345 i_1 w_7.2.1 w_19.2.1), (by (try dsimp only); rw [w_31.2.2.2.1]; exact six4_upd w_19.2.2.1 w_31.2.2.2.2.1 (om_346 b4 w_31.2.2.2.2.2.1)), hN.1, hN.2⟩, by rw [ht]; exact hP9, va_K.moved hW.alike hK9, hD9⟩, hS.F ht⟩) hS.2.2 dX5_lays_94
  · have i_3 : y_2.toInt = 1 := kc_eq c_3
    refine lv_aload_n hx hb dX5_lays_39 rfl (lv_at hl 1 rfl) ?_
    refine lv_iload hx hb dX5_lays_40 (lv_at hl 0 rfl) ?_
    refine lv_aload_n hx hb dX5_lays_42 rfl (lv_at hl 1 rfl) ?_
    refine va_get (D := (dC, dI)) (ci := 5) (v := .ref g_row) (C := RX5) (T := TX5) (N := 30) hx hb hts hi_5 hown hK hP 0 rfl rfl 0 (by decide) hf_7 (fun _ h9 => h9) rfl dX5_lays_43 ?_
    refine lv_iload_n hx hb dX5_lays_46 rfl (lv_at hl 2 rfl) ?_
    refine va_iald hx hb hK hP 1 0 rfl rfl (ki_in (om_10 b0) (om_85 b1 b2)) dX5_lays_47 ?_
    refine lv_topi (fun y_43 ey_43 => ?_)
    have j_43 : y_43.toInt = (f p0.toNatClampNeg).toInt := congrArg Int32.toInt ey_43
    obtain ⟨hPc, hDc, hFc, hCc⟩ := kx_preM (wc := [kx_5 h0 g_row m_n m_slots m_thrown g_many g_loss g_less g_voteValue g_voteNumber g_allValue g_allNumber m_allMany g_nodeL g_nodeR y_1 g_part m_partMany g_wasMany g_wasLoss g_wasValue g_wasNumber g_path m_pathMany g_heavyValue g_heavyTimes m_heavyMany g_fewest g_which g_met m_mostMet, kx_a g_many cyI 324 fm, kx_a g_loss cyI 324 fl, kx_a g_less cyI 324 fe, kx_a g_voteValue cyI 1944 vv, kx_a g_voteNumber cyI 1944 vn]) hP hD hS hA [true, false, true, true, true, true, true, false, false, false, false] rfl
    have hKc := hK
    refine va_callv (va_runV (As := [.int m_nodes, .int y_43]) (rest := []) ⟨hx, hb, hml, hown, hts⟩ (kx_un (c_X5_one_x l dC dI h0 g_row g_many g_loss g_less g_voteValue g_voteNumber g_allValue g_allNumber g_nodeL g_nodeR g_part g_wasMany g_wasLoss g_wasValue g_wasNumber g_path g_heavyValue g_heavyTimes g_fewest g_which g_met m_n m_slots m_thrown m_allMany y_1 m_partMany m_pathMany m_heavyMany m_mostMet cyI fm fl fe vv vn m_nodes y_43 H.size b5 (om_327 b1 b6))) (cwV 2 hts gX5_lays_X5_one rfl rfl rfl (by decide +kernel) ⟨Nat.le_of_ble_eq_true rfl, Nat.le_of_ble_eq_true rfl⟩) ⟨fun a U g mk q => by obtain ⟨q0, q1, qP, qK, qD⟩ := q; exact ⟨q0, q1, qP, va_K.moved (u := U) (U := U.calling g mk a) (Vm.Alike.refl U.vm) qK, qD⟩, kx_rc5 hKc hPc (q0 := 0) rfl, fun U hU hW => ⟨rfl, by rw [hU], by rw [hU]; exact hPc, va_K.moved hW.alike hKc, hDc.weaken (fun _ _ _ _ => trivial)⟩⟩ rfl rfl hl.1 rfl (lv_room (Nat.le_of_ble_eq_true rfl)) dX5_lays_48 ⟨Nat.le_of_ble_eq_true rfl, Nat.le_of_ble_eq_true rfl⟩) hS (fun q _ h => hFc q h) hFc (fun u t H1 locs ht hvm w_44 hB hz1 hk1 hS => ?_)
    obtain ⟨o_45, o_46, o_47, o_48, o_49⟩ := u
    dsimp only at w_44 hB
    obtain ⟨hP1, hK1, hD1⟩ := hB
    rw [ht] at hP1
    have hK1 := va_K.moved hvm.symm hK1
    obtain ⟨hP, hD⟩ := kx_joinM (w2 := [kx_5 h0 g_row m_n m_slots m_thrown g_many g_loss g_less g_voteValue g_voteNumber g_allValue g_allNumber m_allMany g_nodeL g_nodeR y_1 g_part m_partMany g_wasMany g_wasLoss g_wasValue g_wasNumber g_path m_pathMany g_heavyValue g_heavyTimes m_heavyMany g_fewest g_which g_met m_mostMet, kx_a g_row cyI 160 f, kx_a g_many cyI 324 o_45, kx_a g_loss cyI 324 o_46, kx_a g_less cyI 324 o_47, kx_a g_voteValue cyI 1944 o_48, kx_a g_voteNumber cyI 1944 o_49, kx_a g_allValue cyI 12 av, kx_a g_allNumber cyI 12 an, kx_a g_nodeL cyI 320 (upd nl m_nodes.toNatClampNeg p0), kx_a g_nodeR cyI 320 (upd nr m_nodes.toNatClampNeg p1)]) hP hD hP1 hD1 hk1 hFc [true, false, true, true, true, true, true, false, false, false, false] hCc rfl
    clear hP1 hD1 hK1 hk1 hz1 hFc hDc hPc hKc hCc
    generalize H1 = H at hP hS ⊢
    have w_44 : o_45 = upd fm m_nodes.toNatClampNeg 1 ∧ o_46 = upd fl m_nodes.toNatClampNeg 0 ∧ o_47 = upd fe m_nodes.toNatClampNeg 0 ∧ o_48 = upd vv (6 * m_nodes.toNatClampNeg) y_43 ∧ o_49 = upd vn (6 * m_nodes.toNatClampNeg) 1 := w_44
    refine lv_iload hx hb dX5_lays_51 (lv_at hl 0 rfl) ?_
    have hP9 := hP
    have hD9 := hD
    have hK9 := hK
    have n_p0 := ki_nat p0 rfl (om_10 b0)
    have n_p1 := ki_nat p1 rfl (om_21 b0 b1)
    have n_p2 := ki_nat p2 rfl (om_51 b3)
    have n_nd := ki_nat m_nodes rfl (om_10 b5)
    have e_vv := w_44.2.2.2.1
    rw [ey_43] at e_vv
    have hN := mj_lay_leaf (K := p2.toNatClampNeg) (f := f) (nl := nl) (nr := nr) (l := p0.toNatClampNeg) (r := p1.toNatClampNeg) (l32 := p0) (r32 := p1) 6 (mj_ln1 n_p2 b3) (mj_lf9 n_p0 n_p1 i_2 i_3) n_p0.symm n_p1.symm w_44.1 w_44.2.1 w_44.2.2.1 e_vv w_44.2.2.2.2
    exact W.iret (v := m_nodes) hx hb hr (hlocks := hlocks) (fun t ht hW => ⟨⟨m_nodes, (y_1, m_allMany, o_45, o_46, o_47, o_48, o_49, av, an, (upd nl m_nodes.toNatClampNeg p0), (upd nr m_nodes.toNatClampNeg p1)), rfl, ⟨rfl, (om_347 b1 i_1 i_2 i_3), (by (try dsimp only); rw [w_44.1]; exact six4_upd s4 (by decide) (by decide)), hN.1, hN.2⟩, by rw [ht]; exact hP9, va_K.moved hW.alike hK9, hD9⟩, hS.F ht⟩) hS.2.2 dX5_lays_53

set_option maxHeartbeats 4000000 in
set_option maxRecDepth 100000 in
theorem c_X5_lays_7 (l : Launch) (dC : Nat → ClassId) (dI : Nat → Nat → Nat) (h0 : Nat) (g_row : Nat) (g_many : Nat) (g_loss : Nat) (g_less : Nat) (g_voteValue : Nat) (g_voteNumber : Nat) (g_allValue : Nat) (g_allNumber : Nat) (g_nodeL : Nat) (g_nodeR : Nat) (g_part : Nat) (g_wasMany : Nat) (g_wasLoss : Nat) (g_wasValue : Nat) (g_wasNumber : Nat) (g_path : Nat) (g_heavyValue : Nat) (g_heavyTimes : Nat) (g_fewest : Nat) (g_which : Nat) (g_met : Nat) (m_n : Int32) (m_slots : Int32) (m_thrown : Int32) (m_allMany : Int32) (m_nodes : Int32) (m_partMany : Int32) (m_pathMany : Int32) (m_heavyMany : Int32) (m_mostMet : Int32) (cyI : ClassId) (fm : Nat → Int32) (fl : Nat → Int32) (fe : Nat → Int32) (vv : Nat → Int32) (vn : Nat → Int32) (f : Nat → Int32) (av : Nat → Int32) (an : Nat → Int32) (nl : Nat → Int32) (nr : Nat → Int32) (p0 : Int32) (p1 : Int32) (p2 : Int32) (sz : Nat) (b0 : 0 ≤ p0.toInt) (b1 : p0.toInt < p1.toInt) (b2 : p1.toInt ≤ 160) (b3 : 1 ≤ p2.toInt) (b4 : p2.toInt ≤ 6) (b5 : 0 ≤ m_nodes.toInt) (b6 : m_nodes.toInt + 2 * (p1.toInt - p0.toInt) - 1 ≤ 319) (s4 : six4 fm) (b7 : p1.toInt - p0.toInt ≤ 128) : kx_MQ l (dC, dI) yX5_lays wsX5_lays ({ frames := 9, cells := 0, slots := 0, locals := 405 }) [.ref h0, .int p0, .int p1, .int p2] [kx_5 h0 g_row m_n m_slots m_thrown g_many g_loss g_less g_voteValue g_voteNumber g_allValue g_allNumber m_allMany g_nodeL g_nodeR m_nodes g_part m_partMany g_wasMany g_wasLoss g_wasValue g_wasNumber g_path m_pathMany g_heavyValue g_heavyTimes m_heavyMany g_fewest g_which g_met m_mostMet, kx_a g_row cyI 160 f, kx_a g_many cyI 324 fm, kx_a g_loss cyI 324 fl, kx_a g_less cyI 324 fe, kx_a g_voteValue cyI 1944 vv, kx_a g_voteNumber cyI 1944 vn, kx_a g_allValue cyI 12 av, kx_a g_allNumber cyI 12 an, kx_a g_nodeL cyI 320 nl, kx_a g_nodeR cyI 320 nr] [(cyI, .int)] sz (fun A => va_Qi (fun (r : Int32) (u : Int32 × Int32 × (Nat → Int32) × (Nat → Int32) × (Nat → Int32) × (Nat → Int32) × (Nat → Int32) × (Nat → Int32) × (Nat → Int32) × (Nat → Int32) × (Nat → Int32)) => r = m_nodes ∧ u.1.toInt = m_nodes.toInt + 2 * (p1.toInt - p0.toInt) - 1 ∧ six4 u.2.2.1 ∧ mj_S p2.toNatClampNeg f u.2.2.2.2.2.2.2.2.2.1 u.2.2.2.2.2.2.2.2.2.2 u.2.2.1 u.2.2.2.1 u.2.2.2.2.1 u.2.2.2.2.2.1 u.2.2.2.2.2.2.1 7 m_nodes.toNatClampNeg p0.toNatClampNeg p1.toNatClampNeg ∧ mj_ag 0 m_nodes.toNatClampNeg nl nr fm fl fe vv vn u.2.2.2.2.2.2.2.2.2.1 u.2.2.2.2.2.2.2.2.2.2 u.2.2.1 u.2.2.2.1 u.2.2.2.2.1 u.2.2.2.2.2.1 u.2.2.2.2.2.2.1) (fun (u : Int32 × Int32 × (Nat → Int32) × (Nat → Int32) × (Nat → Int32) × (Nat → Int32) × (Nat → Int32) × (Nat → Int32) × (Nat → Int32) × (Nat → Int32) × (Nat → Int32)) (t : State) => va_P (dC, dI) vwCl [kx_5 h0 g_row m_n m_slots m_thrown g_many g_loss g_less g_voteValue g_voteNumber g_allValue g_allNumber u.2.1 g_nodeL g_nodeR u.1 g_part m_partMany g_wasMany g_wasLoss g_wasValue g_wasNumber g_path m_pathMany g_heavyValue g_heavyTimes m_heavyMany g_fewest g_which g_met m_mostMet, kx_a g_row cyI 160 f, kx_a g_many cyI 324 u.2.2.1, kx_a g_loss cyI 324 u.2.2.2.1, kx_a g_less cyI 324 u.2.2.2.2.1, kx_a g_voteValue cyI 1944 u.2.2.2.2.2.1, kx_a g_voteNumber cyI 1944 u.2.2.2.2.2.2.1, kx_a g_allValue cyI 12 u.2.2.2.2.2.2.2.1, kx_a g_allNumber cyI 12 u.2.2.2.2.2.2.2.2.1, kx_a g_nodeL cyI 320 u.2.2.2.2.2.2.2.2.2.1, kx_a g_nodeR cyI 320 u.2.2.2.2.2.2.2.2.2.2] t.heap ∧ va_K (dC, dI) vwCl [(cyI, .int)] t ∧ va_D A [kx_5 h0 g_row m_n m_slots m_thrown g_many g_loss g_less g_voteValue g_voteNumber g_allValue g_allNumber u.2.1 g_nodeL g_nodeR u.1 g_part m_partMany g_wasMany g_wasLoss g_wasValue g_wasNumber g_path m_pathMany g_heavyValue g_heavyTimes m_heavyMany g_fewest g_which g_met m_mostMet, kx_a g_row cyI 160 f, kx_a g_many cyI 324 u.2.2.1, kx_a g_loss cyI 324 u.2.2.2.1, kx_a g_less cyI 324 u.2.2.2.2.1, kx_a g_voteValue cyI 1944 u.2.2.2.2.2.1, kx_a g_voteNumber cyI 1944 u.2.2.2.2.2.2.1, kx_a g_allValue cyI 12 u.2.2.2.2.2.2.2.1, kx_a g_allNumber cyI 12 u.2.2.2.2.2.2.2.2.1, kx_a g_nodeL cyI 320 u.2.2.2.2.2.2.2.2.2.1, kx_a g_nodeR cyI 320 u.2.2.2.2.2.2.2.2.2.2]) A) := by
  refine kx_stQ (ws := wsX5_lays) (cc := cX5_lays) (maxL := 8) (ret := (some .int)) (by decide) rfl (Nat.le_of_ble_eq_true rfl) ?_
  intro p e s m below meth c A ls hx hb hr hlocks hts hown hml hA hS hP hK hD hl
  have hown : s.vm.findClass RX5 = some m.cls := hown
  have hl : lv_has ls 8 [(0, .ref h0), (1, .int p0), (2, .int p1), (3, .int p2)] := hl
  have hf_101 := hts (.fieldLink RX5 101 "MajorityIndexModel" "nodes" "I") (List.mem_of_getElem? (i := 1) rfl)
  have hi_5 : ∀ w ∈ u_ws RX5 TX5 30, w ∈ wsX5_lays := fun w h => List.mem_cons_of_mem _ (List.mem_append_right _ h)
  have hf_38 := hts (.fieldLink RX5 38 "MajorityIndexModel" "nodeL" "[I") (List.mem_of_getElem? (i := 2) rfl)
  have hf_41 := hts (.fieldLink RX5 41 "MajorityIndexModel" "nodeR" "[I") (List.mem_of_getElem? (i := 3) rfl)
  have hf_7 := hts (.fieldLink RX5 7 "MajorityIndexModel" "row" "[I") (List.mem_of_getElem? (i := 4) rfl)
  refine lv_aload_n hx hb dX5_lays_0 rfl (lv_at hl 0 rfl) ?_
  refine va_get (D := (dC, dI)) (ci := 5) (v := .int m_nodes) (C := RX5) (T := TX5) (N := 30) hx hb hts hi_5 hown hK hP 0 rfl rfl 14 (by decide) hf_101 (fun _ h9 => h9) rfl dX5_lays_1 ?_
  refine lv_istore (lv' := [(4, .int m_nodes), (0, .ref h0), (1, .int p0), (2, .int p1), (3, .int p2)]) hx hb dX5_lays_4 hl (by decide) rfl (fun ls hl => ?_)
  refine lv_aload_n hx hb dX5_lays_6 rfl (lv_at hl 1 rfl) ?_
  refine lv_dup hx hb dX5_lays_7 rfl ?_
  refine va_get (D := (dC, dI)) (ci := 5) (v := .int m_nodes) (C := RX5) (T := TX5) (N := 30) hx hb hts hi_5 hown hK hP 0 rfl rfl 14 (by decide) hf_101 (fun _ h9 => h9) rfl dX5_lays_8 ?_
  refine lv_iconst (v := 1) hx hb dX5_lays_11 (by decide) ?_
  refine lv_iadd hx hb dX5_lays_12 ?_
  refine lv_topi (fun y_1 ey_1 => ?_)
  have i_1 : y_1.toInt = m_nodes.toInt + 1 := ki_add ey_1 rfl rfl (om_13 b5) (om_324 b1 b6)
  refine va_put (D := (dC, dI)) (ci := 5) (v := .int y_1) (ty := .int) (C := RX5) (T := TX5) (N := 30) hx hb hts hi_5 tyX5 tyX5_ok nmX5 hown hK hP hD hS 0 rfl rfl 14 (by decide) hf_101 (fun _ h9 => h9) rfl (by decide +kernel) rfl rfl (Nat.le_of_ble_eq_true rfl) dX5_lays_13 (fun H locs hP hD hS => ?_)
  obtain ⟨hP, hD⟩ := kx_re (w2 := [kx_5 h0 g_row m_n m_slots m_thrown g_many g_loss g_less g_voteValue g_voteNumber g_allValue g_allNumber m_allMany g_nodeL g_nodeR y_1 g_part m_partMany g_wasMany g_wasLoss g_wasValue g_wasNumber g_path m_pathMany g_heavyValue g_heavyTimes m_heavyMany g_fewest g_which g_met m_mostMet, kx_a g_row cyI 160 f, kx_a g_many cyI 324 fm, kx_a g_loss cyI 324 fl, kx_a g_less cyI 324 fe, kx_a g_voteValue cyI 1944 vv, kx_a g_voteNumber cyI 1944 vn, kx_a g_allValue cyI 12 av, kx_a g_allNumber cyI 12 an, kx_a g_nodeL cyI 320 nl, kx_a g_nodeR cyI 320 nr]) hP hD rfl
  refine lv_aload_n hx hb dX5_lays_16 rfl (lv_at hl 1 rfl) ?_
  refine va_get (D := (dC, dI)) (ci := 5) (v := .ref g_nodeL) (C := RX5) (T := TX5) (N := 30) hx hb hts hi_5 hown hK hP 0 rfl rfl 12 (by decide) hf_38 (fun _ h9 => h9) rfl dX5_lays_17 ?_
  refine lv_iload hx hb dX5_lays_20 (lv_at hl 0 rfl) ?_
  refine lv_iload_n hx hb dX5_lays_22 rfl (lv_at hl 2 rfl) ?_
  refine va_iast hx hb hK hP hD hS 9 0 rfl rfl (ki_in (om_10 b5) (om_325 b1 b6)) dX5_lays_23 (fun H locs hP hD hS => ?_)
  obtain ⟨hP, hD⟩ := kx_re (w2 := [kx_5 h0 g_row m_n m_slots m_thrown g_many g_loss g_less g_voteValue g_voteNumber g_allValue g_allNumber m_allMany g_nodeL g_nodeR y_1 g_part m_partMany g_wasMany g_wasLoss g_wasValue g_wasNumber g_path m_pathMany g_heavyValue g_heavyTimes m_heavyMany g_fewest g_which g_met m_mostMet, kx_a g_row cyI 160 f, kx_a g_many cyI 324 fm, kx_a g_loss cyI 324 fl, kx_a g_less cyI 324 fe, kx_a g_voteValue cyI 1944 vv, kx_a g_voteNumber cyI 1944 vn, kx_a g_allValue cyI 12 av, kx_a g_allNumber cyI 12 an, kx_a g_nodeL cyI 320 (upd nl m_nodes.toNatClampNeg p0), kx_a g_nodeR cyI 320 nr]) hP hD rfl
  refine lv_aload_n hx hb dX5_lays_24 rfl (lv_at hl 1 rfl) ?_
  refine va_get (D := (dC, dI)) (ci := 5) (v := .ref g_nodeR) (C := RX5) (T := TX5) (N := 30) hx hb hts hi_5 hown hK hP 0 rfl rfl 13 (by decide) hf_41 (fun _ h9 => h9) rfl dX5_lays_25 ?_
  refine lv_iload hx hb dX5_lays_28 (lv_at hl 0 rfl) ?_
  refine lv_iload_n hx hb dX5_lays_30 rfl (lv_at hl 3 rfl) ?_
  refine va_iast hx hb hK hP hD hS 10 0 rfl rfl (ki_in (om_10 b5) (om_325 b1 b6)) dX5_lays_31 (fun H locs hP hD hS => ?_)
  obtain ⟨hP, hD⟩ := kx_re (w2 := [kx_5 h0 g_row m_n m_slots m_thrown g_many g_loss g_less g_voteValue g_voteNumber g_allValue g_allNumber m_allMany g_nodeL g_nodeR y_1 g_part m_partMany g_wasMany g_wasLoss g_wasValue g_wasNumber g_path m_pathMany g_heavyValue g_heavyTimes m_heavyMany g_fewest g_which g_met m_mostMet, kx_a g_row cyI 160 f, kx_a g_many cyI 324 fm, kx_a g_loss cyI 324 fl, kx_a g_less cyI 324 fe, kx_a g_voteValue cyI 1944 vv, kx_a g_voteNumber cyI 1944 vn, kx_a g_allValue cyI 12 av, kx_a g_allNumber cyI 12 an, kx_a g_nodeL cyI 320 (upd nl m_nodes.toNatClampNeg p0), kx_a g_nodeR cyI 320 (upd nr m_nodes.toNatClampNeg p1)]) hP hD rfl
  refine lv_iload_n hx hb dX5_lays_32 rfl (lv_at hl 3 rfl) ?_
  refine lv_iload_n hx hb dX5_lays_33 rfl (lv_at hl 2 rfl) ?_
  refine lv_isub hx hb dX5_lays_34 ?_
  refine lv_topi (fun y_2 ey_2 => ?_)
  have i_2 : y_2.toInt = p1.toInt - p0.toInt := ki_sub ey_2 rfl rfl (om_168 b1) (om_358 b7)
  refine lv_iconst (v := 1) hx hb dX5_lays_35 (by decide) ?_
  refine lv_icmp_ne (tgt := 54) hx hb dX5_lays_36 (by decide) (fun c_3 => ?_) (fun c_3 => ?_)
  · have i_3 : ¬ y_2.toInt = 1 := kc_ne c_3
    refine lv_iload_n hx hb dX5_lays_54 rfl (lv_at hl 2 rfl) ?_
    refine lv_iload_n hx hb dX5_lays_55 rfl (lv_at hl 3 rfl) ?_
    refine lv_iadd hx hb dX5_lays_56 ?_
    refine lv_topi (fun y_4 ey_4 => ?_)
    have i_4 : y_4.toInt = p0.toInt + p1.toInt := ki_add ey_4 rfl rfl (om_330 b0 b1) (om_331 b1 b2)
    refine lv_iconst (v := 2) hx hb dX5_lays_57 (by decide) ?_
    refine lv_idiv hx hb dX5_lays_58 (by decide) ?_
    refine lv_topi (fun y_5 ey_5 => ?_)
    have i_5 : y_5.toInt = y_4.toInt / 2 := ki_div2 ey_5 rfl (om_332 b0 b1 i_4)
    have d_6 := om_dv i_5
    refine lv_istore (lv' := [(5, .int y_5), (4, .int m_nodes), (0, .ref h0), (1, .int p0), (2, .int p1), (3, .int p2)]) hx hb dX5_lays_59 hl (by decide) rfl (fun ls hl => ?_)
    refine lv_aload_n hx hb dX5_lays_61 rfl (lv_at hl 2 rfl) ?_
    refine lv_iload_n hx hb dX5_lays_62 rfl (lv_at hl 3 rfl) ?_
    refine lv_iload hx hb dX5_lays_63 (lv_at hl 0 rfl) ?_
    refine lv_iload_n hx hb dX5_lays_65 rfl (lv_at hl 5 rfl) ?_
    have hPc := hP
    have hKc := hK
    have hDc := hD
    have hFc := kx_free hD hS hA
    refine va_calli (va_runV (As := [.int p0, .int y_5, .int p2]) (rest := []) ⟨hx, hb, hml, hown, hts⟩ (kx_un (c_X5_lays_6 l dC dI h0 g_row g_many g_loss g_less g_voteValue g_voteNumber g_allValue g_allNumber g_nodeL g_nodeR g_part g_wasMany g_wasLoss g_wasValue g_wasNumber g_path g_heavyValue g_heavyTimes g_fewest g_which g_met m_n m_slots m_thrown m_allMany y_1 m_partMany m_pathMany m_heavyMany m_mostMet cyI fm fl fe vv vn f av an (upd nl m_nodes.toNatClampNeg p0) (upd nr m_nodes.toNatClampNeg p1) p0 y_5 p2 H.size b0 (by omega) (om_333 b1 b2 i_4 d_6.1) b3 b4 (om_34 b5 i_1) (om_334 b1 b6 i_1 i_4 d_6.1) s4 (om_359 b7 i_4 d_6.1))) (cwV 3 hts gX5_lays_X5_lays rfl rfl rfl (by decide +kernel) ⟨Nat.le_of_ble_eq_true rfl, Nat.le_of_ble_eq_true rfl⟩) ⟨fun a U g mk q => by obtain ⟨q0, q1, qP, qK, qD⟩ := q; exact ⟨q0, q1, qP, va_K.moved (u := U) (U := U.calling g mk a) (Vm.Alike.refl U.vm) qK, qD⟩, kx_rc5 hKc hPc (q0 := 0) rfl, fun U hU hW => ⟨rfl, by rw [hU], by rw [hU]; exact hPc, va_K.moved hW.alike hKc, hDc.weaken (fun _ _ _ _ => trivial)⟩⟩ rfl rfl hl.1 rfl (lv_room (Nat.le_of_ble_eq_true rfl)) dX5_lays_66 ⟨Nat.le_of_ble_eq_true rfl, Nat.le_of_ble_eq_true rfl⟩) hS (fun q _ h => hFc q h) hFc (fun r_7 u t H1 locs ht hvm w_7 hB hz1 hk1 hS => ?_)
    obtain ⟨o_8, o_9, o_10, o_11, o_12, o_13, o_14, o_15, o_16, o_17, o_18⟩ := u
    dsimp only at w_7 hB
    obtain ⟨hP1, hK1, hD1⟩ := hB
    rw [ht] at hP1
    have hK1 := va_K.moved hvm.symm hK1
    have hD := hD1.weaken (fun _ q _ h => hFc q.1 h)
    have hP := hP1
    clear hP1 hD1 hK1 hk1 hz1 hFc hDc hPc hKc
    generalize H1 = H at hP hS ⊢
    have w_7 : r_7 = y_1 ∧ o_8.toInt = y_1.toInt + 2 * (y_5.toInt - p0.toInt) - 1 ∧ six4 o_10 ∧ mj_S p2.toNatClampNeg f o_17 o_18 o_10 o_11 o_12 o_13 o_14 6 y_1.toNatClampNeg p0.toNatClampNeg y_5.toNatClampNeg ∧ mj_ag 0 y_1.toNatClampNeg (upd nl m_nodes.toNatClampNeg p0) (upd nr m_nodes.toNatClampNeg p1) fm fl fe vv vn o_17 o_18 o_10 o_11 o_12 o_13 o_14 := w_7
    refine lv_istore (lv' := [(6, .int r_7), (5, .int y_5), (4, .int m_nodes), (0, .ref h0), (1, .int p0), (2, .int p1), (3, .int p2)]) hx hb dX5_lays_69 hl (by decide) rfl (fun ls hl => ?_)
    refine lv_aload_n hx hb dX5_lays_71 rfl (lv_at hl 3 rfl) ?_
    refine lv_iload hx hb dX5_lays_72 (lv_at hl 1 rfl) ?_
    refine lv_iload_n hx hb dX5_lays_74 rfl (lv_at hl 5 rfl) ?_
    refine lv_iload_n hx hb dX5_lays_75 rfl (lv_at hl 6 rfl) ?_
    have hPc := hP
    have hKc := hK
    have hDc := hD
    have hFc := kx_free hD hS hA
    refine va_calli (va_runV (As := [.int y_5, .int p1, .int p2]) (rest := []) ⟨hx, hb, hml, hown, hts⟩ (kx_un (c_X5_lays_6 l dC dI h0 g_row g_many g_loss g_less g_voteValue g_voteNumber g_allValue g_allNumber g_nodeL g_nodeR g_part g_wasMany g_wasLoss g_wasValue g_wasNumber g_path g_heavyValue g_heavyTimes g_fewest g_which g_met m_n m_slots m_thrown o_9 o_8 m_partMany m_pathMany m_heavyMany m_mostMet cyI o_10 o_11 o_12 o_13 o_14 f o_15 o_16 o_17 o_18 y_5 p1 p2 H.size (om_336 b0 b1 i_4 d_6.2) (by omega) b2 b3 b4 (om_337 b1 b5 i_1 i_4 d_6.2 w_7.2.1) (om_338 b6 i_1 w_7.2.1) w_7.2.2.1 (by omega))) (cwV 3 hts gX5_lays_X5_lays rfl rfl rfl (by decide +kernel) ⟨Nat.le_of_ble_eq_true rfl, Nat.le_of_ble_eq_true rfl⟩) ⟨fun a U g mk q => by obtain ⟨q0, q1, qP, qK, qD⟩ := q; exact ⟨q0, q1, qP, va_K.moved (u := U) (U := U.calling g mk a) (Vm.Alike.refl U.vm) qK, qD⟩, kx_rc5 hKc hPc (q0 := 0) rfl, fun U hU hW => ⟨rfl, by rw [hU], by rw [hU]; exact hPc, va_K.moved hW.alike hKc, hDc.weaken (fun _ _ _ _ => trivial)⟩⟩ rfl rfl hl.1 rfl (lv_room (Nat.le_of_ble_eq_true rfl)) dX5_lays_76 ⟨Nat.le_of_ble_eq_true rfl, Nat.le_of_ble_eq_true rfl⟩) hS (fun q _ h => hFc q h) hFc (fun r_19 u t H1 locs ht hvm w_19 hB hz1 hk1 hS => ?_)
    obtain ⟨o_20, o_21, o_22, o_23, o_24, o_25, o_26, o_27, o_28, o_29, o_30⟩ := u
    dsimp only at w_19 hB
    obtain ⟨hP1, hK1, hD1⟩ := hB
    rw [ht] at hP1
    have hK1 := va_K.moved hvm.symm hK1
    have hD := hD1.weaken (fun _ q _ h => hFc q.1 h)
    have hP := hP1
    clear hP1 hD1 hK1 hk1 hz1 hFc hDc hPc hKc
    generalize H1 = H at hP hS ⊢
    have w_19 : r_19 = o_8 ∧ o_20.toInt = o_8.toInt + 2 * (p1.toInt - y_5.toInt) - 1 ∧ six4 o_22 ∧ mj_S p2.toNatClampNeg f o_29 o_30 o_22 o_23 o_24 o_25 o_26 6 o_8.toNatClampNeg y_5.toNatClampNeg p1.toNatClampNeg ∧ mj_ag 0 o_8.toNatClampNeg o_17 o_18 o_10 o_11 o_12 o_13 o_14 o_29 o_30 o_22 o_23 o_24 o_25 o_26 := w_19
    refine lv_istore (lv' := [(7, .int r_19), (6, .int r_7), (5, .int y_5), (4, .int m_nodes), (0, .ref h0), (1, .int p0), (2, .int p1), (3, .int p2)]) hx hb dX5_lays_79 hl (by decide) rfl (fun ls hl => ?_)
    have n_p0 := ki_nat p0 rfl (om_10 b0)
    have n_p1 := ki_nat p1 rfl (om_21 b0 b1)
    have n_p2 := ki_nat p2 rfl (om_51 b3)
    have n_nd := ki_nat m_nodes rfl (om_10 b5)
    have n_y := ki_nat y_1 rfl (om_34 b5 i_1)
    have n_md := ki_nat y_5 rfl (om_336 b0 b1 i_4 d_6.2)
    have n_oL := ki_nat o_8 rfl (om_337 b1 b5 i_1 i_4 d_6.2 w_7.2.1)
    have i_rL : r_7.toInt = y_1.toInt := congrArg Int32.toInt w_7.1
    have i_rR : r_19.toInt = o_8.toInt := congrArg Int32.toInt w_19.1
    obtain ⟨mua, La, ca, tA⟩ := w_7.2.2.2.1
    obtain ⟨mub, Lb, cb, tB⟩ := w_19.2.2.2.1
    obtain ⟨g_1, g_2, g_3, g_4, g_5, g_6⟩ := mj_ly9 n_p0 n_p1 n_nd n_y n_md n_oL i_1 i_4 i_5 w_7.2.1 b1 i_2 i_3
    have tA2 := mj_T_ag _ _ o_8.toNatClampNeg _ _ _ _ _ tA g_1 (mj_ag_sub w_19.2.2.2.2 (Nat.zero_le _) (Nat.le_refl _))
    have nA := mj_T_nd tA2
    have nB := mj_T_nd tB
    refine lv_aload_n hx hb dX5_lays_81 rfl (lv_at hl 4 rfl) ?_
    refine lv_iload hx hb dX5_lays_82 (lv_at hl 1 rfl) ?_
    refine lv_iload hx hb dX5_lays_84 (lv_at hl 0 rfl) ?_
    refine lv_iload hx hb dX5_lays_86 (lv_at hl 3 rfl) ?_
    refine lv_iload_n hx hb dX5_lays_88 rfl (lv_at hl 7 rfl) ?_
    obtain ⟨hPc, hDc, hFc, hCc⟩ := kx_preM (wc := [kx_5 h0 g_row m_n m_slots m_thrown g_many g_loss g_less g_voteValue g_voteNumber g_allValue g_allNumber o_21 g_nodeL g_nodeR o_20 g_part m_partMany g_wasMany g_wasLoss g_wasValue g_wasNumber g_path m_pathMany g_heavyValue g_heavyTimes m_heavyMany g_fewest g_which g_met m_mostMet, kx_a g_many cyI 324 o_22, kx_a g_loss cyI 324 o_23, kx_a g_less cyI 324 o_24, kx_a g_voteValue cyI 1944 o_25, kx_a g_voteNumber cyI 1944 o_26, kx_a g_allValue cyI 12 o_27, kx_a g_allNumber cyI 12 o_28]) hP hD hS hA [true, false, true, true, true, true, true, true, true, false, false] rfl
    have hKc := hK
    refine va_callv (va_runV (As := [.int r_7, .int r_19, .int m_nodes, .int p2]) (rest := []) ⟨hx, hb, hml, hown, hts⟩ (kx_un (c_X5_together l dC dI h0 g_row g_many g_loss g_less g_voteValue g_voteNumber g_allValue g_allNumber g_nodeL g_nodeR g_part g_wasMany g_wasLoss g_wasValue g_wasNumber g_path g_heavyValue g_heavyTimes g_fewest g_which g_met m_n m_slots m_thrown o_21 o_20 m_partMany m_pathMany m_heavyMany m_mostMet cyI o_22 o_23 o_24 o_25 o_26 o_27 o_28 mua mub r_7 r_19 m_nodes p2 H.size (om_339 b5 i_1 i_rL) (om_340 b1 b6 i_1 i_rL) (om_341 b1 b5 i_1 i_4 d_6.2 w_7.2.1 i_rR) (om_342 b1 b6 i_1 i_4 d_6.1 w_7.2.1 i_rR) (om_10 b5) (om_343 b1 b6) (om_51 b3) (om_344 b4) (by rw [w_7.1]; exact nA.2.2.1) (by rw [w_7.1]; exact nA.2.2.2.1) (by rw [w_19.1]; exact nB.2.2.1) (by rw [w_19.1]; exact nB.2.2.2.1) (by rw [w_7.1]; exact nA.2.2.2.2.2.2.2.1) (by rw [w_19.1]; exact nB.2.2.2.2.2.2.2.1) (fun v => by have h1 := mj_T_le _ _ _ _ _ _ _ tA2 v; have h2 := mj_T_le _ _ _ _ _ _ _ tB v; omega))) (cwV 4 hts gX5_lays_X5_together rfl rfl rfl (by decide +kernel) ⟨Nat.le_of_ble_eq_true rfl, Nat.le_of_ble_eq_true rfl⟩) ⟨fun a U g mk q => by obtain ⟨q0, q1, qP, qK, qD⟩ := q; exact ⟨q0, q1, qP, va_K.moved (u := U) (U := U.calling g mk a) (Vm.Alike.refl U.vm) qK, qD⟩, kx_rc5 hKc hPc (q0 := 0) rfl, fun U hU hW => ⟨rfl, by rw [hU], by rw [hU]; exact hPc, va_K.moved hW.alike hKc, hDc.weaken (fun _ _ _ _ => trivial)⟩⟩ rfl rfl hl.1 rfl (lv_room (Nat.le_of_ble_eq_true rfl)) dX5_lays_89 ⟨Nat.le_of_ble_eq_true rfl, Nat.le_of_ble_eq_true rfl⟩) hS (fun q _ h => hFc q h) hFc (fun u t H1 locs ht hvm w_31 hB hz1 hk1 hS => ?_)
    obtain ⟨o_32, o_33, o_34, o_35, o_36, o_37, o_38, o_39, o_40, o_41, o_42⟩ := u
    dsimp only at w_31 hB
    obtain ⟨hP1, hK1, hD1⟩ := hB
    rw [ht] at hP1
    have hK1 := va_K.moved hvm.symm hK1
    obtain ⟨hP, hD⟩ := kx_joinM (w2 := [kx_5 h0 g_row m_n m_slots m_thrown g_many g_loss g_less g_voteValue g_voteNumber g_allValue g_allNumber o_32 g_nodeL g_nodeR o_20 g_part m_partMany g_wasMany g_wasLoss g_wasValue g_wasNumber g_path m_pathMany g_heavyValue g_heavyTimes m_heavyMany g_fewest g_which g_met m_mostMet, kx_a g_row cyI 160 f, kx_a g_many cyI 324 o_36, kx_a g_loss cyI 324 o_37, kx_a g_less cyI 324 o_38, kx_a g_voteValue cyI 1944 o_39, kx_a g_voteNumber cyI 1944 o_40, kx_a g_allValue cyI 12 o_41, kx_a g_allNumber cyI 12 o_42, kx_a g_nodeL cyI 320 o_29, kx_a g_nodeR cyI 320 o_30]) hP hD hP1 hD1 hk1 hFc [true, false, true, true, true, true, true, true, true, false, false] hCc rfl
    clear hP1 hD1 hK1 hk1 hz1 hFc hDc hPc hKc hCc
    generalize H1 = H at hP hS ⊢
    have w_31 : mj_tog p2.toNatClampNeg mua mub o_35 o_33 ∧ o_37 = upd o_23 m_nodes.toNatClampNeg (o_23 r_7.toNatClampNeg + o_23 r_19.toNatClampNeg + o_33) ∧ o_38 = upd o_24 m_nodes.toNatClampNeg o_33 ∧ o_36 = upd o_22 m_nodes.toNatClampNeg o_34 ∧ 0 ≤ o_34.toInt ∧ o_34.toInt ≤ p2.toInt ∧ mj_vs o_39 o_40 (6 * m_nodes.toNatClampNeg) o_34.toNatClampNeg o_35 ∧ mj_srt o_39 o_40 (6 * m_nodes.toNatClampNeg) o_34.toNatClampNeg ∧ ∀ q : Nat, (q < 6 * m_nodes.toNatClampNeg ∨ 6 * m_nodes.toNatClampNeg + 6 ≤ q) → o_39 q = o_25 q ∧ o_40 q = o_26 q := w_31
    refine lv_iload hx hb dX5_lays_92 (lv_at hl 3 rfl) ?_
    have hP9 := hP
    have hD9 := hD
    have hK9 := hK
    have e_fl := w_31.2.1
    rw [w_7.1, w_19.1] at e_fl
    have hN := mj_lay_node (l := p0.toNatClampNeg) (r := p1.toNatClampNeg) (md := y_5.toNatClampNeg) (a := m_nodes.toNatClampNeg) g_2 g_3 n_p0.symm n_p1.symm g_4 g_5 (mj_ag_sub w_7.2.2.2.2 (Nat.le_refl _) g_6) w_19.2.2.2.2 tA2 tB w_31.1 w_31.2.2.2.1 w_31.2.2.2.2.1 (Int.le_trans w_31.2.2.2.2.2.1 (Int.le_of_eq n_p2.symm)) (mj_ln6 n_p2 b4) e_fl w_31.2.2.1 w_31.2.2.2.2.2.2.1 w_31.2.2.2.2.2.2.2.1 w_31.2.2.2.2.2.2.2.2
    exact W.iret (v := m_nodes) hx hb hr (hlocks := hlocks) (fun t ht hW => ⟨⟨m_nodes, (o_20, o_32, o_36, o_37, o_38, o_39, o_40, o_41, o_42, o_29, o_30), rfl, ⟨rfl, (om_345 i_1 w_7.2.1 w_19.2.1), (by (try dsimp only); rw [w_31.2.2.2.1]; exact six4_upd w_19.2.2.1 w_31.2.2.2.2.1 (om_346 b4 w_31.2.2.2.2.2.1)), hN.1, hN.2⟩, by rw [ht]; exact hP9, va_K.moved hW.alike hK9, hD9⟩, hS.F ht⟩) hS.2.2 dX5_lays_94
  · have i_3 : y_2.toInt = 1 := kc_eq c_3
    refine lv_aload_n hx hb dX5_lays_39 rfl (lv_at hl 1 rfl) ?_
    refine lv_iload hx hb dX5_lays_40 (lv_at hl 0 rfl) ?_
    refine lv_aload_n hx hb dX5_lays_42 rfl (lv_at hl 1 rfl) ?_
    refine va_get (D := (dC, dI)) (ci := 5) (v := .ref g_row) (C := RX5) (T := TX5) (N := 30) hx hb hts hi_5 hown hK hP 0 rfl rfl 0 (by decide) hf_7 (fun _ h9 => h9) rfl dX5_lays_43 ?_
    refine lv_iload_n hx hb dX5_lays_46 rfl (lv_at hl 2 rfl) ?_
    refine va_iald hx hb hK hP 1 0 rfl rfl (ki_in (om_10 b0) (om_85 b1 b2)) dX5_lays_47 ?_
    refine lv_topi (fun y_43 ey_43 => ?_)
    have j_43 : y_43.toInt = (f p0.toNatClampNeg).toInt := congrArg Int32.toInt ey_43
    obtain ⟨hPc, hDc, hFc, hCc⟩ := kx_preM (wc := [kx_5 h0 g_row m_n m_slots m_thrown g_many g_loss g_less g_voteValue g_voteNumber g_allValue g_allNumber m_allMany g_nodeL g_nodeR y_1 g_part m_partMany g_wasMany g_wasLoss g_wasValue g_wasNumber g_path m_pathMany g_heavyValue g_heavyTimes m_heavyMany g_fewest g_which g_met m_mostMet, kx_a g_many cyI 324 fm, kx_a g_loss cyI 324 fl, kx_a g_less cyI 324 fe, kx_a g_voteValue cyI 1944 vv, kx_a g_voteNumber cyI 1944 vn]) hP hD hS hA [true, false, true, true, true, true, true, false, false, false, false] rfl
    have hKc := hK
    refine va_callv (va_runV (As := [.int m_nodes, .int y_43]) (rest := []) ⟨hx, hb, hml, hown, hts⟩ (kx_un (c_X5_one_x l dC dI h0 g_row g_many g_loss g_less g_voteValue g_voteNumber g_allValue g_allNumber g_nodeL g_nodeR g_part g_wasMany g_wasLoss g_wasValue g_wasNumber g_path g_heavyValue g_heavyTimes g_fewest g_which g_met m_n m_slots m_thrown m_allMany y_1 m_partMany m_pathMany m_heavyMany m_mostMet cyI fm fl fe vv vn m_nodes y_43 H.size b5 (om_327 b1 b6))) (cwV 2 hts gX5_lays_X5_one rfl rfl rfl (by decide +kernel) ⟨Nat.le_of_ble_eq_true rfl, Nat.le_of_ble_eq_true rfl⟩) ⟨fun a U g mk q => by obtain ⟨q0, q1, qP, qK, qD⟩ := q; exact ⟨q0, q1, qP, va_K.moved (u := U) (U := U.calling g mk a) (Vm.Alike.refl U.vm) qK, qD⟩, kx_rc5 hKc hPc (q0 := 0) rfl, fun U hU hW => ⟨rfl, by rw [hU], by rw [hU]; exact hPc, va_K.moved hW.alike hKc, hDc.weaken (fun _ _ _ _ => trivial)⟩⟩ rfl rfl hl.1 rfl (lv_room (Nat.le_of_ble_eq_true rfl)) dX5_lays_48 ⟨Nat.le_of_ble_eq_true rfl, Nat.le_of_ble_eq_true rfl⟩) hS (fun q _ h => hFc q h) hFc (fun u t H1 locs ht hvm w_44 hB hz1 hk1 hS => ?_)
    obtain ⟨o_45, o_46, o_47, o_48, o_49⟩ := u
    dsimp only at w_44 hB
    obtain ⟨hP1, hK1, hD1⟩ := hB
    rw [ht] at hP1
    have hK1 := va_K.moved hvm.symm hK1
    obtain ⟨hP, hD⟩ := kx_joinM (w2 := [kx_5 h0 g_row m_n m_slots m_thrown g_many g_loss g_less g_voteValue g_voteNumber g_allValue g_allNumber m_allMany g_nodeL g_nodeR y_1 g_part m_partMany g_wasMany g_wasLoss g_wasValue g_wasNumber g_path m_pathMany g_heavyValue g_heavyTimes m_heavyMany g_fewest g_which g_met m_mostMet, kx_a g_row cyI 160 f, kx_a g_many cyI 324 o_45, kx_a g_loss cyI 324 o_46, kx_a g_less cyI 324 o_47, kx_a g_voteValue cyI 1944 o_48, kx_a g_voteNumber cyI 1944 o_49, kx_a g_allValue cyI 12 av, kx_a g_allNumber cyI 12 an, kx_a g_nodeL cyI 320 (upd nl m_nodes.toNatClampNeg p0), kx_a g_nodeR cyI 320 (upd nr m_nodes.toNatClampNeg p1)]) hP hD hP1 hD1 hk1 hFc [true, false, true, true, true, true, true, false, false, false, false] hCc rfl
    clear hP1 hD1 hK1 hk1 hz1 hFc hDc hPc hKc hCc
    generalize H1 = H at hP hS ⊢
    have w_44 : o_45 = upd fm m_nodes.toNatClampNeg 1 ∧ o_46 = upd fl m_nodes.toNatClampNeg 0 ∧ o_47 = upd fe m_nodes.toNatClampNeg 0 ∧ o_48 = upd vv (6 * m_nodes.toNatClampNeg) y_43 ∧ o_49 = upd vn (6 * m_nodes.toNatClampNeg) 1 := w_44
    refine lv_iload hx hb dX5_lays_51 (lv_at hl 0 rfl) ?_
    have hP9 := hP
    have hD9 := hD
    have hK9 := hK
    have n_p0 := ki_nat p0 rfl (om_10 b0)
    have n_p1 := ki_nat p1 rfl (om_21 b0 b1)
    have n_p2 := ki_nat p2 rfl (om_51 b3)
    have n_nd := ki_nat m_nodes rfl (om_10 b5)
    have e_vv := w_44.2.2.2.1
    rw [ey_43] at e_vv
    have hN := mj_lay_leaf (K := p2.toNatClampNeg) (f := f) (nl := nl) (nr := nr) (l := p0.toNatClampNeg) (r := p1.toNatClampNeg) (l32 := p0) (r32 := p1) 7 (mj_ln1 n_p2 b3) (mj_lf9 n_p0 n_p1 i_2 i_3) n_p0.symm n_p1.symm w_44.1 w_44.2.1 w_44.2.2.1 e_vv w_44.2.2.2.2
    exact W.iret (v := m_nodes) hx hb hr (hlocks := hlocks) (fun t ht hW => ⟨⟨m_nodes, (y_1, m_allMany, o_45, o_46, o_47, o_48, o_49, av, an, (upd nl m_nodes.toNatClampNeg p0), (upd nr m_nodes.toNatClampNeg p1)), rfl, ⟨rfl, (om_347 b1 i_1 i_2 i_3), (by (try dsimp only); rw [w_44.1]; exact six4_upd s4 (by decide) (by decide)), hN.1, hN.2⟩, by rw [ht]; exact hP9, va_K.moved hW.alike hK9, hD9⟩, hS.F ht⟩) hS.2.2 dX5_lays_53

set_option maxHeartbeats 4000000 in
set_option maxRecDepth 100000 in
theorem c_X5_lays_8 (l : Launch) (dC : Nat → ClassId) (dI : Nat → Nat → Nat) (h0 : Nat) (g_row : Nat) (g_many : Nat) (g_loss : Nat) (g_less : Nat) (g_voteValue : Nat) (g_voteNumber : Nat) (g_allValue : Nat) (g_allNumber : Nat) (g_nodeL : Nat) (g_nodeR : Nat) (g_part : Nat) (g_wasMany : Nat) (g_wasLoss : Nat) (g_wasValue : Nat) (g_wasNumber : Nat) (g_path : Nat) (g_heavyValue : Nat) (g_heavyTimes : Nat) (g_fewest : Nat) (g_which : Nat) (g_met : Nat) (m_n : Int32) (m_slots : Int32) (m_thrown : Int32) (m_allMany : Int32) (m_nodes : Int32) (m_partMany : Int32) (m_pathMany : Int32) (m_heavyMany : Int32) (m_mostMet : Int32) (cyI : ClassId) (fm : Nat → Int32) (fl : Nat → Int32) (fe : Nat → Int32) (vv : Nat → Int32) (vn : Nat → Int32) (f : Nat → Int32) (av : Nat → Int32) (an : Nat → Int32) (nl : Nat → Int32) (nr : Nat → Int32) (p0 : Int32) (p1 : Int32) (p2 : Int32) (sz : Nat) (b0 : 0 ≤ p0.toInt) (b1 : p0.toInt < p1.toInt) (b2 : p1.toInt ≤ 160) (b3 : 1 ≤ p2.toInt) (b4 : p2.toInt ≤ 6) (b5 : 0 ≤ m_nodes.toInt) (b6 : m_nodes.toInt + 2 * (p1.toInt - p0.toInt) - 1 ≤ 319) (s4 : six4 fm) (b7 : p1.toInt - p0.toInt ≤ 256) : kx_MQ l (dC, dI) yX5_lays wsX5_lays ({ frames := 10, cells := 0, slots := 0, locals := 450 }) [.ref h0, .int p0, .int p1, .int p2] [kx_5 h0 g_row m_n m_slots m_thrown g_many g_loss g_less g_voteValue g_voteNumber g_allValue g_allNumber m_allMany g_nodeL g_nodeR m_nodes g_part m_partMany g_wasMany g_wasLoss g_wasValue g_wasNumber g_path m_pathMany g_heavyValue g_heavyTimes m_heavyMany g_fewest g_which g_met m_mostMet, kx_a g_row cyI 160 f, kx_a g_many cyI 324 fm, kx_a g_loss cyI 324 fl, kx_a g_less cyI 324 fe, kx_a g_voteValue cyI 1944 vv, kx_a g_voteNumber cyI 1944 vn, kx_a g_allValue cyI 12 av, kx_a g_allNumber cyI 12 an, kx_a g_nodeL cyI 320 nl, kx_a g_nodeR cyI 320 nr] [(cyI, .int)] sz (fun A => va_Qi (fun (r : Int32) (u : Int32 × Int32 × (Nat → Int32) × (Nat → Int32) × (Nat → Int32) × (Nat → Int32) × (Nat → Int32) × (Nat → Int32) × (Nat → Int32) × (Nat → Int32) × (Nat → Int32)) => r = m_nodes ∧ u.1.toInt = m_nodes.toInt + 2 * (p1.toInt - p0.toInt) - 1 ∧ six4 u.2.2.1 ∧ mj_S p2.toNatClampNeg f u.2.2.2.2.2.2.2.2.2.1 u.2.2.2.2.2.2.2.2.2.2 u.2.2.1 u.2.2.2.1 u.2.2.2.2.1 u.2.2.2.2.2.1 u.2.2.2.2.2.2.1 8 m_nodes.toNatClampNeg p0.toNatClampNeg p1.toNatClampNeg ∧ mj_ag 0 m_nodes.toNatClampNeg nl nr fm fl fe vv vn u.2.2.2.2.2.2.2.2.2.1 u.2.2.2.2.2.2.2.2.2.2 u.2.2.1 u.2.2.2.1 u.2.2.2.2.1 u.2.2.2.2.2.1 u.2.2.2.2.2.2.1) (fun (u : Int32 × Int32 × (Nat → Int32) × (Nat → Int32) × (Nat → Int32) × (Nat → Int32) × (Nat → Int32) × (Nat → Int32) × (Nat → Int32) × (Nat → Int32) × (Nat → Int32)) (t : State) => va_P (dC, dI) vwCl [kx_5 h0 g_row m_n m_slots m_thrown g_many g_loss g_less g_voteValue g_voteNumber g_allValue g_allNumber u.2.1 g_nodeL g_nodeR u.1 g_part m_partMany g_wasMany g_wasLoss g_wasValue g_wasNumber g_path m_pathMany g_heavyValue g_heavyTimes m_heavyMany g_fewest g_which g_met m_mostMet, kx_a g_row cyI 160 f, kx_a g_many cyI 324 u.2.2.1, kx_a g_loss cyI 324 u.2.2.2.1, kx_a g_less cyI 324 u.2.2.2.2.1, kx_a g_voteValue cyI 1944 u.2.2.2.2.2.1, kx_a g_voteNumber cyI 1944 u.2.2.2.2.2.2.1, kx_a g_allValue cyI 12 u.2.2.2.2.2.2.2.1, kx_a g_allNumber cyI 12 u.2.2.2.2.2.2.2.2.1, kx_a g_nodeL cyI 320 u.2.2.2.2.2.2.2.2.2.1, kx_a g_nodeR cyI 320 u.2.2.2.2.2.2.2.2.2.2] t.heap ∧ va_K (dC, dI) vwCl [(cyI, .int)] t ∧ va_D A [kx_5 h0 g_row m_n m_slots m_thrown g_many g_loss g_less g_voteValue g_voteNumber g_allValue g_allNumber u.2.1 g_nodeL g_nodeR u.1 g_part m_partMany g_wasMany g_wasLoss g_wasValue g_wasNumber g_path m_pathMany g_heavyValue g_heavyTimes m_heavyMany g_fewest g_which g_met m_mostMet, kx_a g_row cyI 160 f, kx_a g_many cyI 324 u.2.2.1, kx_a g_loss cyI 324 u.2.2.2.1, kx_a g_less cyI 324 u.2.2.2.2.1, kx_a g_voteValue cyI 1944 u.2.2.2.2.2.1, kx_a g_voteNumber cyI 1944 u.2.2.2.2.2.2.1, kx_a g_allValue cyI 12 u.2.2.2.2.2.2.2.1, kx_a g_allNumber cyI 12 u.2.2.2.2.2.2.2.2.1, kx_a g_nodeL cyI 320 u.2.2.2.2.2.2.2.2.2.1, kx_a g_nodeR cyI 320 u.2.2.2.2.2.2.2.2.2.2]) A) := by
  refine kx_stQ (ws := wsX5_lays) (cc := cX5_lays) (maxL := 8) (ret := (some .int)) (by decide) rfl (Nat.le_of_ble_eq_true rfl) ?_
  intro p e s m below meth c A ls hx hb hr hlocks hts hown hml hA hS hP hK hD hl
  have hown : s.vm.findClass RX5 = some m.cls := hown
  have hl : lv_has ls 8 [(0, .ref h0), (1, .int p0), (2, .int p1), (3, .int p2)] := hl
  have hf_101 := hts (.fieldLink RX5 101 "MajorityIndexModel" "nodes" "I") (List.mem_of_getElem? (i := 1) rfl)
  have hi_5 : ∀ w ∈ u_ws RX5 TX5 30, w ∈ wsX5_lays := fun w h => List.mem_cons_of_mem _ (List.mem_append_right _ h)
  have hf_38 := hts (.fieldLink RX5 38 "MajorityIndexModel" "nodeL" "[I") (List.mem_of_getElem? (i := 2) rfl)
  have hf_41 := hts (.fieldLink RX5 41 "MajorityIndexModel" "nodeR" "[I") (List.mem_of_getElem? (i := 3) rfl)
  have hf_7 := hts (.fieldLink RX5 7 "MajorityIndexModel" "row" "[I") (List.mem_of_getElem? (i := 4) rfl)
  refine lv_aload_n hx hb dX5_lays_0 rfl (lv_at hl 0 rfl) ?_
  refine va_get (D := (dC, dI)) (ci := 5) (v := .int m_nodes) (C := RX5) (T := TX5) (N := 30) hx hb hts hi_5 hown hK hP 0 rfl rfl 14 (by decide) hf_101 (fun _ h9 => h9) rfl dX5_lays_1 ?_
  refine lv_istore (lv' := [(4, .int m_nodes), (0, .ref h0), (1, .int p0), (2, .int p1), (3, .int p2)]) hx hb dX5_lays_4 hl (by decide) rfl (fun ls hl => ?_)
  refine lv_aload_n hx hb dX5_lays_6 rfl (lv_at hl 1 rfl) ?_
  refine lv_dup hx hb dX5_lays_7 rfl ?_
  refine va_get (D := (dC, dI)) (ci := 5) (v := .int m_nodes) (C := RX5) (T := TX5) (N := 30) hx hb hts hi_5 hown hK hP 0 rfl rfl 14 (by decide) hf_101 (fun _ h9 => h9) rfl dX5_lays_8 ?_
  refine lv_iconst (v := 1) hx hb dX5_lays_11 (by decide) ?_
  refine lv_iadd hx hb dX5_lays_12 ?_
  refine lv_topi (fun y_1 ey_1 => ?_)
  have i_1 : y_1.toInt = m_nodes.toInt + 1 := ki_add ey_1 rfl rfl (om_13 b5) (om_324 b1 b6)
  refine va_put (D := (dC, dI)) (ci := 5) (v := .int y_1) (ty := .int) (C := RX5) (T := TX5) (N := 30) hx hb hts hi_5 tyX5 tyX5_ok nmX5 hown hK hP hD hS 0 rfl rfl 14 (by decide) hf_101 (fun _ h9 => h9) rfl (by decide +kernel) rfl rfl (Nat.le_of_ble_eq_true rfl) dX5_lays_13 (fun H locs hP hD hS => ?_)
  obtain ⟨hP, hD⟩ := kx_re (w2 := [kx_5 h0 g_row m_n m_slots m_thrown g_many g_loss g_less g_voteValue g_voteNumber g_allValue g_allNumber m_allMany g_nodeL g_nodeR y_1 g_part m_partMany g_wasMany g_wasLoss g_wasValue g_wasNumber g_path m_pathMany g_heavyValue g_heavyTimes m_heavyMany g_fewest g_which g_met m_mostMet, kx_a g_row cyI 160 f, kx_a g_many cyI 324 fm, kx_a g_loss cyI 324 fl, kx_a g_less cyI 324 fe, kx_a g_voteValue cyI 1944 vv, kx_a g_voteNumber cyI 1944 vn, kx_a g_allValue cyI 12 av, kx_a g_allNumber cyI 12 an, kx_a g_nodeL cyI 320 nl, kx_a g_nodeR cyI 320 nr]) hP hD rfl
  refine lv_aload_n hx hb dX5_lays_16 rfl (lv_at hl 1 rfl) ?_
  refine va_get (D := (dC, dI)) (ci := 5) (v := .ref g_nodeL) (C := RX5) (T := TX5) (N := 30) hx hb hts hi_5 hown hK hP 0 rfl rfl 12 (by decide) hf_38 (fun _ h9 => h9) rfl dX5_lays_17 ?_
  refine lv_iload hx hb dX5_lays_20 (lv_at hl 0 rfl) ?_
  refine lv_iload_n hx hb dX5_lays_22 rfl (lv_at hl 2 rfl) ?_
  refine va_iast hx hb hK hP hD hS 9 0 rfl rfl (ki_in (om_10 b5) (om_325 b1 b6)) dX5_lays_23 (fun H locs hP hD hS => ?_)
  obtain ⟨hP, hD⟩ := kx_re (w2 := [kx_5 h0 g_row m_n m_slots m_thrown g_many g_loss g_less g_voteValue g_voteNumber g_allValue g_allNumber m_allMany g_nodeL g_nodeR y_1 g_part m_partMany g_wasMany g_wasLoss g_wasValue g_wasNumber g_path m_pathMany g_heavyValue g_heavyTimes m_heavyMany g_fewest g_which g_met m_mostMet, kx_a g_row cyI 160 f, kx_a g_many cyI 324 fm, kx_a g_loss cyI 324 fl, kx_a g_less cyI 324 fe, kx_a g_voteValue cyI 1944 vv, kx_a g_voteNumber cyI 1944 vn, kx_a g_allValue cyI 12 av, kx_a g_allNumber cyI 12 an, kx_a g_nodeL cyI 320 (upd nl m_nodes.toNatClampNeg p0), kx_a g_nodeR cyI 320 nr]) hP hD rfl
  refine lv_aload_n hx hb dX5_lays_24 rfl (lv_at hl 1 rfl) ?_
  refine va_get (D := (dC, dI)) (ci := 5) (v := .ref g_nodeR) (C := RX5) (T := TX5) (N := 30) hx hb hts hi_5 hown hK hP 0 rfl rfl 13 (by decide) hf_41 (fun _ h9 => h9) rfl dX5_lays_25 ?_
  refine lv_iload hx hb dX5_lays_28 (lv_at hl 0 rfl) ?_
  refine lv_iload_n hx hb dX5_lays_30 rfl (lv_at hl 3 rfl) ?_
  refine va_iast hx hb hK hP hD hS 10 0 rfl rfl (ki_in (om_10 b5) (om_325 b1 b6)) dX5_lays_31 (fun H locs hP hD hS => ?_)
  obtain ⟨hP, hD⟩ := kx_re (w2 := [kx_5 h0 g_row m_n m_slots m_thrown g_many g_loss g_less g_voteValue g_voteNumber g_allValue g_allNumber m_allMany g_nodeL g_nodeR y_1 g_part m_partMany g_wasMany g_wasLoss g_wasValue g_wasNumber g_path m_pathMany g_heavyValue g_heavyTimes m_heavyMany g_fewest g_which g_met m_mostMet, kx_a g_row cyI 160 f, kx_a g_many cyI 324 fm, kx_a g_loss cyI 324 fl, kx_a g_less cyI 324 fe, kx_a g_voteValue cyI 1944 vv, kx_a g_voteNumber cyI 1944 vn, kx_a g_allValue cyI 12 av, kx_a g_allNumber cyI 12 an, kx_a g_nodeL cyI 320 (upd nl m_nodes.toNatClampNeg p0), kx_a g_nodeR cyI 320 (upd nr m_nodes.toNatClampNeg p1)]) hP hD rfl
  refine lv_iload_n hx hb dX5_lays_32 rfl (lv_at hl 3 rfl) ?_
  refine lv_iload_n hx hb dX5_lays_33 rfl (lv_at hl 2 rfl) ?_
  refine lv_isub hx hb dX5_lays_34 ?_
  refine lv_topi (fun y_2 ey_2 => ?_)
  have i_2 : y_2.toInt = p1.toInt - p0.toInt := ki_sub ey_2 rfl rfl (om_168 b1) (om_360 b7)
  refine lv_iconst (v := 1) hx hb dX5_lays_35 (by decide) ?_
  refine lv_icmp_ne (tgt := 54) hx hb dX5_lays_36 (by decide) (fun c_3 => ?_) (fun c_3 => ?_)
  · have i_3 : ¬ y_2.toInt = 1 := kc_ne c_3
    refine lv_iload_n hx hb dX5_lays_54 rfl (lv_at hl 2 rfl) ?_
    refine lv_iload_n hx hb dX5_lays_55 rfl (lv_at hl 3 rfl) ?_
    refine lv_iadd hx hb dX5_lays_56 ?_
    refine lv_topi (fun y_4 ey_4 => ?_)
    have i_4 : y_4.toInt = p0.toInt + p1.toInt := ki_add ey_4 rfl rfl (om_330 b0 b1) (om_331 b1 b2)
    refine lv_iconst (v := 2) hx hb dX5_lays_57 (by decide) ?_
    refine lv_idiv hx hb dX5_lays_58 (by decide) ?_
    refine lv_topi (fun y_5 ey_5 => ?_)
    have i_5 : y_5.toInt = y_4.toInt / 2 := ki_div2 ey_5 rfl (om_332 b0 b1 i_4)
    have d_6 := om_dv i_5
    refine lv_istore (lv' := [(5, .int y_5), (4, .int m_nodes), (0, .ref h0), (1, .int p0), (2, .int p1), (3, .int p2)]) hx hb dX5_lays_59 hl (by decide) rfl (fun ls hl => ?_)
    refine lv_aload_n hx hb dX5_lays_61 rfl (lv_at hl 2 rfl) ?_
    refine lv_iload_n hx hb dX5_lays_62 rfl (lv_at hl 3 rfl) ?_
    refine lv_iload hx hb dX5_lays_63 (lv_at hl 0 rfl) ?_
    refine lv_iload_n hx hb dX5_lays_65 rfl (lv_at hl 5 rfl) ?_
    have hPc := hP
    have hKc := hK
    have hDc := hD
    have hFc := kx_free hD hS hA
    refine va_calli (va_runV (As := [.int p0, .int y_5, .int p2]) (rest := []) ⟨hx, hb, hml, hown, hts⟩ (kx_un (c_X5_lays_7 l dC dI h0 g_row g_many g_loss g_less g_voteValue g_voteNumber g_allValue g_allNumber g_nodeL g_nodeR g_part g_wasMany g_wasLoss g_wasValue g_wasNumber g_path g_heavyValue g_heavyTimes g_fewest g_which g_met m_n m_slots m_thrown m_allMany y_1 m_partMany m_pathMany m_heavyMany m_mostMet cyI fm fl fe vv vn f av an (upd nl m_nodes.toNatClampNeg p0) (upd nr m_nodes.toNatClampNeg p1) p0 y_5 p2 H.size b0 (by omega) (om_333 b1 b2 i_4 d_6.1) b3 b4 (om_34 b5 i_1) (om_334 b1 b6 i_1 i_4 d_6.1) s4 (om_361 b7 i_4 d_6.1))) (cwV 3 hts gX5_lays_X5_lays rfl rfl rfl (by decide +kernel) ⟨Nat.le_of_ble_eq_true rfl, Nat.le_of_ble_eq_true rfl⟩) ⟨fun a U g mk q => by obtain ⟨q0, q1, qP, qK, qD⟩ := q; exact ⟨q0, q1, qP, va_K.moved (u := U) (U := U.calling g mk a) (Vm.Alike.refl U.vm) qK, qD⟩, kx_rc5 hKc hPc (q0 := 0) rfl, fun U hU hW => ⟨rfl, by rw [hU], by rw [hU]; exact hPc, va_K.moved hW.alike hKc, hDc.weaken (fun _ _ _ _ => trivial)⟩⟩ rfl rfl hl.1 rfl (lv_room (Nat.le_of_ble_eq_true rfl)) dX5_lays_66 ⟨Nat.le_of_ble_eq_true rfl, Nat.le_of_ble_eq_true rfl⟩) hS (fun q _ h => hFc q h) hFc (fun r_7 u t H1 locs ht hvm w_7 hB hz1 hk1 hS => ?_)
    obtain ⟨o_8, o_9, o_10, o_11, o_12, o_13, o_14, o_15, o_16, o_17, o_18⟩ := u
    dsimp only at w_7 hB
    obtain ⟨hP1, hK1, hD1⟩ := hB
    rw [ht] at hP1
    have hK1 := va_K.moved hvm.symm hK1
    have hD := hD1.weaken (fun _ q _ h => hFc q.1 h)
    have hP := hP1
    clear hP1 hD1 hK1 hk1 hz1 hFc hDc hPc hKc
    generalize H1 = H at hP hS ⊢
    have w_7 : r_7 = y_1 ∧ o_8.toInt = y_1.toInt + 2 * (y_5.toInt - p0.toInt) - 1 ∧ six4 o_10 ∧ mj_S p2.toNatClampNeg f o_17 o_18 o_10 o_11 o_12 o_13 o_14 7 y_1.toNatClampNeg p0.toNatClampNeg y_5.toNatClampNeg ∧ mj_ag 0 y_1.toNatClampNeg (upd nl m_nodes.toNatClampNeg p0) (upd nr m_nodes.toNatClampNeg p1) fm fl fe vv vn o_17 o_18 o_10 o_11 o_12 o_13 o_14 := w_7
    refine lv_istore (lv' := [(6, .int r_7), (5, .int y_5), (4, .int m_nodes), (0, .ref h0), (1, .int p0), (2, .int p1), (3, .int p2)]) hx hb dX5_lays_69 hl (by decide) rfl (fun ls hl => ?_)
    refine lv_aload_n hx hb dX5_lays_71 rfl (lv_at hl 3 rfl) ?_
    refine lv_iload hx hb dX5_lays_72 (lv_at hl 1 rfl) ?_
    refine lv_iload_n hx hb dX5_lays_74 rfl (lv_at hl 5 rfl) ?_
    refine lv_iload_n hx hb dX5_lays_75 rfl (lv_at hl 6 rfl) ?_
    have hPc := hP
    have hKc := hK
    have hDc := hD
    have hFc := kx_free hD hS hA
    refine va_calli (va_runV (As := [.int y_5, .int p1, .int p2]) (rest := []) ⟨hx, hb, hml, hown, hts⟩ (kx_un (c_X5_lays_7 l dC dI h0 g_row g_many g_loss g_less g_voteValue g_voteNumber g_allValue g_allNumber g_nodeL g_nodeR g_part g_wasMany g_wasLoss g_wasValue g_wasNumber g_path g_heavyValue g_heavyTimes g_fewest g_which g_met m_n m_slots m_thrown o_9 o_8 m_partMany m_pathMany m_heavyMany m_mostMet cyI o_10 o_11 o_12 o_13 o_14 f o_15 o_16 o_17 o_18 y_5 p1 p2 H.size (om_336 b0 b1 i_4 d_6.2) (by omega) b2 b3 b4 (om_337 b1 b5 i_1 i_4 d_6.2 w_7.2.1) (om_338 b6 i_1 w_7.2.1) w_7.2.2.1 (om_362 b5 b6 i_4 d_6.2))) (cwV 3 hts gX5_lays_X5_lays rfl rfl rfl (by decide +kernel) ⟨Nat.le_of_ble_eq_true rfl, Nat.le_of_ble_eq_true rfl⟩) ⟨fun a U g mk q => by obtain ⟨q0, q1, qP, qK, qD⟩ := q; exact ⟨q0, q1, qP, va_K.moved (u := U) (U := U.calling g mk a) (Vm.Alike.refl U.vm) qK, qD⟩, kx_rc5 hKc hPc (q0 := 0) rfl, fun U hU hW => ⟨rfl, by rw [hU], by rw [hU]; exact hPc, va_K.moved hW.alike hKc, hDc.weaken (fun _ _ _ _ => trivial)⟩⟩ rfl rfl hl.1 rfl (lv_room (Nat.le_of_ble_eq_true rfl)) dX5_lays_76 ⟨Nat.le_of_ble_eq_true rfl, Nat.le_of_ble_eq_true rfl⟩) hS (fun q _ h => hFc q h) hFc (fun r_19 u t H1 locs ht hvm w_19 hB hz1 hk1 hS => ?_)
    obtain ⟨o_20, o_21, o_22, o_23, o_24, o_25, o_26, o_27, o_28, o_29, o_30⟩ := u
    dsimp only at w_19 hB
    obtain ⟨hP1, hK1, hD1⟩ := hB
    rw [ht] at hP1
    have hK1 := va_K.moved hvm.symm hK1
    have hD := hD1.weaken (fun _ q _ h => hFc q.1 h)
    have hP := hP1
    clear hP1 hD1 hK1 hk1 hz1 hFc hDc hPc hKc
    generalize H1 = H at hP hS ⊢
    have w_19 : r_19 = o_8 ∧ o_20.toInt = o_8.toInt + 2 * (p1.toInt - y_5.toInt) - 1 ∧ six4 o_22 ∧ mj_S p2.toNatClampNeg f o_29 o_30 o_22 o_23 o_24 o_25 o_26 7 o_8.toNatClampNeg y_5.toNatClampNeg p1.toNatClampNeg ∧ mj_ag 0 o_8.toNatClampNeg o_17 o_18 o_10 o_11 o_12 o_13 o_14 o_29 o_30 o_22 o_23 o_24 o_25 o_26 := w_19
    refine lv_istore (lv' := [(7, .int r_19), (6, .int r_7), (5, .int y_5), (4, .int m_nodes), (0, .ref h0), (1, .int p0), (2, .int p1), (3, .int p2)]) hx hb dX5_lays_79 hl (by decide) rfl (fun ls hl => ?_)
    have n_p0 := ki_nat p0 rfl (om_10 b0)
    have n_p1 := ki_nat p1 rfl (om_21 b0 b1)
    have n_p2 := ki_nat p2 rfl (om_51 b3)
    have n_nd := ki_nat m_nodes rfl (om_10 b5)
    have n_y := ki_nat y_1 rfl (om_34 b5 i_1)
    have n_md := ki_nat y_5 rfl (om_336 b0 b1 i_4 d_6.2)
    have n_oL := ki_nat o_8 rfl (om_337 b1 b5 i_1 i_4 d_6.2 w_7.2.1)
    have i_rL : r_7.toInt = y_1.toInt := congrArg Int32.toInt w_7.1
    have i_rR : r_19.toInt = o_8.toInt := congrArg Int32.toInt w_19.1
    obtain ⟨mua, La, ca, tA⟩ := w_7.2.2.2.1
    obtain ⟨mub, Lb, cb, tB⟩ := w_19.2.2.2.1
    obtain ⟨g_1, g_2, g_3, g_4, g_5, g_6⟩ := mj_ly9 n_p0 n_p1 n_nd n_y n_md n_oL i_1 i_4 i_5 w_7.2.1 b1 i_2 i_3
    have tA2 := mj_T_ag _ _ o_8.toNatClampNeg _ _ _ _ _ tA g_1 (mj_ag_sub w_19.2.2.2.2 (Nat.zero_le _) (Nat.le_refl _))
    have nA := mj_T_nd tA2
    have nB := mj_T_nd tB
    refine lv_aload_n hx hb dX5_lays_81 rfl (lv_at hl 4 rfl) ?_
    refine lv_iload hx hb dX5_lays_82 (lv_at hl 1 rfl) ?_
    refine lv_iload hx hb dX5_lays_84 (lv_at hl 0 rfl) ?_
    refine lv_iload hx hb dX5_lays_86 (lv_at hl 3 rfl) ?_
    refine lv_iload_n hx hb dX5_lays_88 rfl (lv_at hl 7 rfl) ?_
    obtain ⟨hPc, hDc, hFc, hCc⟩ := kx_preM (wc := [kx_5 h0 g_row m_n m_slots m_thrown g_many g_loss g_less g_voteValue g_voteNumber g_allValue g_allNumber o_21 g_nodeL g_nodeR o_20 g_part m_partMany g_wasMany g_wasLoss g_wasValue g_wasNumber g_path m_pathMany g_heavyValue g_heavyTimes m_heavyMany g_fewest g_which g_met m_mostMet, kx_a g_many cyI 324 o_22, kx_a g_loss cyI 324 o_23, kx_a g_less cyI 324 o_24, kx_a g_voteValue cyI 1944 o_25, kx_a g_voteNumber cyI 1944 o_26, kx_a g_allValue cyI 12 o_27, kx_a g_allNumber cyI 12 o_28]) hP hD hS hA [true, false, true, true, true, true, true, true, true, false, false] rfl
    have hKc := hK
    refine va_callv (va_runV (As := [.int r_7, .int r_19, .int m_nodes, .int p2]) (rest := []) ⟨hx, hb, hml, hown, hts⟩ (kx_un (c_X5_together l dC dI h0 g_row g_many g_loss g_less g_voteValue g_voteNumber g_allValue g_allNumber g_nodeL g_nodeR g_part g_wasMany g_wasLoss g_wasValue g_wasNumber g_path g_heavyValue g_heavyTimes g_fewest g_which g_met m_n m_slots m_thrown o_21 o_20 m_partMany m_pathMany m_heavyMany m_mostMet cyI o_22 o_23 o_24 o_25 o_26 o_27 o_28 mua mub r_7 r_19 m_nodes p2 H.size (om_339 b5 i_1 i_rL) (om_340 b1 b6 i_1 i_rL) (om_341 b1 b5 i_1 i_4 d_6.2 w_7.2.1 i_rR) (om_342 b1 b6 i_1 i_4 d_6.1 w_7.2.1 i_rR) (om_10 b5) (om_343 b1 b6) (om_51 b3) (om_344 b4) (by rw [w_7.1]; exact nA.2.2.1) (by rw [w_7.1]; exact nA.2.2.2.1) (by rw [w_19.1]; exact nB.2.2.1) (by rw [w_19.1]; exact nB.2.2.2.1) (by rw [w_7.1]; exact nA.2.2.2.2.2.2.2.1) (by rw [w_19.1]; exact nB.2.2.2.2.2.2.2.1) (fun v => by have h1 := mj_T_le _ _ _ _ _ _ _ tA2 v; have h2 := mj_T_le _ _ _ _ _ _ _ tB v; omega))) (cwV 4 hts gX5_lays_X5_together rfl rfl rfl (by decide +kernel) ⟨Nat.le_of_ble_eq_true rfl, Nat.le_of_ble_eq_true rfl⟩) ⟨fun a U g mk q => by obtain ⟨q0, q1, qP, qK, qD⟩ := q; exact ⟨q0, q1, qP, va_K.moved (u := U) (U := U.calling g mk a) (Vm.Alike.refl U.vm) qK, qD⟩, kx_rc5 hKc hPc (q0 := 0) rfl, fun U hU hW => ⟨rfl, by rw [hU], by rw [hU]; exact hPc, va_K.moved hW.alike hKc, hDc.weaken (fun _ _ _ _ => trivial)⟩⟩ rfl rfl hl.1 rfl (lv_room (Nat.le_of_ble_eq_true rfl)) dX5_lays_89 ⟨Nat.le_of_ble_eq_true rfl, Nat.le_of_ble_eq_true rfl⟩) hS (fun q _ h => hFc q h) hFc (fun u t H1 locs ht hvm w_31 hB hz1 hk1 hS => ?_)
    obtain ⟨o_32, o_33, o_34, o_35, o_36, o_37, o_38, o_39, o_40, o_41, o_42⟩ := u
    dsimp only at w_31 hB
    obtain ⟨hP1, hK1, hD1⟩ := hB
    rw [ht] at hP1
    have hK1 := va_K.moved hvm.symm hK1
    obtain ⟨hP, hD⟩ := kx_joinM (w2 := [kx_5 h0 g_row m_n m_slots m_thrown g_many g_loss g_less g_voteValue g_voteNumber g_allValue g_allNumber o_32 g_nodeL g_nodeR o_20 g_part m_partMany g_wasMany g_wasLoss g_wasValue g_wasNumber g_path m_pathMany g_heavyValue g_heavyTimes m_heavyMany g_fewest g_which g_met m_mostMet, kx_a g_row cyI 160 f, kx_a g_many cyI 324 o_36, kx_a g_loss cyI 324 o_37, kx_a g_less cyI 324 o_38, kx_a g_voteValue cyI 1944 o_39, kx_a g_voteNumber cyI 1944 o_40, kx_a g_allValue cyI 12 o_41, kx_a g_allNumber cyI 12 o_42, kx_a g_nodeL cyI 320 o_29, kx_a g_nodeR cyI 320 o_30]) hP hD hP1 hD1 hk1 hFc [true, false, true, true, true, true, true, true, true, false, false] hCc rfl
    clear hP1 hD1 hK1 hk1 hz1 hFc hDc hPc hKc hCc
    generalize H1 = H at hP hS ⊢
    have w_31 : mj_tog p2.toNatClampNeg mua mub o_35 o_33 ∧ o_37 = upd o_23 m_nodes.toNatClampNeg (o_23 r_7.toNatClampNeg + o_23 r_19.toNatClampNeg + o_33) ∧ o_38 = upd o_24 m_nodes.toNatClampNeg o_33 ∧ o_36 = upd o_22 m_nodes.toNatClampNeg o_34 ∧ 0 ≤ o_34.toInt ∧ o_34.toInt ≤ p2.toInt ∧ mj_vs o_39 o_40 (6 * m_nodes.toNatClampNeg) o_34.toNatClampNeg o_35 ∧ mj_srt o_39 o_40 (6 * m_nodes.toNatClampNeg) o_34.toNatClampNeg ∧ ∀ q : Nat, (q < 6 * m_nodes.toNatClampNeg ∨ 6 * m_nodes.toNatClampNeg + 6 ≤ q) → o_39 q = o_25 q ∧ o_40 q = o_26 q := w_31
    refine lv_iload hx hb dX5_lays_92 (lv_at hl 3 rfl) ?_
    have hP9 := hP
    have hD9 := hD
    have hK9 := hK
    have e_fl := w_31.2.1
    rw [w_7.1, w_19.1] at e_fl
    have hN := mj_lay_node (l := p0.toNatClampNeg) (r := p1.toNatClampNeg) (md := y_5.toNatClampNeg) (a := m_nodes.toNatClampNeg) g_2 g_3 n_p0.symm n_p1.symm g_4 g_5 (mj_ag_sub w_7.2.2.2.2 (Nat.le_refl _) g_6) w_19.2.2.2.2 tA2 tB w_31.1 w_31.2.2.2.1 w_31.2.2.2.2.1 (Int.le_trans w_31.2.2.2.2.2.1 (Int.le_of_eq n_p2.symm)) (mj_ln6 n_p2 b4) e_fl w_31.2.2.1 w_31.2.2.2.2.2.2.1 w_31.2.2.2.2.2.2.2.1 w_31.2.2.2.2.2.2.2.2
    exact W.iret (v := m_nodes) hx hb hr (hlocks := hlocks) (fun t ht hW => ⟨⟨m_nodes, (o_20, o_32, o_36, o_37, o_38, o_39, o_40, o_41, o_42, o_29, o_30), rfl, ⟨rfl, (om_345 i_1 w_7.2.1 w_19.2.1), (by (try dsimp only); rw [w_31.2.2.2.1]; exact six4_upd w_19.2.2.1 w_31.2.2.2.2.1 (om_346 b4 w_31.2.2.2.2.2.1)), hN.1, hN.2⟩, by rw [ht]; exact hP9, va_K.moved hW.alike hK9, hD9⟩, hS.F ht⟩) hS.2.2 dX5_lays_94
  · have i_3 : y_2.toInt = 1 := kc_eq c_3
    refine lv_aload_n hx hb dX5_lays_39 rfl (lv_at hl 1 rfl) ?_
    refine lv_iload hx hb dX5_lays_40 (lv_at hl 0 rfl) ?_
    refine lv_aload_n hx hb dX5_lays_42 rfl (lv_at hl 1 rfl) ?_
    refine va_get (D := (dC, dI)) (ci := 5) (v := .ref g_row) (C := RX5) (T := TX5) (N := 30) hx hb hts hi_5 hown hK hP 0 rfl rfl 0 (by decide) hf_7 (fun _ h9 => h9) rfl dX5_lays_43 ?_
    refine lv_iload_n hx hb dX5_lays_46 rfl (lv_at hl 2 rfl) ?_
    refine va_iald hx hb hK hP 1 0 rfl rfl (ki_in (om_10 b0) (om_85 b1 b2)) dX5_lays_47 ?_
    refine lv_topi (fun y_43 ey_43 => ?_)
    have j_43 : y_43.toInt = (f p0.toNatClampNeg).toInt := congrArg Int32.toInt ey_43
    obtain ⟨hPc, hDc, hFc, hCc⟩ := kx_preM (wc := [kx_5 h0 g_row m_n m_slots m_thrown g_many g_loss g_less g_voteValue g_voteNumber g_allValue g_allNumber m_allMany g_nodeL g_nodeR y_1 g_part m_partMany g_wasMany g_wasLoss g_wasValue g_wasNumber g_path m_pathMany g_heavyValue g_heavyTimes m_heavyMany g_fewest g_which g_met m_mostMet, kx_a g_many cyI 324 fm, kx_a g_loss cyI 324 fl, kx_a g_less cyI 324 fe, kx_a g_voteValue cyI 1944 vv, kx_a g_voteNumber cyI 1944 vn]) hP hD hS hA [true, false, true, true, true, true, true, false, false, false, false] rfl
    have hKc := hK
    refine va_callv (va_runV (As := [.int m_nodes, .int y_43]) (rest := []) ⟨hx, hb, hml, hown, hts⟩ (kx_un (c_X5_one_x l dC dI h0 g_row g_many g_loss g_less g_voteValue g_voteNumber g_allValue g_allNumber g_nodeL g_nodeR g_part g_wasMany g_wasLoss g_wasValue g_wasNumber g_path g_heavyValue g_heavyTimes g_fewest g_which g_met m_n m_slots m_thrown m_allMany y_1 m_partMany m_pathMany m_heavyMany m_mostMet cyI fm fl fe vv vn m_nodes y_43 H.size b5 (om_327 b1 b6))) (cwV 2 hts gX5_lays_X5_one rfl rfl rfl (by decide +kernel) ⟨Nat.le_of_ble_eq_true rfl, Nat.le_of_ble_eq_true rfl⟩) ⟨fun a U g mk q => by obtain ⟨q0, q1, qP, qK, qD⟩ := q; exact ⟨q0, q1, qP, va_K.moved (u := U) (U := U.calling g mk a) (Vm.Alike.refl U.vm) qK, qD⟩, kx_rc5 hKc hPc (q0 := 0) rfl, fun U hU hW => ⟨rfl, by rw [hU], by rw [hU]; exact hPc, va_K.moved hW.alike hKc, hDc.weaken (fun _ _ _ _ => trivial)⟩⟩ rfl rfl hl.1 rfl (lv_room (Nat.le_of_ble_eq_true rfl)) dX5_lays_48 ⟨Nat.le_of_ble_eq_true rfl, Nat.le_of_ble_eq_true rfl⟩) hS (fun q _ h => hFc q h) hFc (fun u t H1 locs ht hvm w_44 hB hz1 hk1 hS => ?_)
    obtain ⟨o_45, o_46, o_47, o_48, o_49⟩ := u
    dsimp only at w_44 hB
    obtain ⟨hP1, hK1, hD1⟩ := hB
    rw [ht] at hP1
    have hK1 := va_K.moved hvm.symm hK1
    obtain ⟨hP, hD⟩ := kx_joinM (w2 := [kx_5 h0 g_row m_n m_slots m_thrown g_many g_loss g_less g_voteValue g_voteNumber g_allValue g_allNumber m_allMany g_nodeL g_nodeR y_1 g_part m_partMany g_wasMany g_wasLoss g_wasValue g_wasNumber g_path m_pathMany g_heavyValue g_heavyTimes m_heavyMany g_fewest g_which g_met m_mostMet, kx_a g_row cyI 160 f, kx_a g_many cyI 324 o_45, kx_a g_loss cyI 324 o_46, kx_a g_less cyI 324 o_47, kx_a g_voteValue cyI 1944 o_48, kx_a g_voteNumber cyI 1944 o_49, kx_a g_allValue cyI 12 av, kx_a g_allNumber cyI 12 an, kx_a g_nodeL cyI 320 (upd nl m_nodes.toNatClampNeg p0), kx_a g_nodeR cyI 320 (upd nr m_nodes.toNatClampNeg p1)]) hP hD hP1 hD1 hk1 hFc [true, false, true, true, true, true, true, false, false, false, false] hCc rfl
    clear hP1 hD1 hK1 hk1 hz1 hFc hDc hPc hKc hCc
    generalize H1 = H at hP hS ⊢
    have w_44 : o_45 = upd fm m_nodes.toNatClampNeg 1 ∧ o_46 = upd fl m_nodes.toNatClampNeg 0 ∧ o_47 = upd fe m_nodes.toNatClampNeg 0 ∧ o_48 = upd vv (6 * m_nodes.toNatClampNeg) y_43 ∧ o_49 = upd vn (6 * m_nodes.toNatClampNeg) 1 := w_44
    refine lv_iload hx hb dX5_lays_51 (lv_at hl 0 rfl) ?_
    have hP9 := hP
    have hD9 := hD
    have hK9 := hK
    have n_p0 := ki_nat p0 rfl (om_10 b0)
    have n_p1 := ki_nat p1 rfl (om_21 b0 b1)
    have n_p2 := ki_nat p2 rfl (om_51 b3)
    have n_nd := ki_nat m_nodes rfl (om_10 b5)
    have e_vv := w_44.2.2.2.1
    rw [ey_43] at e_vv
    have hN := mj_lay_leaf (K := p2.toNatClampNeg) (f := f) (nl := nl) (nr := nr) (l := p0.toNatClampNeg) (r := p1.toNatClampNeg) (l32 := p0) (r32 := p1) 8 (mj_ln1 n_p2 b3) (mj_lf9 n_p0 n_p1 i_2 i_3) n_p0.symm n_p1.symm w_44.1 w_44.2.1 w_44.2.2.1 e_vv w_44.2.2.2.2
    exact W.iret (v := m_nodes) hx hb hr (hlocks := hlocks) (fun t ht hW => ⟨⟨m_nodes, (y_1, m_allMany, o_45, o_46, o_47, o_48, o_49, av, an, (upd nl m_nodes.toNatClampNeg p0), (upd nr m_nodes.toNatClampNeg p1)), rfl, ⟨rfl, (om_347 b1 i_1 i_2 i_3), (by (try dsimp only); rw [w_44.1]; exact six4_upd s4 (by decide) (by decide)), hN.1, hN.2⟩, by rw [ht]; exact hP9, va_K.moved hW.alike hK9, hD9⟩, hS.F ht⟩) hS.2.2 dX5_lays_53

set_option maxHeartbeats 4000000 in
set_option maxRecDepth 100000 in
theorem c_X5_laysAll (l : Launch) (dC : Nat → ClassId) (dI : Nat → Nat → Nat) (h0 : Nat) (g_row : Nat) (g_many : Nat) (g_loss : Nat) (g_less : Nat) (g_voteValue : Nat) (g_voteNumber : Nat) (g_allValue : Nat) (g_allNumber : Nat) (g_nodeL : Nat) (g_nodeR : Nat) (g_part : Nat) (g_wasMany : Nat) (g_wasLoss : Nat) (g_wasValue : Nat) (g_wasNumber : Nat) (g_path : Nat) (g_heavyValue : Nat) (g_heavyTimes : Nat) (g_fewest : Nat) (g_which : Nat) (g_met : Nat) (m_n : Int32) (m_slots : Int32) (m_thrown : Int32) (m_allMany : Int32) (m_nodes : Int32) (m_partMany : Int32) (m_pathMany : Int32) (m_heavyMany : Int32) (m_mostMet : Int32) (cyI : ClassId) (fm : Nat → Int32) (fl : Nat → Int32) (fe : Nat → Int32) (vv : Nat → Int32) (vn : Nat → Int32) (f : Nat → Int32) (av : Nat → Int32) (an : Nat → Int32) (nl : Nat → Int32) (nr : Nat → Int32) (p0 : Int32) (sz : Nat) (a0 : 0 ≤ m_n.toInt) (a1 : m_n.toInt ≤ 160) (b3 : 1 ≤ p0.toInt) (b4 : p0.toInt ≤ 6) (s4 : six4 fm) : kx_MQ l (dC, dI) yX5_laysAll wsX5_laysAll ({ frames := 11, cells := 0, slots := 0, locals := 495 }) [.ref h0, .int p0] [kx_5 h0 g_row m_n m_slots m_thrown g_many g_loss g_less g_voteValue g_voteNumber g_allValue g_allNumber m_allMany g_nodeL g_nodeR m_nodes g_part m_partMany g_wasMany g_wasLoss g_wasValue g_wasNumber g_path m_pathMany g_heavyValue g_heavyTimes m_heavyMany g_fewest g_which g_met m_mostMet, kx_a g_row cyI 160 f, kx_a g_many cyI 324 fm, kx_a g_loss cyI 324 fl, kx_a g_less cyI 324 fe, kx_a g_voteValue cyI 1944 vv, kx_a g_voteNumber cyI 1944 vn, kx_a g_allValue cyI 12 av, kx_a g_allNumber cyI 12 an, kx_a g_nodeL cyI 320 nl, kx_a g_nodeR cyI 320 nr] [(cyI, .int)] sz (fun A => va_Qv (fun u : Int32 × Int32 × (Nat → Int32) × (Nat → Int32) × (Nat → Int32) × (Nat → Int32) × (Nat → Int32) × (Nat → Int32) × (Nat → Int32) × (Nat → Int32) × (Nat → Int32) => mj_L p0.toNatClampNeg f u.2.2.2.2.2.2.2.2.2.1 u.2.2.2.2.2.2.2.2.2.2 u.2.2.1 u.2.2.2.1 u.2.2.2.2.1 u.2.2.2.2.2.1 u.2.2.2.2.2.2.1 m_n.toInt u.1.toInt ∧ six4 u.2.2.1 ∧ 0 ≤ u.1.toInt ∧ u.1.toInt ≤ 319) (fun (u : Int32 × Int32 × (Nat → Int32) × (Nat → Int32) × (Nat → Int32) × (Nat → Int32) × (Nat → Int32) × (Nat → Int32) × (Nat → Int32) × (Nat → Int32) × (Nat → Int32)) (t : State) => va_P (dC, dI) vwCl [kx_5 h0 g_row m_n m_slots m_thrown g_many g_loss g_less g_voteValue g_voteNumber g_allValue g_allNumber u.2.1 g_nodeL g_nodeR u.1 g_part m_partMany g_wasMany g_wasLoss g_wasValue g_wasNumber g_path m_pathMany g_heavyValue g_heavyTimes m_heavyMany g_fewest g_which g_met m_mostMet, kx_a g_row cyI 160 f, kx_a g_many cyI 324 u.2.2.1, kx_a g_loss cyI 324 u.2.2.2.1, kx_a g_less cyI 324 u.2.2.2.2.1, kx_a g_voteValue cyI 1944 u.2.2.2.2.2.1, kx_a g_voteNumber cyI 1944 u.2.2.2.2.2.2.1, kx_a g_allValue cyI 12 u.2.2.2.2.2.2.2.1, kx_a g_allNumber cyI 12 u.2.2.2.2.2.2.2.2.1, kx_a g_nodeL cyI 320 u.2.2.2.2.2.2.2.2.2.1, kx_a g_nodeR cyI 320 u.2.2.2.2.2.2.2.2.2.2] t.heap ∧ va_K (dC, dI) vwCl [(cyI, .int)] t ∧ va_D A [kx_5 h0 g_row m_n m_slots m_thrown g_many g_loss g_less g_voteValue g_voteNumber g_allValue g_allNumber u.2.1 g_nodeL g_nodeR u.1 g_part m_partMany g_wasMany g_wasLoss g_wasValue g_wasNumber g_path m_pathMany g_heavyValue g_heavyTimes m_heavyMany g_fewest g_which g_met m_mostMet, kx_a g_row cyI 160 f, kx_a g_many cyI 324 u.2.2.1, kx_a g_loss cyI 324 u.2.2.2.1, kx_a g_less cyI 324 u.2.2.2.2.1, kx_a g_voteValue cyI 1944 u.2.2.2.2.2.1, kx_a g_voteNumber cyI 1944 u.2.2.2.2.2.2.1, kx_a g_allValue cyI 12 u.2.2.2.2.2.2.2.1, kx_a g_allNumber cyI 12 u.2.2.2.2.2.2.2.2.1, kx_a g_nodeL cyI 320 u.2.2.2.2.2.2.2.2.2.1, kx_a g_nodeR cyI 320 u.2.2.2.2.2.2.2.2.2.2]) A) := by
  refine kx_stQ (ws := wsX5_laysAll) (cc := cX5_laysAll) (maxL := 2) (ret := none) (by decide) rfl (Nat.le_of_ble_eq_true rfl) ?_
  intro p e s m below meth c A ls hx hb hr hlocks hts hown hml hA hS hP hK hD hl
  have hown : s.vm.findClass RX5 = some m.cls := hown
  have hl : lv_has ls 2 [(0, .ref h0), (1, .int p0)] := hl
  have hf_101 := hts (.fieldLink RX5 101 "MajorityIndexModel" "nodes" "I") (List.mem_of_getElem? (i := 1) rfl)
  have hi_5 : ∀ w ∈ u_ws RX5 TX5 30, w ∈ wsX5_laysAll := fun w h => List.mem_cons_of_mem _ (List.mem_append_right _ h)
  have hf_84 := hts (.fieldLink RX5 84 "MajorityIndexModel" "n" "I") (List.mem_of_getElem? (i := 2) rfl)
  refine lv_aload_n hx hb dX5_laysAll_0 rfl (lv_at hl 0 rfl) ?_
  refine lv_iconst (v := 0) hx hb dX5_laysAll_1 (by decide) ?_
  refine va_put (D := (dC, dI)) (ci := 5) (v := .int 0) (ty := .int) (C := RX5) (T := TX5) (N := 30) hx hb hts hi_5 tyX5 tyX5_ok nmX5 hown hK hP hD hS 0 rfl rfl 14 (by decide) hf_101 (fun _ h9 => h9) rfl (by decide +kernel) rfl rfl (Nat.le_of_ble_eq_true rfl) dX5_laysAll_2 (fun H locs hP hD hS => ?_)
  obtain ⟨hP, hD⟩ := kx_re (w2 := [kx_5 h0 g_row m_n m_slots m_thrown g_many g_loss g_less g_voteValue g_voteNumber g_allValue g_allNumber m_allMany g_nodeL g_nodeR 0 g_part m_partMany g_wasMany g_wasLoss g_wasValue g_wasNumber g_path m_pathMany g_heavyValue g_heavyTimes m_heavyMany g_fewest g_which g_met m_mostMet, kx_a g_row cyI 160 f, kx_a g_many cyI 324 fm, kx_a g_loss cyI 324 fl, kx_a g_less cyI 324 fe, kx_a g_voteValue cyI 1944 vv, kx_a g_voteNumber cyI 1944 vn, kx_a g_allValue cyI 12 av, kx_a g_allNumber cyI 12 an, kx_a g_nodeL cyI 320 nl, kx_a g_nodeR cyI 320 nr]) hP hD rfl
  refine lv_aload_n hx hb dX5_laysAll_5 rfl (lv_at hl 0 rfl) ?_
  refine va_get (D := (dC, dI)) (ci := 5) (v := .int m_n) (C := RX5) (T := TX5) (N := 30) hx hb hts hi_5 hown hK hP 0 rfl rfl 1 (by decide) hf_84 (fun _ h9 => h9) rfl dX5_laysAll_6 ?_
  refine lv_if_le (tgt := 23) hx hb dX5_laysAll_9 (by decide) (fun c_1 => ?_) (fun c_1 => ?_)
  · have i_1 : m_n.toInt ≤ 0 := kc_le c_1
    have hP9 := hP
    have hD9 := hD
    have hK9 := hK
    exact W.vret hx hb hr (hlocks := hlocks) (fun t ht hW => ⟨⟨(0, m_allMany, fm, fl, fe, vv, vn, av, an, nl, nr), rfl, ⟨Or.inl ⟨by omega, rfl⟩, s4, (by (try dsimp only); decide), (by (try dsimp only); decide)⟩, by rw [ht]; exact hP9, va_K.moved hW.alike hK9, hD9⟩, hS.F ht⟩) hS.2.2 dX5_laysAll_23
  · have i_1 : 0 < m_n.toInt := kc_nle c_1
    refine lv_aload_n hx hb dX5_laysAll_12 rfl (lv_at hl 0 rfl) ?_
    refine lv_iconst (v := 0) hx hb dX5_laysAll_13 (by decide) ?_
    refine lv_aload_n hx hb dX5_laysAll_14 rfl (lv_at hl 0 rfl) ?_
    refine va_get (D := (dC, dI)) (ci := 5) (v := .int m_n) (C := RX5) (T := TX5) (N := 30) hx hb hts hi_5 hown hK hP 0 rfl rfl 1 (by decide) hf_84 (fun _ h9 => h9) rfl dX5_laysAll_15 ?_
    refine lv_iload_n hx hb dX5_laysAll_18 rfl (lv_at hl 1 rfl) ?_
    have hPc := hP
    have hKc := hK
    have k_2 : (0 : Int32).toInt = 0 := rfl
    have hDc := hD
    have hFc := kx_free hD hS hA
    refine va_calli (va_runV (As := [.int 0, .int m_n, .int p0]) (rest := []) ⟨hx, hb, hml, hown, hts⟩ (kx_un (c_X5_lays_8 l dC dI h0 g_row g_many g_loss g_less g_voteValue g_voteNumber g_allValue g_allNumber g_nodeL g_nodeR g_part g_wasMany g_wasLoss g_wasValue g_wasNumber g_path g_heavyValue g_heavyTimes g_fewest g_which g_met m_n m_slots m_thrown m_allMany 0 m_partMany m_pathMany m_heavyMany m_mostMet cyI fm fl fe vv vn f av an nl nr 0 m_n p0 H.size om_35 i_1 a1 b3 b4 om_35 (om_363 a1) s4 (om_364 a1))) (cwV 3 hts gX5_laysAll_X5_lays rfl rfl rfl (by decide +kernel) ⟨Nat.le_of_ble_eq_true rfl, Nat.le_of_ble_eq_true rfl⟩) ⟨fun a U g mk q => by obtain ⟨q0, q1, qP, qK, qD⟩ := q; exact ⟨q0, q1, qP, va_K.moved (u := U) (U := U.calling g mk a) (Vm.Alike.refl U.vm) qK, qD⟩, kx_rc5 hKc hPc (q0 := 0) rfl, fun U hU hW => ⟨rfl, by rw [hU], by rw [hU]; exact hPc, va_K.moved hW.alike hKc, hDc.weaken (fun _ _ _ _ => trivial)⟩⟩ rfl rfl hl.1 rfl (lv_room (Nat.le_of_ble_eq_true rfl)) dX5_laysAll_19 ⟨Nat.le_of_ble_eq_true rfl, Nat.le_of_ble_eq_true rfl⟩) hS (fun q _ h => hFc q h) hFc (fun r_3 u t H1 locs ht hvm w_3 hB hz1 hk1 hS => ?_)
    obtain ⟨o_4, o_5, o_6, o_7, o_8, o_9, o_10, o_11, o_12, o_13, o_14⟩ := u
    dsimp only at w_3 hB
    obtain ⟨hP1, hK1, hD1⟩ := hB
    rw [ht] at hP1
    have hK1 := va_K.moved hvm.symm hK1
    have hD := hD1.weaken (fun _ q _ h => hFc q.1 h)
    have hP := hP1
    clear hP1 hD1 hK1 hk1 hz1 hFc hDc hPc hKc
    generalize H1 = H at hP hS ⊢
    have w_3 : r_3 = 0 ∧ o_4.toInt = 0 + 2 * (m_n.toInt - 0) - 1 ∧ six4 o_6 ∧ mj_S p0.toNatClampNeg f o_13 o_14 o_6 o_7 o_8 o_9 o_10 8 (0 : Int32).toNatClampNeg (0 : Int32).toNatClampNeg m_n.toNatClampNeg ∧ mj_ag 0 (0 : Int32).toNatClampNeg nl nr fm fl fe vv vn o_13 o_14 o_6 o_7 o_8 o_9 o_10 := w_3
    refine lv_pop hx hb dX5_laysAll_22 rfl ?_
    have hP9 := hP
    have hD9 := hD
    have hK9 := hK
    have k_0 : (0 : Int32).toInt = 0 := rfl
    have n_n := ki_nat m_n rfl (om_365 i_1)
    exact W.vret hx hb hr (hlocks := hlocks) (fun t ht hW => ⟨⟨(o_4, o_5, o_6, o_7, o_8, o_9, o_10, o_11, o_12, o_13, o_14), rfl, ⟨Or.inr ⟨by omega, (by (try dsimp only); omega), (by (try dsimp only); exact w_3.2.2.2.1)⟩, w_3.2.2.1, (by (try dsimp only); omega), (by (try dsimp only); omega)⟩, by rw [ht]; exact hP9, va_K.moved hW.alike hK9, hD9⟩, hS.F ht⟩) hS.2.2 dX5_laysAll_23



def parts320 (f : Nat → Int32) : Prop := ∀ k : Nat, k < 320 → 0 ≤ (f k).toInt ∧ (f k).toInt < 320
theorem parts320_upd {f : Nat → Int32} {k : Nat} {x : Int32} (h : parts320 f) (h1 : 0 ≤ x.toInt) (h2 : x.toInt < 320) : parts320 (upd f k x) := by
  intro j hj
  unfold upd
  split
  · exact ⟨h1, h2⟩
  · exact h j hj
theorem mj_vs_ag {nl nr fm fl fe vv vn nl2 nr2 fm2 fl2 fe2 vv2 vn2 : Nat → Int32} {k b : Nat} {μ : Int32 → Int} (g : mj_ag 0 b nl nr fm fl fe vv vn nl2 nr2 fm2 fl2 fe2 vv2 vn2) (hk : k < b) (b0 : 0 ≤ (fm k).toInt) (b6 : (fm k).toInt ≤ 6) (hv : mj_vs vv vn (6 * k) (fm k).toNatClampNeg μ) : 0 ≤ (fm2 k).toInt ∧ (fm2 k).toInt ≤ 6 ∧ mj_vs vv2 vn2 (6 * k) (fm2 k).toNatClampNeg μ ∧ fl2 k = fl k := by
  obtain ⟨-, -, e3, e4, -⟩ := g.1 k (by omega) hk
  have hn := ki_nat (fm k) rfl b0
  rw [e3]
  exact ⟨b0, b6, mj_vs_seg hv (fun i hi => g.2 _ (by omega) (by omega)), e4⟩
theorem mj_F_one {K : Nat} {nl nr fm fl vv vn fm2 fl2 vv2 vn2 : Nat → Int32} {l r : Int} {i0 : Nat} {μ : Int32 → Int} (hi : i0 < 320) (hp : mj_isp nl nr l r i0) (hq : mj_pq nl nr l r i0 = 0) (b0 : 0 ≤ (fm i0).toInt) (b6 : (fm i0).toInt ≤ 6) (bK : (fm i0).toInt ≤ (K : Int)) (hv : mj_vs vv vn (6 * i0) (fm i0).toNatClampNeg μ) (hs : mj_srt vv vn (6 * i0) (fm i0).toNatClampNeg) (hb : ∀ v : Int32, 0 ≤ μ v ∧ μ v ≤ 160) (e1 : fm2 = upd fm 320 (fm i0)) (e2 : fl2 = upd fl 320 (fl i0)) (hc : mj_cp vv vn vv2 vn2 i0 320 6) : mj_F K nl nr fm fl vv vn fm2 fl2 vv2 vn2 l r 1 := by
  subst e1; subst e2
  have hn := ki_nat (fm i0) rfl b0
  have hj : ∀ j : Nat, j < (fm i0).toNatClampNeg → vv2 (1920 + j) = vv (6 * i0 + j) ∧ vn2 (1920 + j) = vn (6 * i0 + j) := fun j h => hc.1 j (by omega)
  refine ⟨μ, fl i0, ⟨i0, mj_z, 0, 0, μ, hi, ⟨rfl, rfl⟩, hp, hq, hv, b0, b6, mj_tog_first hv hs (by omega), by simp⟩, ?_, ?_, ?_, ?_, ?_, fun v => ?_⟩
  · rw [upd_at]
    refine ⟨fun j h => ?_, fun i j hi hj2 e => ?_, fun v h => ?_⟩
    · rw [(hj j h).1, (hj j h).2]; exact hv.1 j h
    · rw [(hj i hi).1, (hj j hj2).1] at e; exact hv.2.1 i j hi hj2 e
    · obtain ⟨j, h1, h2⟩ := hv.2.2 v h
      exact ⟨j, h1, by rw [(hj j h1).1]; exact h2⟩
  · rw [upd_at]
    intro i j hij h
    have := hs i j hij h
    unfold mj_lea at this ⊢
    rw [(hj i (by omega)).1, (hj i (by omega)).2, (hj j h).1, (hj j h).2]
    exact this
  · rw [upd_at]; exact b0
  · rw [upd_at]; exact bK
  · rw [upd_at]
  · have := hb v
    omega
theorem mj_F_step {K : Nat} {nl nr fm fl vv vn gm gl fm3 fl3 vv3 vn3 : Nat → Int32} {l r : Int} {j j2 k9 : Nat} {mua mub mu : Int32 → Int} {L0 c lf : Int32} (hH : mj_H K nl nr fm fl vv vn l r j mua L0) (hi : k9 < 320) (hp : mj_isp nl nr l r k9) (hq : mj_pq nl nr l r k9 = j) (b0 : 0 ≤ (fm k9).toInt) (b6 : (fm k9).toInt ≤ 6) (hv : mj_vs vv vn (6 * k9) (fm k9).toNatClampNeg mub) (tg : mj_tog K mua mub mu c) (e : fl3 = upd gl 320 (gl 320 + gl k9 + c)) (eL : gl 320 = L0) (ek : gl k9 = fl k9) (ef : fm3 = upd gm 320 lf) (c0 : 0 ≤ lf.toInt) (cK : lf.toInt ≤ (K : Int)) (v3 : mj_vs vv3 vn3 1920 lf.toNatClampNeg mu) (s3 : mj_srt vv3 vn3 1920 lf.toNatClampNeg) (ha : ∀ v : Int32, 0 ≤ mua v ∧ mua v ≤ 160 * (j : Int)) (hb : ∀ v : Int32, 0 ≤ mub v ∧ mub v ≤ 160) (ej : j2 = j + 1) : mj_F K nl nr fm fl vv vn fm3 fl3 vv3 vn3 l r j2 := by
  subst e; subst ef; subst ej
  refine ⟨mu, L0 + fl k9 + c, ⟨k9, mua, L0, c, mub, hi, hH, hp, hq, hv, b0, b6, tg, rfl⟩, ?_, ?_, ?_, ?_, ?_, fun v => ?_⟩
  · rw [upd_at]; exact v3
  · rw [upd_at]; exact s3
  · rw [upd_at]; exact c0
  · rw [upd_at]; exact cK
  · rw [upd_at, eL, ek]
  · have h1 := mj_tog_le tg (fun w => (ha w).1) (fun w => (hb w).1) v
    have h2 := ha v
    have h3 := hb v
    omega
theorem mj_F_self {K : Nat} {nl nr fm fl fe vv vn fm2 fl2 fe2 vv2 vn2 : Nat → Int32} {l r : Int} {j j2 : Nat} (h : mj_F K nl nr fm fl vv vn fm2 fl2 vv2 vn2 l r j) (g : mj_ag 0 320 nl nr fm fl fe vv vn nl nr fm2 fl2 fe2 vv2 vn2) (e : j2 = j) : mj_F K nl nr fm2 fl2 vv2 vn2 fm2 fl2 vv2 vn2 l r j2 := by
  subst e
  obtain ⟨μ, L, hH, h⟩ := h
  exact ⟨μ, L, mj_H_ag g _ _ _ hH, h⟩
theorem mj_ag_cp {nl nr fm fl fe vv vn fm2 fl2 fe2 vv2 vn2 : Nat → Int32} {a : Nat} {x y z : Int32} (e1 : fm2 = upd fm 320 x) (e2 : fl2 = upd fl 320 y) (e3 : fe2 = upd fe 320 z) (hc : mj_cp vv vn vv2 vn2 a 320 6) : mj_ag 0 320 nl nr fm fl fe vv vn nl nr fm2 fl2 fe2 vv2 vn2 := by
  subst e1; subst e2; subst e3
  refine ⟨fun k h1 h2 => ?_, fun q h1 h2 => hc.2 q (by omega)⟩
  have : ¬ k = 320 := by omega
  rw [upd_ne this, upd_ne this, upd_ne this]
  exact ⟨rfl, rfl, rfl, rfl, rfl⟩
theorem mj_ag_tg {nl nr fm fl fe vv vn gm gl ge gvv gvn fm3 fl3 fe3 vv3 vn3 : Nat → Int32} {x y z : Int32} (g : mj_ag 0 320 nl nr fm fl fe vv vn nl nr gm gl ge gvv gvn) (e1 : fm3 = upd gm 320 x) (e2 : fl3 = upd gl 320 y) (e3 : fe3 = upd ge 320 z) (hq : ∀ q : Nat, (q < 1920 ∨ 1926 ≤ q) → vv3 q = gvv q ∧ vn3 q = gvn q) : mj_ag 0 320 nl nr fm fl fe vv vn nl nr fm3 fl3 fe3 vv3 vn3 := by
  subst e1; subst e2; subst e3
  refine mj_ag_trans g ⟨fun k h1 h2 => ?_, fun q h1 h2 => hq q (by omega)⟩
  have : ¬ k = 320 := by omega
  rw [upd_ne this, upd_ne this, upd_ne this]
  exact ⟨rfl, rfl, rfl, rfl, rfl⟩
/-! the nodes that have a place -/
def pathOk (f : Nat → Int32) (m nd : Int) : Prop := ∀ k : Nat, (k : Int) < m → 0 ≤ (f k).toInt ∧ (f k).toInt < nd
theorem pathOk_0 (f : Nat → Int32) {m nd : Int} (h : m ≤ 0) : pathOk f m nd := fun k hk => absurd hk (by omega)
theorem pathOk_put {f : Nat → Int32} {m m2 nd : Int} {q : Nat} {x : Int32} (h : pathOk f m nd) (hq : (q : Int) = m) (e : m2 = m + 1) (h0 : 0 ≤ x.toInt) (h1 : x.toInt < nd) : pathOk (upd f q x) m2 nd := by
  intro k hk
  unfold upd
  split
  · exact ⟨h0, h1⟩
  · exact h k (by omega)
def mj_has (nl nr : Nat → Int32) (p : Int) (k : Nat) : Prop := (nl k).toInt ≤ p ∧ p < (nr k).toInt
def mj_pw (nl nr : Nat → Int32) (p : Int) (gp : Nat → Int32) (k : Nat) : Prop := ∀ j : Nat, j < k → mj_has nl nr p j → (gp (mj_pc nl nr p 0 j)).toInt = (j : Int)
theorem mj_pc_no {nl nr : Nat → Int32} {p : Int} {k : Nat} (h : ¬ mj_has nl nr p k) : mj_pc nl nr p 0 (k + 1) = mj_pc nl nr p 0 k := by
  simp only [mj_pc, Nat.zero_add]
  rw [if_neg (show ¬ ((nl k).toInt ≤ p ∧ p < (nr k).toInt) from h)]
  omega
theorem mj_pc_yes {nl nr : Nat → Int32} {p : Int} {k : Nat} (h : mj_has nl nr p k) : mj_pc nl nr p 0 (k + 1) = mj_pc nl nr p 0 k + 1 := by
  simp only [mj_pc, Nat.zero_add]
  rw [if_pos (show (nl k).toInt ≤ p ∧ p < (nr k).toInt from h)]
theorem mj_pw_0 (nl nr : Nat → Int32) (p : Int) (gp : Nat → Int32) {k : Nat} (hk : k = 0) : mj_pw nl nr p gp k := fun j h => absurd h (by omega)
theorem mj_pw_skip {nl nr gp : Nat → Int32} {p : Int} {k k2 : Nat} (h : mj_pw nl nr p gp k) (hn : ¬ mj_has nl nr p k) (e : k2 = k + 1) : mj_pw nl nr p gp k2 ∧ mj_pc nl nr p 0 k2 = mj_pc nl nr p 0 k := by
  subst e
  refine ⟨fun j hj hp => ?_, mj_pc_no hn⟩
  rcases Nat.lt_or_eq_of_le (Nat.le_of_lt_succ hj) with h9 | h9
  · exact h j h9 hp
  · subst h9; exact absurd hp hn
theorem mj_pw_put {nl nr gp : Nat → Int32} {p : Int} {k k2 q : Nat} {x : Int32} (h : mj_pw nl nr p gp k) (hp : mj_has nl nr p k) (e : k2 = k + 1) (eq : q = mj_pc nl nr p 0 k) (ex : x.toInt = (k : Int)) : mj_pw nl nr p (upd gp q x) k2 ∧ mj_pc nl nr p 0 k2 = mj_pc nl nr p 0 k + 1 := by
  subst e; subst eq
  refine ⟨fun j hj hpj => ?_, mj_pc_yes hp⟩
  rcases Nat.lt_or_eq_of_le (Nat.le_of_lt_succ hj) with h9 | h9
  · have h1 := mj_pc_mono nl nr p 0 (j + 1) k (by omega)
    have h2 := mj_pc_yes hpj
    rw [upd_ne (by omega)]
    exact h j h9 hpj
  · subst h9
    rw [upd_at]; exact ex



abbrev cX5_laysParts : ByteArray := prog_7_method_16_code
def yX5_laysParts : MethodName := ⟨RX5, "laysParts", "(II)V"⟩
abbrev cX5_folds : ByteArray := prog_7_method_17_code
def yX5_folds : MethodName := ⟨RX5, "folds", "(IIII)V"⟩
def wsX5_laysParts : List Cond := .code yX5_laysParts cX5_laysParts 5 none :: ([.fieldLink RX5 115 "MajorityIndexModel" "partMany" "I", .fieldLink RX5 101 "MajorityIndexModel" "nodes" "I", .fieldLink RX5 38 "MajorityIndexModel" "nodeL" "[I", .fieldLink RX5 41 "MajorityIndexModel" "nodeR" "[I", .fieldLink RX5 44 "MajorityIndexModel" "part" "[I"] ++ wsX50)
def wsX5_folds_r1 : List Cond := [Cond.fieldLink RX5 44 "MajorityIndexModel" "part" "[I", Cond.fieldLink RX5 115 "MajorityIndexModel" "partMany" "I", Cond.methodLink RX5 118 yX5_laysParts, Cond.instanceMethod yX5_laysParts, Cond.selects RX5 yX5_laysParts yX5_laysParts, Cond.initialized RX5, Cond.code yX5_laysParts cX5_laysParts 5 none, Cond.fieldLink RX5 101 "MajorityIndexModel" "nodes" "I", Cond.fieldLink RX5 38 "MajorityIndexModel" "nodeL" "[I", Cond.fieldLink RX5 41 "MajorityIndexModel" "nodeR" "[I", Cond.methodLink RX5 121 yX5_copies, Cond.instanceMethod yX5_copies, Cond.selects RX5 yX5_copies yX5_copies, Cond.code yX5_copies cX5_copies 4 none, Cond.fieldLink RX5 17 "MajorityIndexModel" "many" "[I", Cond.fieldLink RX5 20 "MajorityIndexModel" "loss" "[I", Cond.fieldLink RX5 23 "MajorityIndexModel" "less" "[I", Cond.fieldLink RX5 26 "MajorityIndexModel" "voteValue" "[I", Cond.fieldLink RX5 29 "MajorityIndexModel" "voteNumber" "[I", Cond.methodLink RX5 111 yX5_together, Cond.instanceMethod yX5_together, Cond.selects RX5 yX5_together yX5_together, Cond.code yX5_together cX5_together 9 none, Cond.fieldLink RX5 87 "MajorityIndexModel" "allMany" "I"]
def wsX5_folds_r2 : List Cond := [Cond.fieldLink RX5 35 "MajorityIndexModel" "allNumber" "[I", Cond.fieldLink RX5 32 "MajorityIndexModel" "allValue" "[I", Cond.methodLink RX5 94 yX5_adds, Cond.instanceMethod yX5_adds, Cond.selects RX5 yX5_adds yX5_adds, Cond.code yX5_adds cX5_adds 4 none, Cond.methodLink RX5 98 yX5_sorts, Cond.instanceMethod yX5_sorts, Cond.selects RX5 yX5_sorts yX5_sorts, Cond.code yX5_sorts cX5_sorts 4 none, Cond.methodLink RX5 90 yX5_isAhead, Cond.instanceMethod yX5_isAhead, Cond.selects RX5 yX5_isAhead yX5_isAhead, Cond.code yX5_isAhead cX5_isAhead 3 (some .boolean)]
def wsX5_folds : List Cond := .code yX5_folds cX5_folds 6 none :: ((wsX5_folds_r1 ++ wsX5_folds_r2) ++ wsX50)
def dt_cX5_laysParts_0 : List (Nat × Nat × Nat × Nat) := [(0, 42, 0, 0), (1, 3, 0, 0), (2, 181, 2, 115), (5, 27, 0, 0), (6, 62, 0, 0), (7, 3, 0, 0), (8, 54, 1, 4), (10, 21, 1, 4), (12, 42, 0, 0), (13, 180, 2, 101), (16, 162, 2, 63), (19, 42, 0, 0), (20, 180, 2, 38), (23, 21, 1, 4), (25, 46, 0, 0), (26, 29, 0, 0), (27, 160, 2, 46), (30, 42, 0, 0), (31, 180, 2, 41), (34, 21, 1, 4)]
theorem da_cX5_laysParts_0 : fw dt_cX5_laysParts_0 0 cX5_laysParts.data.toList = true := by decide +kernel
theorem dX5_laysParts_0 : decode cX5_laysParts 0 = .ok (.aload_n 0, 1) := fo_42 (fw_get da_cX5_laysParts_0 0 rfl)
theorem dX5_laysParts_1 : decode cX5_laysParts 1 = .ok (.iconst 0, 1) := fo_3 (fw_get da_cX5_laysParts_0 1 rfl)
theorem dX5_laysParts_2 : decode cX5_laysParts 2 = .ok (.putfield 115, 3) := fo_181 (fw_get da_cX5_laysParts_0 2 rfl)
theorem dX5_laysParts_5 : decode cX5_laysParts 5 = .ok (.iload_n 1, 1) := fo_27 (fw_get da_cX5_laysParts_0 3 rfl)
theorem dX5_laysParts_6 : decode cX5_laysParts 6 = .ok (.istore_n 3, 1) := fo_62 (fw_get da_cX5_laysParts_0 4 rfl)
theorem dX5_laysParts_7 : decode cX5_laysParts 7 = .ok (.iconst 0, 1) := fo_3 (fw_get da_cX5_laysParts_0 5 rfl)
theorem dX5_laysParts_8 : decode cX5_laysParts 8 = .ok (.istore 4, 2) := fo_54 (fw_get da_cX5_laysParts_0 6 rfl)
theorem dX5_laysParts_10 : decode cX5_laysParts 10 = .ok (.iload 4, 2) := fo_21 (fw_get da_cX5_laysParts_0 7 rfl)
theorem dX5_laysParts_12 : decode cX5_laysParts 12 = .ok (.aload_n 0, 1) := fo_42 (fw_get da_cX5_laysParts_0 8 rfl)
theorem dX5_laysParts_13 : decode cX5_laysParts 13 = .ok (.getfield 101, 3) := fo_180 (fw_get da_cX5_laysParts_0 9 rfl)
theorem dX5_laysParts_16 : decode cX5_laysParts 16 = .ok (.if_icmp .ge 63, 3) := fo_162 (fw_get da_cX5_laysParts_0 10 rfl) (by decide +kernel)
theorem dX5_laysParts_19 : decode cX5_laysParts 19 = .ok (.aload_n 0, 1) := fo_42 (fw_get da_cX5_laysParts_0 11 rfl)
theorem dX5_laysParts_20 : decode cX5_laysParts 20 = .ok (.getfield 38, 3) := fo_180 (fw_get da_cX5_laysParts_0 12 rfl)
theorem dX5_laysParts_23 : decode cX5_laysParts 23 = .ok (.iload 4, 2) := fo_21 (fw_get da_cX5_laysParts_0 13 rfl)
theorem dX5_laysParts_25 : decode cX5_laysParts 25 = .ok (.iaload, 1) := fo_46 (fw_get da_cX5_laysParts_0 14 rfl)
theorem dX5_laysParts_26 : decode cX5_laysParts 26 = .ok (.iload_n 3, 1) := fo_29 (fw_get da_cX5_laysParts_0 15 rfl)
theorem dX5_laysParts_27 : decode cX5_laysParts 27 = .ok (.if_icmp .ne 46, 3) := fo_160 (fw_get da_cX5_laysParts_0 16 rfl) (by decide +kernel)
theorem dX5_laysParts_30 : decode cX5_laysParts 30 = .ok (.aload_n 0, 1) := fo_42 (fw_get da_cX5_laysParts_0 17 rfl)
theorem dX5_laysParts_31 : decode cX5_laysParts 31 = .ok (.getfield 41, 3) := fo_180 (fw_get da_cX5_laysParts_0 18 rfl)
theorem dX5_laysParts_34 : decode cX5_laysParts 34 = .ok (.iload 4, 2) := fo_21 (fw_get da_cX5_laysParts_0 19 rfl)
def dt_cX5_laysParts_1 : List (Nat × Nat × Nat × Nat) := [(36, 46, 0, 0), (37, 28, 0, 0), (38, 164, 2, 6), (41, 167, 2, 32), (44, 42, 0, 0), (45, 180, 2, 44), (48, 42, 0, 0), (49, 180, 2, 115), (52, 21, 1, 4), (54, 79, 0, 0), (55, 42, 0, 0), (56, 89, 0, 0), (57, 180, 2, 115), (60, 4, 0, 0), (61, 96, 0, 0), (62, 181, 2, 115), (65, 42, 0, 0), (66, 180, 2, 41), (69, 21, 1, 4), (71, 46, 0, 0)]
theorem da_cX5_laysParts_1 : fw dt_cX5_laysParts_1 0 cX5_laysParts.data.toList = true := by decide +kernel
theorem dX5_laysParts_36 : decode cX5_laysParts 36 = .ok (.iaload, 1) := fo_46 (fw_get da_cX5_laysParts_1 0 rfl)
theorem dX5_laysParts_37 : decode cX5_laysParts 37 = .ok (.iload_n 2, 1) := fo_28 (fw_get da_cX5_laysParts_1 1 rfl)
theorem dX5_laysParts_38 : decode cX5_laysParts 38 = .ok (.if_icmp .le 6, 3) := fo_164 (fw_get da_cX5_laysParts_1 2 rfl) (by decide +kernel)
theorem dX5_laysParts_41 : decode cX5_laysParts 41 = .ok (.goto 32, 3) := fo_167 (fw_get da_cX5_laysParts_1 3 rfl) (by decide +kernel)
theorem dX5_laysParts_44 : decode cX5_laysParts 44 = .ok (.aload_n 0, 1) := fo_42 (fw_get da_cX5_laysParts_1 4 rfl)
theorem dX5_laysParts_45 : decode cX5_laysParts 45 = .ok (.getfield 44, 3) := fo_180 (fw_get da_cX5_laysParts_1 5 rfl)
theorem dX5_laysParts_48 : decode cX5_laysParts 48 = .ok (.aload_n 0, 1) := fo_42 (fw_get da_cX5_laysParts_1 6 rfl)
theorem dX5_laysParts_49 : decode cX5_laysParts 49 = .ok (.getfield 115, 3) := fo_180 (fw_get da_cX5_laysParts_1 7 rfl)
theorem dX5_laysParts_52 : decode cX5_laysParts 52 = .ok (.iload 4, 2) := fo_21 (fw_get da_cX5_laysParts_1 8 rfl)
theorem dX5_laysParts_54 : decode cX5_laysParts 54 = .ok (.iastore, 1) := fo_79 (fw_get da_cX5_laysParts_1 9 rfl)
theorem dX5_laysParts_55 : decode cX5_laysParts 55 = .ok (.aload_n 0, 1) := fo_42 (fw_get da_cX5_laysParts_1 10 rfl)
theorem dX5_laysParts_56 : decode cX5_laysParts 56 = .ok (.dup, 1) := fo_89 (fw_get da_cX5_laysParts_1 11 rfl)
theorem dX5_laysParts_57 : decode cX5_laysParts 57 = .ok (.getfield 115, 3) := fo_180 (fw_get da_cX5_laysParts_1 12 rfl)
theorem dX5_laysParts_60 : decode cX5_laysParts 60 = .ok (.iconst 1, 1) := fo_4 (fw_get da_cX5_laysParts_1 13 rfl)
theorem dX5_laysParts_61 : decode cX5_laysParts 61 = .ok (.iadd, 1) := fo_96 (fw_get da_cX5_laysParts_1 14 rfl)
theorem dX5_laysParts_62 : decode cX5_laysParts 62 = .ok (.putfield 115, 3) := fo_181 (fw_get da_cX5_laysParts_1 15 rfl)
theorem dX5_laysParts_65 : decode cX5_laysParts 65 = .ok (.aload_n 0, 1) := fo_42 (fw_get da_cX5_laysParts_1 16 rfl)
theorem dX5_laysParts_66 : decode cX5_laysParts 66 = .ok (.getfield 41, 3) := fo_180 (fw_get da_cX5_laysParts_1 17 rfl)
theorem dX5_laysParts_69 : decode cX5_laysParts 69 = .ok (.iload 4, 2) := fo_21 (fw_get da_cX5_laysParts_1 18 rfl)
theorem dX5_laysParts_71 : decode cX5_laysParts 71 = .ok (.iaload, 1) := fo_46 (fw_get da_cX5_laysParts_1 19 rfl)
def dt_cX5_laysParts_2 : List (Nat × Nat × Nat × Nat) := [(72, 62, 0, 0), (73, 132, 2, 1025), (76, 167, 2, 65470), (79, 177, 0, 0)]
theorem da_cX5_laysParts_2 : fw dt_cX5_laysParts_2 0 cX5_laysParts.data.toList = true := by decide +kernel
theorem dX5_laysParts_72 : decode cX5_laysParts 72 = .ok (.istore_n 3, 1) := fo_62 (fw_get da_cX5_laysParts_2 0 rfl)
theorem dX5_laysParts_73 : decode cX5_laysParts 73 = .ok (.iinc 4 1, 3) := fo_132 (fw_get da_cX5_laysParts_2 1 rfl) rfl (by decide +kernel)
theorem dX5_laysParts_76 : decode cX5_laysParts 76 = .ok (.goto (-66), 3) := fo_167 (fw_get da_cX5_laysParts_2 2 rfl) (by decide +kernel)
theorem dX5_laysParts_79 : decode cX5_laysParts 79 = .ok (.return_, 1) := fo_177 (fw_get da_cX5_laysParts_2 3 rfl)
theorem mi_wsX5_folds_wsX5_folds_r1 : ∀ w ∈ wsX5_folds_r1, w ∈ wsX5_folds := fun _ h => (List.mem_cons_of_mem _ (List.mem_append_left _ (List.mem_append_left _ h)))
theorem mi_wsX5_folds_wsX50 : ∀ w ∈ wsX50, w ∈ wsX5_folds := fun _ h => (List.mem_cons_of_mem _ (List.mem_append_right _ h))
set_option maxRecDepth 20000 in
theorem ggX5_folds_X5_laysParts : GoodIn wsX5_folds wsX5_laysParts := goodIn_m _ [(wsX5_folds_r1, [false, false, false, false, false, false, true]), (wsX5_folds_r1, [false, true, false, false, false, false, false, true, true, true]), (wsX5_folds_r1, [true]), (wsX50, [true, true, true, true, true, true, true, true, true, true, true, true, true, true, true, true, true, true, true, true, true, true, true, true, true, true, true, true, true, true])] (gm_c mi_wsX5_folds_wsX5_folds_r1 (gm_c mi_wsX5_folds_wsX5_folds_r1 (gm_c mi_wsX5_folds_wsX5_folds_r1 (gm_c mi_wsX5_folds_wsX50 gm_n)))) rfl (by decide +kernel)
set_option maxRecDepth 20000 in
theorem gX5_folds_X5_laysParts : GoodIn wsX5_folds (wsV RX5 118 RX5 yX5_laysParts wsX5_laysParts) := goodIn_app (goodIn_m _ [(wsX5_folds_r1, [false, false, true, true, true, true])] (gm_c mi_wsX5_folds_wsX5_folds_r1 gm_n) rfl (by decide +kernel)) ggX5_folds_X5_laysParts
set_option maxRecDepth 20000 in
theorem ggX5_folds_X5_copies : GoodIn wsX5_folds wsX5_copies := goodIn_m _ [(wsX5_folds_r1, [false, false, false, false, false, false, false, false, false, false, false, false, false, true, true, true, true, true, true]), (wsX50, [true, true, true, true, true, true, true, true, true, true, true, true, true, true, true, true, true, true, true, true, true, true, true, true, true, true, true, true, true, true])] (gm_c mi_wsX5_folds_wsX5_folds_r1 (gm_c mi_wsX5_folds_wsX50 gm_n)) rfl (by decide +kernel)
set_option maxRecDepth 20000 in
theorem gX5_folds_X5_copies : GoodIn wsX5_folds (wsV RX5 121 RX5 yX5_copies wsX5_copies) := goodIn_app (goodIn_m _ [(wsX5_folds_r1, [false, false, false, false, false, false, false, false, false, false, true, true, true]), (wsX5_folds_r1, [false, false, false, false, false, true])] (gm_c mi_wsX5_folds_wsX5_folds_r1 (gm_c mi_wsX5_folds_wsX5_folds_r1 gm_n)) rfl (by decide +kernel)) ggX5_folds_X5_copies
theorem mi_wsX5_folds_wsX5_folds_r2 : ∀ w ∈ wsX5_folds_r2, w ∈ wsX5_folds := fun _ h => (List.mem_cons_of_mem _ (List.mem_append_left _ (List.mem_append_right _ h)))
set_option maxRecDepth 20000 in
theorem ggX5_folds_X5_together : GoodIn wsX5_folds wsX5_together := goodIn_m _ [(wsX5_folds_r1, [false, false, false, false, false, false, false, false, false, false, false, false, false, false, false, false, false, false, false, false, false, false, true, true]), (wsX5_folds_r1, [false, false, false, false, false, false, false, false, false, false, false, false, false, false, true, false, false, true, true]), (wsX5_folds_r2, [true]), (wsX5_folds_r1, [false, false, false, false, false, false, false, false, false, false, false, false, false, false, false, true]), (wsX5_folds_r2, [false, true]), (wsX5_folds_r1, [false, false, false, false, false, false, false, false, false, false, false, false, false, false, false, false, true]), (wsX5_folds_r2, [false, false, true, true, true]), (wsX5_folds_r1, [false, false, false, false, false, true]), (wsX5_folds_r2, [false, false, false, false, false, true, true, true, true, true, true, true, true, true]), (wsX50, [true, true, true, true, true, true, true, true, true, true, true, true, true, true, true, true, true, true, true, true, true, true, true, true, true, true, true, true, true, true])] (gm_c mi_wsX5_folds_wsX5_folds_r1 (gm_c mi_wsX5_folds_wsX5_folds_r1 (gm_c mi_wsX5_folds_wsX5_folds_r2 (gm_c mi_wsX5_folds_wsX5_folds_r1 (gm_c mi_wsX5_folds_wsX5_folds_r2 (gm_c mi_wsX5_folds_wsX5_folds_r1 (gm_c mi_wsX5_folds_wsX5_folds_r2 (gm_c mi_wsX5_folds_wsX5_folds_r1 (gm_c mi_wsX5_folds_wsX5_folds_r2 (gm_c mi_wsX5_folds_wsX50 gm_n)))))))))) rfl (by decide +kernel)
set_option maxRecDepth 20000 in
theorem gX5_folds_X5_together : GoodIn wsX5_folds (wsV RX5 111 RX5 yX5_together wsX5_together) := goodIn_app (goodIn_m _ [(wsX5_folds_r1, [false, false, false, false, false, false, false, false, false, false, false, false, false, false, false, false, false, false, false, true, true, true]), (wsX5_folds_r1, [false, false, false, false, false, true])] (gm_c mi_wsX5_folds_wsX5_folds_r1 (gm_c mi_wsX5_folds_wsX5_folds_r1 gm_n)) rfl (by decide +kernel)) ggX5_folds_X5_together
def dt_cX5_folds_0 : List (Nat × Nat × Nat × Nat) := [(0, 42, 0, 0), (1, 27, 0, 0), (2, 28, 0, 0), (3, 182, 2, 118), (6, 42, 0, 0), (7, 42, 0, 0), (8, 180, 2, 44), (11, 3, 0, 0), (12, 46, 0, 0), (13, 29, 0, 0), (14, 182, 2, 121), (17, 4, 0, 0), (18, 54, 1, 5), (20, 21, 1, 5), (22, 42, 0, 0), (23, 180, 2, 115), (26, 162, 2, 24), (29, 42, 0, 0), (30, 29, 0, 0), (31, 42, 0, 0)]
theorem da_cX5_folds_0 : fw dt_cX5_folds_0 0 cX5_folds.data.toList = true := by decide +kernel
theorem dX5_folds_0 : decode cX5_folds 0 = .ok (.aload_n 0, 1) := fo_42 (fw_get da_cX5_folds_0 0 rfl)
theorem dX5_folds_1 : decode cX5_folds 1 = .ok (.iload_n 1, 1) := fo_27 (fw_get da_cX5_folds_0 1 rfl)
theorem dX5_folds_2 : decode cX5_folds 2 = .ok (.iload_n 2, 1) := fo_28 (fw_get da_cX5_folds_0 2 rfl)
theorem dX5_folds_3 : decode cX5_folds 3 = .ok (.invokevirtual 118, 3) := fo_182 (fw_get da_cX5_folds_0 3 rfl)
theorem dX5_folds_6 : decode cX5_folds 6 = .ok (.aload_n 0, 1) := fo_42 (fw_get da_cX5_folds_0 4 rfl)
theorem dX5_folds_7 : decode cX5_folds 7 = .ok (.aload_n 0, 1) := fo_42 (fw_get da_cX5_folds_0 5 rfl)
theorem dX5_folds_8 : decode cX5_folds 8 = .ok (.getfield 44, 3) := fo_180 (fw_get da_cX5_folds_0 6 rfl)
theorem dX5_folds_11 : decode cX5_folds 11 = .ok (.iconst 0, 1) := fo_3 (fw_get da_cX5_folds_0 7 rfl)
theorem dX5_folds_12 : decode cX5_folds 12 = .ok (.iaload, 1) := fo_46 (fw_get da_cX5_folds_0 8 rfl)
theorem dX5_folds_13 : decode cX5_folds 13 = .ok (.iload_n 3, 1) := fo_29 (fw_get da_cX5_folds_0 9 rfl)
theorem dX5_folds_14 : decode cX5_folds 14 = .ok (.invokevirtual 121, 3) := fo_182 (fw_get da_cX5_folds_0 10 rfl)
theorem dX5_folds_17 : decode cX5_folds 17 = .ok (.iconst 1, 1) := fo_4 (fw_get da_cX5_folds_0 11 rfl)
theorem dX5_folds_18 : decode cX5_folds 18 = .ok (.istore 5, 2) := fo_54 (fw_get da_cX5_folds_0 12 rfl)
theorem dX5_folds_20 : decode cX5_folds 20 = .ok (.iload 5, 2) := fo_21 (fw_get da_cX5_folds_0 13 rfl)
theorem dX5_folds_22 : decode cX5_folds 22 = .ok (.aload_n 0, 1) := fo_42 (fw_get da_cX5_folds_0 14 rfl)
theorem dX5_folds_23 : decode cX5_folds 23 = .ok (.getfield 115, 3) := fo_180 (fw_get da_cX5_folds_0 15 rfl)
theorem dX5_folds_26 : decode cX5_folds 26 = .ok (.if_icmp .ge 24, 3) := fo_162 (fw_get da_cX5_folds_0 16 rfl) (by decide +kernel)
theorem dX5_folds_29 : decode cX5_folds 29 = .ok (.aload_n 0, 1) := fo_42 (fw_get da_cX5_folds_0 17 rfl)
theorem dX5_folds_30 : decode cX5_folds 30 = .ok (.iload_n 3, 1) := fo_29 (fw_get da_cX5_folds_0 18 rfl)
theorem dX5_folds_31 : decode cX5_folds 31 = .ok (.aload_n 0, 1) := fo_42 (fw_get da_cX5_folds_0 19 rfl)
def dt_cX5_folds_1 : List (Nat × Nat × Nat × Nat) := [(32, 180, 2, 44), (35, 21, 1, 5), (37, 46, 0, 0), (38, 29, 0, 0), (39, 21, 1, 4), (41, 182, 2, 111), (44, 132, 2, 1281), (47, 167, 2, 65509), (50, 177, 0, 0)]
theorem da_cX5_folds_1 : fw dt_cX5_folds_1 0 cX5_folds.data.toList = true := by decide +kernel
theorem dX5_folds_32 : decode cX5_folds 32 = .ok (.getfield 44, 3) := fo_180 (fw_get da_cX5_folds_1 0 rfl)
theorem dX5_folds_35 : decode cX5_folds 35 = .ok (.iload 5, 2) := fo_21 (fw_get da_cX5_folds_1 1 rfl)
theorem dX5_folds_37 : decode cX5_folds 37 = .ok (.iaload, 1) := fo_46 (fw_get da_cX5_folds_1 2 rfl)
theorem dX5_folds_38 : decode cX5_folds 38 = .ok (.iload_n 3, 1) := fo_29 (fw_get da_cX5_folds_1 3 rfl)
theorem dX5_folds_39 : decode cX5_folds 39 = .ok (.iload 4, 2) := fo_21 (fw_get da_cX5_folds_1 4 rfl)
theorem dX5_folds_41 : decode cX5_folds 41 = .ok (.invokevirtual 111, 3) := fo_182 (fw_get da_cX5_folds_1 5 rfl)
theorem dX5_folds_44 : decode cX5_folds 44 = .ok (.iinc 5 1, 3) := fo_132 (fw_get da_cX5_folds_1 6 rfl) rfl (by decide +kernel)
theorem dX5_folds_47 : decode cX5_folds 47 = .ok (.goto (-27), 3) := fo_167 (fw_get da_cX5_folds_1 7 rfl) (by decide +kernel)
theorem dX5_folds_50 : decode cX5_folds 50 = .ok (.return_, 1) := fo_177 (fw_get da_cX5_folds_1 8 rfl)

