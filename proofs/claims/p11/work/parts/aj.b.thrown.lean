theorem vp_updL_at (f : Nat → Int64) (k : Nat) (x : Int64) : vp_updL f k x k = x := by unfold vp_updL; exact if_pos rfl
theorem lg_cmp_self (x : Int64) : lg_cmp x x = 0 := by
  unfold lg_cmp
  rw [if_neg (fun h => absurd (Int64.lt_iff_toInt_lt.mp h) (Int.lt_irrefl _)), if_pos rfl]
set_option maxHeartbeats 4000000 in
set_option maxRecDepth 100000 in
theorem c_X5_thrown (l : Launch) (dC : Nat → ClassId) (dI : Nat → Nat → Nat) (h0 : Nat) (g_row : Nat) (g_many : Nat) (g_loss : Nat) (g_less : Nat) (g_voteValue : Nat) (g_voteNumber : Nat) (g_allValue : Nat) (g_allNumber : Nat) (g_nodeL : Nat) (g_nodeR : Nat) (g_part : Nat) (g_wasMany : Nat) (g_wasLoss : Nat) (g_wasValue : Nat) (g_wasNumber : Nat) (g_path : Nat) (g_heavyValue : Nat) (g_heavyTimes : Nat) (g_fewest : Nat) (g_which : Nat) (g_met : Nat) (m_n : Int32) (m_slots : Int32) (m_thrown : Int32) (m_allMany : Int32) (m_nodes : Int32) (m_partMany : Int32) (m_pathMany : Int32) (m_heavyMany : Int32) (m_mostMet : Int32) : Met l yX5_thrown wsX5_thrown ({ frames := 0, cells := 0, slots := 0, locals := 0 }) (va_Pc [.ref h0] (fun U => va_P (dC, dI) vwCl [(h0, .inr (5, [.ref g_row, .int m_n, .int m_slots, .int m_thrown, .ref g_many, .ref g_loss, .ref g_less, .ref g_voteValue, .ref g_voteNumber, .ref g_allValue, .ref g_allNumber, .int m_allMany, .ref g_nodeL, .ref g_nodeR, .int m_nodes, .ref g_part, .int m_partMany, .ref g_wasMany, .ref g_wasLoss, .ref g_wasValue, .ref g_wasNumber, .ref g_path, .int m_pathMany, .ref g_heavyValue, .ref g_heavyTimes, .int m_heavyMany, .ref g_fewest, .ref g_which, .ref g_met, .int m_mostMet]))] U.heap ∧ va_K (dC, dI) vwCl [] U)) (vp_Si (fun r : Int32 => r.toInt = m_thrown.toInt)) 0 0 (fun _ => False) := by
  refine Met.ofW (cc := cX5_thrown) (maxL := 1) (ret := (some .int)) (by decide) rfl ?_
  intro p e s m args below meth c s₁ B hml hv
  obtain ⟨rfl, hP, hK⟩ := hv
  have hx := B.exec
  have hb := B.bytes
  have hr := B.returns
  have hts := atoms_spec (ws := wsX5_thrown) B.pre
  have hown : s.vm.findClass RX5 = some m.cls := findClass_of_methodNamed B.named
  have hlocks := B.notSynchronized
  have hP : va_P (dC, dI) vwCl [(h0, .inr (5, [.ref g_row, .int m_n, .int m_slots, .int m_thrown, .ref g_many, .ref g_loss, .ref g_less, .ref g_voteValue, .ref g_voteNumber, .ref g_allValue, .ref g_allNumber, .int m_allMany, .ref g_nodeL, .ref g_nodeR, .int m_nodes, .ref g_part, .int m_partMany, .ref g_wasMany, .ref g_wasLoss, .ref g_wasValue, .ref g_wasNumber, .ref g_path, .int m_pathMany, .ref g_heavyValue, .ref g_heavyTimes, .int m_heavyMany, .ref g_fewest, .ref g_which, .ref g_met, .int m_mostMet]))] s.heap := hP
  have hl := lv_entry ([.ref h0]) (n := 1) (Nat.le_of_ble_eq_true rfl)
  rw [lg_entry_eq]
  generalize (lg_sl ([.ref h0]) ++ List.replicate (1 - (lg_sl ([.ref h0])).length) Slot.unset).toArray = ls at hl ⊢
  have hl : lv_has ls 1 [(0, .ref h0)] := hl
  have hf_77 := hts (.fieldLink RX5 77 "MajorityIndexModel" "thrown" "I") (List.mem_of_getElem? (i := 1) rfl)
  have hi_5 : ∀ w ∈ u_ws RX5 TX5 30, w ∈ wsX5_thrown := fun w h => List.mem_cons_of_mem _ (List.mem_append_right _ h)
  refine lv_aload_n hx hb dX5_thrown_0 rfl (lv_at hl 0 rfl) ?_
  refine va_get (D := (dC, dI)) (ci := 5) (v := .int m_thrown) (C := RX5) (T := TX5) (N := 30) hx hb hts hi_5 hown hK hP 0 rfl rfl 3 (by decide) hf_77 (fun _ h9 => h9) rfl dX5_thrown_1 ?_
  exact W.iret (v := m_thrown) hx hb hr (fun t ht hW => ⟨m_thrown, rfl, rfl, ht⟩) (fun q hq => by cases hq) dX5_thrown_4


