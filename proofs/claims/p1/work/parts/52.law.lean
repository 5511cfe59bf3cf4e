set_option maxHeartbeats 4000000 in
set_option maxRecDepth 100000 in
theorem lc_11 {p : Program} {l : Launch} {e : Env} {s : State} {m : MethodId} {below : List Frame} {meth : Method} {c : Code} {dC : Nat → ClassId} {dI : Nat → Nat → Nat} {b : Nat} {xs : Nat → Int32} (hl0 : l.stackTraces = false) (C0 : lw_At p s m meth c b 8 xs) (hth : ki_Th s) {x0 x_row x_tree x_tally x_votes x_otherVotes x_wins x_fewest x_cell x_joined x_from x_to x_size x_lossOf x_lessBy x_tvalue x_tnumber x_kind x_often m0 m_row m_many m_loss m_less m_voteValue m_voteNumber m_allValue m_allNumber m_nodeL m_nodeR m_part m_wasMany m_wasLoss m_wasValue m_wasNumber m_path m_heavyValue m_heavyTimes m_fewest m_which m_met q_o : Nat} {cyI : ClassId} {fc ff ft fm : Nat → Int32} {H : Heap} {locs : List Loc} (hK : va_K (dC, dI) vwCl [(cyI, .int)] s) (hP : va_P (dC, dI) vwCl [(x0, .inr (4, [.ref x_row, .ref x_tree, .ref x_tally, .ref x_votes, .ref x_otherVotes, .ref x_wins, .ref x_fewest, .int 2, .int 1])), (x_row, .inr (0, [.ref x_cell, .int 0])), (x_cell, .inl (cyI, 160, .inl fc)), (x_tree, .inr (2, [.ref x_row, .ref x_joined, .ref x_from, .ref x_to, .ref x_size, .ref x_lossOf, .ref x_lessBy, .ref x_tvalue, .ref x_tnumber, .int 0, .int 0])), (x_from, .inl (cyI, 319, .inl ff)), (x_to, .inl (cyI, 319, .inl ft)), (x_tally, .inr (1, [.ref x_kind, .ref x_often, .int 0, .int 0])), (m0, .inr (5, [.ref m_row, .int 0, .int 2, .int 0, .ref m_many, .ref m_loss, .ref m_less, .ref m_voteValue, .ref m_voteNumber, .ref m_allValue, .ref m_allNumber, .int 0, .ref m_nodeL, .ref m_nodeR, .int 0, .ref m_part, .int 0, .ref m_wasMany, .ref m_wasLoss, .ref m_wasValue, .ref m_wasNumber, .ref m_path, .int 0, .ref m_heavyValue, .ref m_heavyTimes, .int 0, .ref m_fewest, .ref m_which, .ref m_met, .int 0])), (m_row, .inl (cyI, 160, .inl fm))] H) (hD : va_D (fun q : Nat => s.heap.size ≤ q) [(x0, .inr (4, [.ref x_row, .ref x_tree, .ref x_tally, .ref x_votes, .ref x_otherVotes, .ref x_wins, .ref x_fewest, .int 2, .int 1])), (x_row, .inr (0, [.ref x_cell, .int 0])), (x_cell, .inl (cyI, 160, .inl fc)), (x_tree, .inr (2, [.ref x_row, .ref x_joined, .ref x_from, .ref x_to, .ref x_size, .ref x_lossOf, .ref x_lessBy, .ref x_tvalue, .ref x_tnumber, .int 0, .int 0])), (x_from, .inl (cyI, 319, .inl ff)), (x_to, .inl (cyI, 319, .inl ft)), (x_tally, .inr (1, [.ref x_kind, .ref x_often, .int 0, .int 0])), (m0, .inr (5, [.ref m_row, .int 0, .int 2, .int 0, .ref m_many, .ref m_loss, .ref m_less, .ref m_voteValue, .ref m_voteNumber, .ref m_allValue, .ref m_allNumber, .int 0, .ref m_nodeL, .ref m_nodeR, .int 0, .ref m_part, .int 0, .ref m_wasMany, .ref m_wasLoss, .ref m_wasValue, .ref m_wasNumber, .ref m_path, .int 0, .ref m_heavyValue, .ref m_heavyTimes, .int 0, .ref m_fewest, .ref m_which, .ref m_met, .int 0])), (m_row, .inl (cyI, 160, .inl fm))]) (hS : va_S (fun q : Nat => s.heap.size ≤ q) s.heap H locs) {ls : Array Slot} (hl : lv_has ls 7 [(4, .int 0), (3, .ref q_o), (2, .ref m0), (1, .ref x0), (0, .ref b)]) : W p l e room_1 s m #[Value.ref b] below meth c H locs 60 20000 (lw_Z below #[Value.ref b] s) (F0 m 646 ls []) := by
  obtain ⟨hx, hb, hr, hml, hown, hts0, hX, hbl, hlocks, hgv⟩ := id C0
  have hts := hts0
  have hA : ∀ q : Nat, s.heap.size ≤ q → (fun q : Nat => s.heap.size ≤ q) q := fun _ h => h
  have hbA : ¬ (fun q : Nat => s.heap.size ≤ q) b := Nat.not_le.mpr hbl
  have hown : s.vm.findClass RL = some m.cls := hown
  have hb : c.code = cL_law := hb
  refine lv_aload_n hx hb dL_law_646 rfl (lv_at hl 3 rfl) ?_
  refine lv_aload_n hx hb dL_law_647 rfl (lv_at hl 4 rfl) ?_
  refine lv_iload hx hb dL_law_648 (lv_at hl 0 rfl) ?_
  refine lv_iconst (v := 1) hx hb dL_law_650 (by decide) ?_
  refine lv_iadd hx hb dL_law_651 ?_
  refine W.eq (g2 := F0 m 652 ls [.int 1, .ref b, .ref x0]) (by first | rfl | (congr 2; decide)) ?_
  refine va_sld hx hb hX hbl hbA hS (i := 1) (ki_inl (by decide)) dL_law_652 ?_
  refine lv_aload_n hx hb dL_law_653 rfl (lv_at hl 4 rfl) ?_
  refine lv_iload hx hb dL_law_654 (lv_at hl 0 rfl) ?_
  refine lv_iconst (v := 2) hx hb dL_law_656 (by decide) ?_
  refine lv_iadd hx hb dL_law_657 ?_
  refine W.eq (g2 := F0 m 658 ls [.int 2, .ref b, .int (xs (1 : Int32).toNatClampNeg), .ref x0]) (by first | rfl | (congr 2; decide)) ?_
  refine va_sld hx hb hX hbl hbA hS (i := 2) (ki_inl (by decide)) dL_law_658 ?_
  have hPc := hP.sub (ws' := [(x0, .inr (4, [.ref x_row, .ref x_tree, .ref x_tally, .ref x_votes, .ref x_otherVotes, .ref x_wins, .ref x_fewest, .int 2, .int 1])), (x_row, .inr (0, [.ref x_cell, .int 0]))]) [0, 1] rfl
  have hKc := hK.sub (tys' := []) [] rfl
  refine vp_callSi (W.runV (As := [.int (xs (1 : Int32).toNatClampNeg), .int (xs (2 : Int32).toNatClampNeg)]) (rest := []) ⟨hx, hb, hml, hown, (lwC_X4_place hts0)⟩ (c_X4_place l dC dI x0 x_row x_tree x_tally x_votes x_otherVotes x_wins x_fewest x_cell (xs (1 : Int32).toNatClampNeg) (xs (2 : Int32).toNatClampNeg)) (cwV 2 (lwC_X4_place hts0) lwG_X4_place rfl rfl rfl (by decide +kernel) ⟨Nat.le_of_ble_eq_true rfl, Nat.le_of_ble_eq_true rfl⟩) ⟨fun a U g mk q => by obtain ⟨q0, qP, qK⟩ := q; exact ⟨q0, qP, va_K.moved (u := U) (U := U.calling g mk a) (Vm.Alike.refl U.vm) qK⟩, va_recv hKc hPc (ci := 4) (q0 := 0) rfl rfl, fun U hU hW => ⟨rfl, by rw [hU]; exact hPc, va_K.moved hW.alike hKc⟩⟩ rfl rfl hl.1 rfl (lv_room (Nat.le_of_ble_eq_true rfl)) dL_law_659 ⟨Nat.le_of_ble_eq_true rfl, Nat.le_of_ble_eq_true rfl⟩) (fun r_1 w_1 => ?_)
  subst w_1
  refine lv_aload_n hx hb dL_law_662 rfl (lv_at hl 2 rfl) ?_
  refine lv_aload_n hx hb dL_law_663 rfl (lv_at hl 4 rfl) ?_
  refine lv_iload hx hb dL_law_664 (lv_at hl 0 rfl) ?_
  refine lv_iconst (v := 1) hx hb dL_law_666 (by decide) ?_
  refine lv_iadd hx hb dL_law_667 ?_
  refine W.eq (g2 := F0 m 668 ls [.int 1, .ref b, .ref m0, .int (-1)]) (by first | rfl | (congr 2; decide)) ?_
  refine va_sld hx hb hX hbl hbA hS (i := 1) (ki_inl (by decide)) dL_law_668 ?_
  refine lv_aload_n hx hb dL_law_669 rfl (lv_at hl 4 rfl) ?_
  refine lv_iload hx hb dL_law_670 (lv_at hl 0 rfl) ?_
  refine lv_iconst (v := 2) hx hb dL_law_672 (by decide) ?_
  refine lv_iadd hx hb dL_law_673 ?_
  refine W.eq (g2 := F0 m 674 ls [.int 2, .ref b, .int (xs (1 : Int32).toNatClampNeg), .ref m0, .int (-1)]) (by first | rfl | (congr 2; decide)) ?_
  refine va_sld hx hb hX hbl hbA hS (i := 2) (ki_inl (by decide)) dL_law_674 ?_
  have hPc := hP.sub (ws' := [(m0, .inr (5, [.ref m_row, .int 0, .int 2, .int 0, .ref m_many, .ref m_loss, .ref m_less, .ref m_voteValue, .ref m_voteNumber, .ref m_allValue, .ref m_allNumber, .int 0, .ref m_nodeL, .ref m_nodeR, .int 0, .ref m_part, .int 0, .ref m_wasMany, .ref m_wasLoss, .ref m_wasValue, .ref m_wasNumber, .ref m_path, .int 0, .ref m_heavyValue, .ref m_heavyTimes, .int 0, .ref m_fewest, .ref m_which, .ref m_met, .int 0]))]) [7] rfl
  have hKc := hK.sub (tys' := []) [] rfl
  have hDc := hD.sub (ws' := [(m0, .inr (5, [.ref m_row, .int 0, .int 2, .int 0, .ref m_many, .ref m_loss, .ref m_less, .ref m_voteValue, .ref m_voteNumber, .ref m_allValue, .ref m_allNumber, .int 0, .ref m_nodeL, .ref m_nodeR, .int 0, .ref m_part, .int 0, .ref m_wasMany, .ref m_wasLoss, .ref m_wasValue, .ref m_wasNumber, .ref m_path, .int 0, .ref m_heavyValue, .ref m_heavyTimes, .int 0, .ref m_fewest, .ref m_which, .ref m_met, .int 0]))]) [7] (by decide) rfl
  have hFc := va_free (wc := [(m0, .inr (5, [.ref m_row, .int 0, .int 2, .int 0, .ref m_many, .ref m_loss, .ref m_less, .ref m_voteValue, .ref m_voteNumber, .ref m_allValue, .ref m_allNumber, .int 0, .ref m_nodeL, .ref m_nodeR, .int 0, .ref m_part, .int 0, .ref m_wasMany, .ref m_wasLoss, .ref m_wasValue, .ref m_wasNumber, .ref m_path, .int 0, .ref m_heavyValue, .ref m_heavyTimes, .int 0, .ref m_fewest, .ref m_which, .ref m_met, .int 0]))]) hD hS hA [7] rfl
  refine va_calli (va_runV (As := [.int (xs (1 : Int32).toNatClampNeg), .int (xs (2 : Int32).toNatClampNeg)]) (rest := [.int (-1)]) ⟨hx, hb, hml, hown, (lwC_X5_place hts0)⟩ (c_X5_place l dC dI m0 m_row m_many m_loss m_less m_voteValue m_voteNumber m_allValue m_allNumber m_nodeL m_nodeR m_part m_wasMany m_wasLoss m_wasValue m_wasNumber m_path m_heavyValue m_heavyTimes m_fewest m_which m_met (xs (1 : Int32).toNatClampNeg) (xs (2 : Int32).toNatClampNeg) H.size) (cwV 2 (lwC_X5_place hts0) lwG_X5_place rfl rfl rfl (by decide +kernel) ⟨Nat.le_of_ble_eq_true rfl, Nat.le_of_ble_eq_true rfl⟩) ⟨fun a U g mk q => by obtain ⟨q0, q1, qP, qK, qD⟩ := q; exact ⟨q0, q1, qP, va_K.moved (u := U) (U := U.calling g mk a) (Vm.Alike.refl U.vm) qK, qD⟩, va_recv hKc hPc (ci := 5) (q0 := 0) rfl rfl, fun U hU hW => ⟨rfl, by rw [hU], by rw [hU]; exact hPc, va_K.moved hW.alike hKc, hDc.weaken (fun _ _ _ _ => trivial)⟩⟩ rfl rfl hl.1 rfl (lv_room (Nat.le_of_ble_eq_true rfl)) dL_law_675 ⟨Nat.le_of_ble_eq_true rfl, Nat.le_of_ble_eq_true rfl⟩) hS (fun q _ h => hFc q h) hFc (fun r_2 u t H1 locs ht hvm w_2 hB hz1 hk1 hS => ?_)
  obtain ⟨hP1, hK1, hD1⟩ := hB
  rw [ht] at hP1
  have hK1 := va_K.moved hvm.symm hK1
  obtain ⟨hP, hD⟩ := va_join (wr := [(x0, .inr (4, [.ref x_row, .ref x_tree, .ref x_tally, .ref x_votes, .ref x_otherVotes, .ref x_wins, .ref x_fewest, .int 2, .int 1])), (x_row, .inr (0, [.ref x_cell, .int 0])), (x_cell, .inl (cyI, 160, .inl fc)), (x_tree, .inr (2, [.ref x_row, .ref x_joined, .ref x_from, .ref x_to, .ref x_size, .ref x_lossOf, .ref x_lessBy, .ref x_tvalue, .ref x_tnumber, .int 0, .int 0])), (x_from, .inl (cyI, 319, .inl ff)), (x_to, .inl (cyI, 319, .inl ft)), (x_tally, .inr (1, [.ref x_kind, .ref x_often, .int 0, .int 0])), (m_row, .inl (cyI, 160, .inl fm))]) (w1 := []) hP hD [7] [0, 1, 2, 3, 4, 5, 6, 8] rfl rfl (by decide) (by decide) hk1 hFc hP1 hD1
  clear hP1 hD1 hK1 hk1 hz1 hFc hDc hPc hKc
  generalize H1 = H at hP hS ⊢
  have hP : va_P (dC, dI) vwCl [(x0, .inr (4, [.ref x_row, .ref x_tree, .ref x_tally, .ref x_votes, .ref x_otherVotes, .ref x_wins, .ref x_fewest, .int 2, .int 1])), (x_row, .inr (0, [.ref x_cell, .int 0])), (x_cell, .inl (cyI, 160, .inl fc)), (x_tree, .inr (2, [.ref x_row, .ref x_joined, .ref x_from, .ref x_to, .ref x_size, .ref x_lossOf, .ref x_lessBy, .ref x_tvalue, .ref x_tnumber, .int 0, .int 0])), (x_from, .inl (cyI, 319, .inl ff)), (x_to, .inl (cyI, 319, .inl ft)), (x_tally, .inr (1, [.ref x_kind, .ref x_often, .int 0, .int 0])), (m_row, .inl (cyI, 160, .inl fm))] H := hP
  have hD : va_D (fun q : Nat => s.heap.size ≤ q) [(x0, .inr (4, [.ref x_row, .ref x_tree, .ref x_tally, .ref x_votes, .ref x_otherVotes, .ref x_wins, .ref x_fewest, .int 2, .int 1])), (x_row, .inr (0, [.ref x_cell, .int 0])), (x_cell, .inl (cyI, 160, .inl fc)), (x_tree, .inr (2, [.ref x_row, .ref x_joined, .ref x_from, .ref x_to, .ref x_size, .ref x_lossOf, .ref x_lessBy, .ref x_tvalue, .ref x_tnumber, .int 0, .int 0])), (x_from, .inl (cyI, 319, .inl ff)), (x_to, .inl (cyI, 319, .inl ft)), (x_tally, .inr (1, [.ref x_kind, .ref x_often, .int 0, .int 0])), (m_row, .inl (cyI, 160, .inl fm))] := hD
  subst w_2
  refine lv_icmp_eq (tgt := 2400) hx hb dL_law_678 (by decide) (fun c_3 => ?_) (fun c_3 => ?_)
  · refine W.widen (k := 100) (n := 30000) (Nat.le_of_ble_eq_true rfl) (Nat.le_of_ble_eq_true rfl) ?_
    exact lc_end C0 hS (lv_sub hl [0, 4] rfl)
  · exact absurd c_3 (by decide)

set_option maxHeartbeats 4000000 in
set_option maxRecDepth 100000 in
theorem lc_12 {p : Program} {l : Launch} {e : Env} {s : State} {m : MethodId} {below : List Frame} {meth : Method} {c : Code} {dC : Nat → ClassId} {dI : Nat → Nat → Nat} {b : Nat} {xs : Nat → Int32} (hl0 : l.stackTraces = false) (C0 : lw_At p s m meth c b 8 xs) (hth : ki_Th s) {x0 x_row x_tree x_tally x_votes x_otherVotes x_wins x_fewest x_cell x_joined x_from x_to x_size x_lossOf x_lessBy x_tvalue x_tnumber x_kind x_often m0 m_row m_many m_loss m_less m_voteValue m_voteNumber m_allValue m_allNumber m_nodeL m_nodeR m_part m_wasMany m_wasLoss m_wasValue m_wasNumber m_path m_heavyValue m_heavyTimes m_fewest m_which m_met q_o : Nat} {cyI : ClassId} {fc ff ft fm : Nat → Int32} {H : Heap} {locs : List Loc} (hK : va_K (dC, dI) vwCl [(cyI, .int)] s) (hP : va_P (dC, dI) vwCl [(x0, .inr (4, [.ref x_row, .ref x_tree, .ref x_tally, .ref x_votes, .ref x_otherVotes, .ref x_wins, .ref x_fewest, .int 2, .int 1])), (x_row, .inr (0, [.ref x_cell, .int 0])), (x_cell, .inl (cyI, 160, .inl fc)), (x_tree, .inr (2, [.ref x_row, .ref x_joined, .ref x_from, .ref x_to, .ref x_size, .ref x_lossOf, .ref x_lessBy, .ref x_tvalue, .ref x_tnumber, .int 0, .int 0])), (x_from, .inl (cyI, 319, .inl ff)), (x_to, .inl (cyI, 319, .inl ft)), (x_tally, .inr (1, [.ref x_kind, .ref x_often, .int 0, .int 0])), (m0, .inr (5, [.ref m_row, .int 0, .int 2, .int 0, .ref m_many, .ref m_loss, .ref m_less, .ref m_voteValue, .ref m_voteNumber, .ref m_allValue, .ref m_allNumber, .int 0, .ref m_nodeL, .ref m_nodeR, .int 0, .ref m_part, .int 0, .ref m_wasMany, .ref m_wasLoss, .ref m_wasValue, .ref m_wasNumber, .ref m_path, .int 0, .ref m_heavyValue, .ref m_heavyTimes, .int 0, .ref m_fewest, .ref m_which, .ref m_met, .int 0])), (m_row, .inl (cyI, 160, .inl fm))] H) (hD : va_D (fun q : Nat => s.heap.size ≤ q) [(x0, .inr (4, [.ref x_row, .ref x_tree, .ref x_tally, .ref x_votes, .ref x_otherVotes, .ref x_wins, .ref x_fewest, .int 2, .int 1])), (x_row, .inr (0, [.ref x_cell, .int 0])), (x_cell, .inl (cyI, 160, .inl fc)), (x_tree, .inr (2, [.ref x_row, .ref x_joined, .ref x_from, .ref x_to, .ref x_size, .ref x_lossOf, .ref x_lessBy, .ref x_tvalue, .ref x_tnumber, .int 0, .int 0])), (x_from, .inl (cyI, 319, .inl ff)), (x_to, .inl (cyI, 319, .inl ft)), (x_tally, .inr (1, [.ref x_kind, .ref x_often, .int 0, .int 0])), (m0, .inr (5, [.ref m_row, .int 0, .int 2, .int 0, .ref m_many, .ref m_loss, .ref m_less, .ref m_voteValue, .ref m_voteNumber, .ref m_allValue, .ref m_allNumber, .int 0, .ref m_nodeL, .ref m_nodeR, .int 0, .ref m_part, .int 0, .ref m_wasMany, .ref m_wasLoss, .ref m_wasValue, .ref m_wasNumber, .ref m_path, .int 0, .ref m_heavyValue, .ref m_heavyTimes, .int 0, .ref m_fewest, .ref m_which, .ref m_met, .int 0])), (m_row, .inl (cyI, 160, .inl fm))]) (hS : va_S (fun q : Nat => s.heap.size ≤ q) s.heap H locs) {ls : Array Slot} (hl : lv_has ls 7 [(4, .int 0), (3, .ref q_o), (2, .ref m0), (1, .ref x0), (0, .ref b)]) : W p l e room_1 s m #[Value.ref b] below meth c H locs 60 20000 (lw_Z below #[Value.ref b] s) (F0 m 683 ls []) := by
  obtain ⟨hx, hb, hr, hml, hown, hts0, hX, hbl, hlocks, hgv⟩ := id C0
  have hts := hts0
  have hA : ∀ q : Nat, s.heap.size ≤ q → (fun q : Nat => s.heap.size ≤ q) q := fun _ h => h
  have hbA : ¬ (fun q : Nat => s.heap.size ≤ q) b := Nat.not_le.mpr hbl
  have hown : s.vm.findClass RL = some m.cls := hown
  have hb : c.code = cL_law := hb
  refine lv_aload_n hx hb dL_law_683 rfl (lv_at hl 3 rfl) ?_
  have hPc := hP.sub (ws' := [(x0, .inr (4, [.ref x_row, .ref x_tree, .ref x_tally, .ref x_votes, .ref x_otherVotes, .ref x_wins, .ref x_fewest, .int 2, .int 1])), (x_row, .inr (0, [.ref x_cell, .int 0])), (x_tally, .inr (1, [.ref x_kind, .ref x_often, .int 0, .int 0]))]) [0, 1, 6] rfl
  have hKc := hK.sub (tys' := []) [] rfl
  refine vp_callSi (W.runV (As := []) (rest := []) ⟨hx, hb, hml, hown, (lwC_X4_values hts0)⟩ (c_X4_values l dC dI x0 x_row x_tree x_tally x_votes x_otherVotes x_wins x_fewest x_cell x_kind x_often 0 0) (cwV 0 (lwC_X4_values hts0) lwG_X4_values rfl rfl rfl (by decide +kernel) ⟨Nat.le_of_ble_eq_true rfl, Nat.le_of_ble_eq_true rfl⟩) ⟨fun a U g mk q => by obtain ⟨q0, qP, qK⟩ := q; exact ⟨q0, qP, va_K.moved (u := U) (U := U.calling g mk a) (Vm.Alike.refl U.vm) qK⟩, va_recv hKc hPc (ci := 4) (q0 := 0) rfl rfl, fun U hU hW => ⟨rfl, by rw [hU]; exact hPc, va_K.moved hW.alike hKc⟩⟩ rfl rfl hl.1 rfl (lv_room (Nat.le_of_ble_eq_true rfl)) dL_law_684 ⟨Nat.le_of_ble_eq_true rfl, Nat.le_of_ble_eq_true rfl⟩) (fun r_1 w_1 => ?_)
  subst w_1
  refine lv_aload_n hx hb dL_law_687 rfl (lv_at hl 2 rfl) ?_
  have hPc := hP.sub (ws' := [(m0, .inr (5, [.ref m_row, .int 0, .int 2, .int 0, .ref m_many, .ref m_loss, .ref m_less, .ref m_voteValue, .ref m_voteNumber, .ref m_allValue, .ref m_allNumber, .int 0, .ref m_nodeL, .ref m_nodeR, .int 0, .ref m_part, .int 0, .ref m_wasMany, .ref m_wasLoss, .ref m_wasValue, .ref m_wasNumber, .ref m_path, .int 0, .ref m_heavyValue, .ref m_heavyTimes, .int 0, .ref m_fewest, .ref m_which, .ref m_met, .int 0]))]) [7] rfl
  have hKc := hK.sub (tys' := []) [] rfl
  have hDc := hD.sub (ws' := [(m0, .inr (5, [.ref m_row, .int 0, .int 2, .int 0, .ref m_many, .ref m_loss, .ref m_less, .ref m_voteValue, .ref m_voteNumber, .ref m_allValue, .ref m_allNumber, .int 0, .ref m_nodeL, .ref m_nodeR, .int 0, .ref m_part, .int 0, .ref m_wasMany, .ref m_wasLoss, .ref m_wasValue, .ref m_wasNumber, .ref m_path, .int 0, .ref m_heavyValue, .ref m_heavyTimes, .int 0, .ref m_fewest, .ref m_which, .ref m_met, .int 0]))]) [7] (by decide) rfl
  have hFc := va_free (wc := [(m0, .inr (5, [.ref m_row, .int 0, .int 2, .int 0, .ref m_many, .ref m_loss, .ref m_less, .ref m_voteValue, .ref m_voteNumber, .ref m_allValue, .ref m_allNumber, .int 0, .ref m_nodeL, .ref m_nodeR, .int 0, .ref m_part, .int 0, .ref m_wasMany, .ref m_wasLoss, .ref m_wasValue, .ref m_wasNumber, .ref m_path, .int 0, .ref m_heavyValue, .ref m_heavyTimes, .int 0, .ref m_fewest, .ref m_which, .ref m_met, .int 0]))]) hD hS hA [7] rfl
  refine va_calli (va_runV (As := []) (rest := [.int 0]) ⟨hx, hb, hml, hown, (lwC_X5_values hts0)⟩ (c_X5_values l dC dI m0 m_row m_many m_loss m_less m_voteValue m_voteNumber m_allValue m_allNumber m_nodeL m_nodeR m_part m_wasMany m_wasLoss m_wasValue m_wasNumber m_path m_heavyValue m_heavyTimes m_fewest m_which m_met H.size) (cwV 0 (lwC_X5_values hts0) lwG_X5_values rfl rfl rfl (by decide +kernel) ⟨Nat.le_of_ble_eq_true rfl, Nat.le_of_ble_eq_true rfl⟩) ⟨fun a U g mk q => by obtain ⟨q0, q1, qP, qK, qD⟩ := q; exact ⟨q0, q1, qP, va_K.moved (u := U) (U := U.calling g mk a) (Vm.Alike.refl U.vm) qK, qD⟩, va_recv hKc hPc (ci := 5) (q0 := 0) rfl rfl, fun U hU hW => ⟨rfl, by rw [hU], by rw [hU]; exact hPc, va_K.moved hW.alike hKc, hDc.weaken (fun _ _ _ _ => trivial)⟩⟩ rfl rfl hl.1 rfl (lv_room (Nat.le_of_ble_eq_true rfl)) dL_law_688 ⟨Nat.le_of_ble_eq_true rfl, Nat.le_of_ble_eq_true rfl⟩) hS (fun q _ h => hFc q h) hFc (fun r_2 u t H1 locs ht hvm w_2 hB hz1 hk1 hS => ?_)
  obtain ⟨hP1, hK1, hD1⟩ := hB
  rw [ht] at hP1
  have hK1 := va_K.moved hvm.symm hK1
  obtain ⟨hP, hD⟩ := va_join (wr := [(x0, .inr (4, [.ref x_row, .ref x_tree, .ref x_tally, .ref x_votes, .ref x_otherVotes, .ref x_wins, .ref x_fewest, .int 2, .int 1])), (x_row, .inr (0, [.ref x_cell, .int 0])), (x_cell, .inl (cyI, 160, .inl fc)), (x_tree, .inr (2, [.ref x_row, .ref x_joined, .ref x_from, .ref x_to, .ref x_size, .ref x_lossOf, .ref x_lessBy, .ref x_tvalue, .ref x_tnumber, .int 0, .int 0])), (x_from, .inl (cyI, 319, .inl ff)), (x_to, .inl (cyI, 319, .inl ft)), (x_tally, .inr (1, [.ref x_kind, .ref x_often, .int 0, .int 0])), (m_row, .inl (cyI, 160, .inl fm))]) (w1 := []) hP hD [7] [0, 1, 2, 3, 4, 5, 6, 8] rfl rfl (by decide) (by decide) hk1 hFc hP1 hD1
  clear hP1 hD1 hK1 hk1 hz1 hFc hDc hPc hKc
  generalize H1 = H at hP hS ⊢
  have hP : va_P (dC, dI) vwCl [(x0, .inr (4, [.ref x_row, .ref x_tree, .ref x_tally, .ref x_votes, .ref x_otherVotes, .ref x_wins, .ref x_fewest, .int 2, .int 1])), (x_row, .inr (0, [.ref x_cell, .int 0])), (x_cell, .inl (cyI, 160, .inl fc)), (x_tree, .inr (2, [.ref x_row, .ref x_joined, .ref x_from, .ref x_to, .ref x_size, .ref x_lossOf, .ref x_lessBy, .ref x_tvalue, .ref x_tnumber, .int 0, .int 0])), (x_from, .inl (cyI, 319, .inl ff)), (x_to, .inl (cyI, 319, .inl ft)), (x_tally, .inr (1, [.ref x_kind, .ref x_often, .int 0, .int 0])), (m_row, .inl (cyI, 160, .inl fm))] H := hP
  have hD : va_D (fun q : Nat => s.heap.size ≤ q) [(x0, .inr (4, [.ref x_row, .ref x_tree, .ref x_tally, .ref x_votes, .ref x_otherVotes, .ref x_wins, .ref x_fewest, .int 2, .int 1])), (x_row, .inr (0, [.ref x_cell, .int 0])), (x_cell, .inl (cyI, 160, .inl fc)), (x_tree, .inr (2, [.ref x_row, .ref x_joined, .ref x_from, .ref x_to, .ref x_size, .ref x_lossOf, .ref x_lessBy, .ref x_tvalue, .ref x_tnumber, .int 0, .int 0])), (x_from, .inl (cyI, 319, .inl ff)), (x_to, .inl (cyI, 319, .inl ft)), (x_tally, .inr (1, [.ref x_kind, .ref x_often, .int 0, .int 0])), (m_row, .inl (cyI, 160, .inl fm))] := hD
  subst w_2
  refine lv_icmp_eq (tgt := 2400) hx hb dL_law_691 (by decide) (fun c_3 => ?_) (fun c_3 => ?_)
  · refine W.widen (k := 100) (n := 30000) (Nat.le_of_ble_eq_true rfl) (Nat.le_of_ble_eq_true rfl) ?_
    exact lc_end C0 hS (lv_sub hl [0, 4] rfl)
  · exact absurd c_3 (by decide)

set_option maxHeartbeats 4000000 in
set_option maxRecDepth 100000 in
theorem lc_13 {p : Program} {l : Launch} {e : Env} {s : State} {m : MethodId} {below : List Frame} {meth : Method} {c : Code} {dC : Nat → ClassId} {dI : Nat → Nat → Nat} {b : Nat} {xs : Nat → Int32} (hl0 : l.stackTraces = false) (C0 : lw_At p s m meth c b 8 xs) (hth : ki_Th s) {x0 x_row x_tree x_tally x_votes x_otherVotes x_wins x_fewest x_cell x_joined x_from x_to x_size x_lossOf x_lessBy x_tvalue x_tnumber x_kind x_often m0 m_row m_many m_loss m_less m_voteValue m_voteNumber m_allValue m_allNumber m_nodeL m_nodeR m_part m_wasMany m_wasLoss m_wasValue m_wasNumber m_path m_heavyValue m_heavyTimes m_fewest m_which m_met q_o : Nat} {cyI : ClassId} {fc ff ft fm : Nat → Int32} {H : Heap} {locs : List Loc} (hK : va_K (dC, dI) vwCl [(cyI, .int)] s) (hP : va_P (dC, dI) vwCl [(x0, .inr (4, [.ref x_row, .ref x_tree, .ref x_tally, .ref x_votes, .ref x_otherVotes, .ref x_wins, .ref x_fewest, .int 2, .int 1])), (x_row, .inr (0, [.ref x_cell, .int 0])), (x_cell, .inl (cyI, 160, .inl fc)), (x_tree, .inr (2, [.ref x_row, .ref x_joined, .ref x_from, .ref x_to, .ref x_size, .ref x_lossOf, .ref x_lessBy, .ref x_tvalue, .ref x_tnumber, .int 0, .int 0])), (x_from, .inl (cyI, 319, .inl ff)), (x_to, .inl (cyI, 319, .inl ft)), (x_tally, .inr (1, [.ref x_kind, .ref x_often, .int 0, .int 0])), (m0, .inr (5, [.ref m_row, .int 0, .int 2, .int 0, .ref m_many, .ref m_loss, .ref m_less, .ref m_voteValue, .ref m_voteNumber, .ref m_allValue, .ref m_allNumber, .int 0, .ref m_nodeL, .ref m_nodeR, .int 0, .ref m_part, .int 0, .ref m_wasMany, .ref m_wasLoss, .ref m_wasValue, .ref m_wasNumber, .ref m_path, .int 0, .ref m_heavyValue, .ref m_heavyTimes, .int 0, .ref m_fewest, .ref m_which, .ref m_met, .int 0])), (m_row, .inl (cyI, 160, .inl fm))] H) (hD : va_D (fun q : Nat => s.heap.size ≤ q) [(x0, .inr (4, [.ref x_row, .ref x_tree, .ref x_tally, .ref x_votes, .ref x_otherVotes, .ref x_wins, .ref x_fewest, .int 2, .int 1])), (x_row, .inr (0, [.ref x_cell, .int 0])), (x_cell, .inl (cyI, 160, .inl fc)), (x_tree, .inr (2, [.ref x_row, .ref x_joined, .ref x_from, .ref x_to, .ref x_size, .ref x_lossOf, .ref x_lessBy, .ref x_tvalue, .ref x_tnumber, .int 0, .int 0])), (x_from, .inl (cyI, 319, .inl ff)), (x_to, .inl (cyI, 319, .inl ft)), (x_tally, .inr (1, [.ref x_kind, .ref x_often, .int 0, .int 0])), (m0, .inr (5, [.ref m_row, .int 0, .int 2, .int 0, .ref m_many, .ref m_loss, .ref m_less, .ref m_voteValue, .ref m_voteNumber, .ref m_allValue, .ref m_allNumber, .int 0, .ref m_nodeL, .ref m_nodeR, .int 0, .ref m_part, .int 0, .ref m_wasMany, .ref m_wasLoss, .ref m_wasValue, .ref m_wasNumber, .ref m_path, .int 0, .ref m_heavyValue, .ref m_heavyTimes, .int 0, .ref m_fewest, .ref m_which, .ref m_met, .int 0])), (m_row, .inl (cyI, 160, .inl fm))]) (hS : va_S (fun q : Nat => s.heap.size ≤ q) s.heap H locs) {ls : Array Slot} (hl : lv_has ls 7 [(4, .int 0), (3, .ref q_o), (2, .ref m0), (1, .ref x0), (0, .ref b)]) : W p l e room_1 s m #[Value.ref b] below meth c H locs 60 20000 (lw_Z below #[Value.ref b] s) (F0 m 696 ls []) := by
  obtain ⟨hx, hb, hr, hml, hown, hts0, hX, hbl, hlocks, hgv⟩ := id C0
  have hts := hts0
  have hA : ∀ q : Nat, s.heap.size ≤ q → (fun q : Nat => s.heap.size ≤ q) q := fun _ h => h
  have hbA : ¬ (fun q : Nat => s.heap.size ≤ q) b := Nat.not_le.mpr hbl
  have hown : s.vm.findClass RL = some m.cls := hown
  have hb : c.code = cL_law := hb
  refine lv_aload_n hx hb dL_law_696 rfl (lv_at hl 3 rfl) ?_
  refine lv_aload_n hx hb dL_law_697 rfl (lv_at hl 4 rfl) ?_
  refine lv_iload hx hb dL_law_698 (lv_at hl 0 rfl) ?_
  refine lv_iconst (v := 1) hx hb dL_law_700 (by decide) ?_
  refine lv_iadd hx hb dL_law_701 ?_
  refine W.eq (g2 := F0 m 702 ls [.int 1, .ref b, .ref x0]) (by first | rfl | (congr 2; decide)) ?_
  refine va_sld hx hb hX hbl hbA hS (i := 1) (ki_inl (by decide)) dL_law_702 ?_
  refine lv_aload_n hx hb dL_law_703 rfl (lv_at hl 4 rfl) ?_
  refine lv_iload hx hb dL_law_704 (lv_at hl 0 rfl) ?_
  refine lv_iconst (v := 2) hx hb dL_law_706 (by decide) ?_
  refine lv_iadd hx hb dL_law_707 ?_
  refine W.eq (g2 := F0 m 708 ls [.int 2, .ref b, .int (xs (1 : Int32).toNatClampNeg), .ref x0]) (by first | rfl | (congr 2; decide)) ?_
  refine va_sld hx hb hX hbl hbA hS (i := 2) (ki_inl (by decide)) dL_law_708 ?_
  have hPc := hP.sub (ws' := [(x0, .inr (4, [.ref x_row, .ref x_tree, .ref x_tally, .ref x_votes, .ref x_otherVotes, .ref x_wins, .ref x_fewest, .int 2, .int 1])), (x_row, .inr (0, [.ref x_cell, .int 0]))]) [0, 1] rfl
  have hKc := hK.sub (tys' := []) [] rfl
  refine vp_callSi (W.runV (As := [.int (xs (1 : Int32).toNatClampNeg), .int (xs (2 : Int32).toNatClampNeg)]) (rest := []) ⟨hx, hb, hml, hown, (lwC_X4_node hts0)⟩ (c_X4_node l dC dI x0 x_row x_tree x_tally x_votes x_otherVotes x_wins x_fewest x_cell (xs (1 : Int32).toNatClampNeg) (xs (2 : Int32).toNatClampNeg)) (cwV 2 (lwC_X4_node hts0) lwG_X4_node rfl rfl rfl (by decide +kernel) ⟨Nat.le_of_ble_eq_true rfl, Nat.le_of_ble_eq_true rfl⟩) ⟨fun a U g mk q => by obtain ⟨q0, qP, qK⟩ := q; exact ⟨q0, qP, va_K.moved (u := U) (U := U.calling g mk a) (Vm.Alike.refl U.vm) qK⟩, va_recv hKc hPc (ci := 4) (q0 := 0) rfl rfl, fun U hU hW => ⟨rfl, by rw [hU]; exact hPc, va_K.moved hW.alike hKc⟩⟩ rfl rfl hl.1 rfl (lv_room (Nat.le_of_ble_eq_true rfl)) dL_law_709 ⟨Nat.le_of_ble_eq_true rfl, Nat.le_of_ble_eq_true rfl⟩) (fun r_1 w_1 => ?_)
  subst w_1
  refine lv_aload_n hx hb dL_law_712 rfl (lv_at hl 2 rfl) ?_
  refine lv_aload_n hx hb dL_law_713 rfl (lv_at hl 4 rfl) ?_
  refine lv_iload hx hb dL_law_714 (lv_at hl 0 rfl) ?_
  refine lv_iconst (v := 1) hx hb dL_law_716 (by decide) ?_
  refine lv_iadd hx hb dL_law_717 ?_
  refine W.eq (g2 := F0 m 718 ls [.int 1, .ref b, .ref m0, .int (-1)]) (by first | rfl | (congr 2; decide)) ?_
  refine va_sld hx hb hX hbl hbA hS (i := 1) (ki_inl (by decide)) dL_law_718 ?_
  refine lv_aload_n hx hb dL_law_719 rfl (lv_at hl 4 rfl) ?_
  refine lv_iload hx hb dL_law_720 (lv_at hl 0 rfl) ?_
  refine lv_iconst (v := 2) hx hb dL_law_722 (by decide) ?_
  refine lv_iadd hx hb dL_law_723 ?_
  refine W.eq (g2 := F0 m 724 ls [.int 2, .ref b, .int (xs (1 : Int32).toNatClampNeg), .ref m0, .int (-1)]) (by first | rfl | (congr 2; decide)) ?_
  refine va_sld hx hb hX hbl hbA hS (i := 2) (ki_inl (by decide)) dL_law_724 ?_
  have hPc := hP.sub (ws' := [(m0, .inr (5, [.ref m_row, .int 0, .int 2, .int 0, .ref m_many, .ref m_loss, .ref m_less, .ref m_voteValue, .ref m_voteNumber, .ref m_allValue, .ref m_allNumber, .int 0, .ref m_nodeL, .ref m_nodeR, .int 0, .ref m_part, .int 0, .ref m_wasMany, .ref m_wasLoss, .ref m_wasValue, .ref m_wasNumber, .ref m_path, .int 0, .ref m_heavyValue, .ref m_heavyTimes, .int 0, .ref m_fewest, .ref m_which, .ref m_met, .int 0]))]) [7] rfl
  have hKc := hK.sub (tys' := []) [] rfl
  have hDc := hD.sub (ws' := [(m0, .inr (5, [.ref m_row, .int 0, .int 2, .int 0, .ref m_many, .ref m_loss, .ref m_less, .ref m_voteValue, .ref m_voteNumber, .ref m_allValue, .ref m_allNumber, .int 0, .ref m_nodeL, .ref m_nodeR, .int 0, .ref m_part, .int 0, .ref m_wasMany, .ref m_wasLoss, .ref m_wasValue, .ref m_wasNumber, .ref m_path, .int 0, .ref m_heavyValue, .ref m_heavyTimes, .int 0, .ref m_fewest, .ref m_which, .ref m_met, .int 0]))]) [7] (by decide) rfl
  have hFc := va_free (wc := [(m0, .inr (5, [.ref m_row, .int 0, .int 2, .int 0, .ref m_many, .ref m_loss, .ref m_less, .ref m_voteValue, .ref m_voteNumber, .ref m_allValue, .ref m_allNumber, .int 0, .ref m_nodeL, .ref m_nodeR, .int 0, .ref m_part, .int 0, .ref m_wasMany, .ref m_wasLoss, .ref m_wasValue, .ref m_wasNumber, .ref m_path, .int 0, .ref m_heavyValue, .ref m_heavyTimes, .int 0, .ref m_fewest, .ref m_which, .ref m_met, .int 0]))]) hD hS hA [7] rfl
  refine va_calli (va_runV (As := [.int (xs (1 : Int32).toNatClampNeg), .int (xs (2 : Int32).toNatClampNeg)]) (rest := [.int (-1)]) ⟨hx, hb, hml, hown, (lwC_X5_node hts0)⟩ (c_X5_node l dC dI m0 m_row m_many m_loss m_less m_voteValue m_voteNumber m_allValue m_allNumber m_nodeL m_nodeR m_part m_wasMany m_wasLoss m_wasValue m_wasNumber m_path m_heavyValue m_heavyTimes m_fewest m_which m_met (xs (1 : Int32).toNatClampNeg) (xs (2 : Int32).toNatClampNeg) H.size) (cwV 2 (lwC_X5_node hts0) lwG_X5_node rfl rfl rfl (by decide +kernel) ⟨Nat.le_of_ble_eq_true rfl, Nat.le_of_ble_eq_true rfl⟩) ⟨fun a U g mk q => by obtain ⟨q0, q1, qP, qK, qD⟩ := q; exact ⟨q0, q1, qP, va_K.moved (u := U) (U := U.calling g mk a) (Vm.Alike.refl U.vm) qK, qD⟩, va_recv hKc hPc (ci := 5) (q0 := 0) rfl rfl, fun U hU hW => ⟨rfl, by rw [hU], by rw [hU]; exact hPc, va_K.moved hW.alike hKc, hDc.weaken (fun _ _ _ _ => trivial)⟩⟩ rfl rfl hl.1 rfl (lv_room (Nat.le_of_ble_eq_true rfl)) dL_law_725 ⟨Nat.le_of_ble_eq_true rfl, Nat.le_of_ble_eq_true rfl⟩) hS (fun q _ h => hFc q h) hFc (fun r_2 u t H1 locs ht hvm w_2 hB hz1 hk1 hS => ?_)
  obtain ⟨hP1, hK1, hD1⟩ := hB
  rw [ht] at hP1
  have hK1 := va_K.moved hvm.symm hK1
  obtain ⟨hP, hD⟩ := va_join (wr := [(x0, .inr (4, [.ref x_row, .ref x_tree, .ref x_tally, .ref x_votes, .ref x_otherVotes, .ref x_wins, .ref x_fewest, .int 2, .int 1])), (x_row, .inr (0, [.ref x_cell, .int 0])), (x_cell, .inl (cyI, 160, .inl fc)), (x_tree, .inr (2, [.ref x_row, .ref x_joined, .ref x_from, .ref x_to, .ref x_size, .ref x_lossOf, .ref x_lessBy, .ref x_tvalue, .ref x_tnumber, .int 0, .int 0])), (x_from, .inl (cyI, 319, .inl ff)), (x_to, .inl (cyI, 319, .inl ft)), (x_tally, .inr (1, [.ref x_kind, .ref x_often, .int 0, .int 0])), (m_row, .inl (cyI, 160, .inl fm))]) (w1 := []) hP hD [7] [0, 1, 2, 3, 4, 5, 6, 8] rfl rfl (by decide) (by decide) hk1 hFc hP1 hD1
  clear hP1 hD1 hK1 hk1 hz1 hFc hDc hPc hKc
  generalize H1 = H at hP hS ⊢
  have hP : va_P (dC, dI) vwCl [(x0, .inr (4, [.ref x_row, .ref x_tree, .ref x_tally, .ref x_votes, .ref x_otherVotes, .ref x_wins, .ref x_fewest, .int 2, .int 1])), (x_row, .inr (0, [.ref x_cell, .int 0])), (x_cell, .inl (cyI, 160, .inl fc)), (x_tree, .inr (2, [.ref x_row, .ref x_joined, .ref x_from, .ref x_to, .ref x_size, .ref x_lossOf, .ref x_lessBy, .ref x_tvalue, .ref x_tnumber, .int 0, .int 0])), (x_from, .inl (cyI, 319, .inl ff)), (x_to, .inl (cyI, 319, .inl ft)), (x_tally, .inr (1, [.ref x_kind, .ref x_often, .int 0, .int 0])), (m_row, .inl (cyI, 160, .inl fm))] H := hP
  have hD : va_D (fun q : Nat => s.heap.size ≤ q) [(x0, .inr (4, [.ref x_row, .ref x_tree, .ref x_tally, .ref x_votes, .ref x_otherVotes, .ref x_wins, .ref x_fewest, .int 2, .int 1])), (x_row, .inr (0, [.ref x_cell, .int 0])), (x_cell, .inl (cyI, 160, .inl fc)), (x_tree, .inr (2, [.ref x_row, .ref x_joined, .ref x_from, .ref x_to, .ref x_size, .ref x_lossOf, .ref x_lessBy, .ref x_tvalue, .ref x_tnumber, .int 0, .int 0])), (x_from, .inl (cyI, 319, .inl ff)), (x_to, .inl (cyI, 319, .inl ft)), (x_tally, .inr (1, [.ref x_kind, .ref x_often, .int 0, .int 0])), (m_row, .inl (cyI, 160, .inl fm))] := hD
  subst w_2
  refine lv_icmp_eq (tgt := 2400) hx hb dL_law_728 (by decide) (fun c_3 => ?_) (fun c_3 => ?_)
  · refine W.widen (k := 100) (n := 30000) (Nat.le_of_ble_eq_true rfl) (Nat.le_of_ble_eq_true rfl) ?_
    exact lc_end C0 hS (lv_sub hl [0, 4] rfl)
  · exact absurd c_3 (by decide)

set_option maxHeartbeats 4000000 in
set_option maxRecDepth 100000 in
theorem lc_14 {p : Program} {l : Launch} {e : Env} {s : State} {m : MethodId} {below : List Frame} {meth : Method} {c : Code} {dC : Nat → ClassId} {dI : Nat → Nat → Nat} {b : Nat} {xs : Nat → Int32} (hl0 : l.stackTraces = false) (C0 : lw_At p s m meth c b 8 xs) (hth : ki_Th s) {x0 x_row x_tree x_tally x_votes x_otherVotes x_wins x_fewest x_cell x_joined x_from x_to x_size x_lossOf x_lessBy x_tvalue x_tnumber x_kind x_often m0 m_row m_many m_loss m_less m_voteValue m_voteNumber m_allValue m_allNumber m_nodeL m_nodeR m_part m_wasMany m_wasLoss m_wasValue m_wasNumber m_path m_heavyValue m_heavyTimes m_fewest m_which m_met q_o : Nat} {cyI : ClassId} {fc ff ft fm : Nat → Int32} {H : Heap} {locs : List Loc} (hK : va_K (dC, dI) vwCl [(cyI, .int)] s) (hP : va_P (dC, dI) vwCl [(x0, .inr (4, [.ref x_row, .ref x_tree, .ref x_tally, .ref x_votes, .ref x_otherVotes, .ref x_wins, .ref x_fewest, .int 2, .int 1])), (x_row, .inr (0, [.ref x_cell, .int 0])), (x_cell, .inl (cyI, 160, .inl fc)), (x_tree, .inr (2, [.ref x_row, .ref x_joined, .ref x_from, .ref x_to, .ref x_size, .ref x_lossOf, .ref x_lessBy, .ref x_tvalue, .ref x_tnumber, .int 0, .int 0])), (x_from, .inl (cyI, 319, .inl ff)), (x_to, .inl (cyI, 319, .inl ft)), (x_tally, .inr (1, [.ref x_kind, .ref x_often, .int 0, .int 0])), (m0, .inr (5, [.ref m_row, .int 0, .int 2, .int 0, .ref m_many, .ref m_loss, .ref m_less, .ref m_voteValue, .ref m_voteNumber, .ref m_allValue, .ref m_allNumber, .int 0, .ref m_nodeL, .ref m_nodeR, .int 0, .ref m_part, .int 0, .ref m_wasMany, .ref m_wasLoss, .ref m_wasValue, .ref m_wasNumber, .ref m_path, .int 0, .ref m_heavyValue, .ref m_heavyTimes, .int 0, .ref m_fewest, .ref m_which, .ref m_met, .int 0])), (m_row, .inl (cyI, 160, .inl fm))] H) (hD : va_D (fun q : Nat => s.heap.size ≤ q) [(x0, .inr (4, [.ref x_row, .ref x_tree, .ref x_tally, .ref x_votes, .ref x_otherVotes, .ref x_wins, .ref x_fewest, .int 2, .int 1])), (x_row, .inr (0, [.ref x_cell, .int 0])), (x_cell, .inl (cyI, 160, .inl fc)), (x_tree, .inr (2, [.ref x_row, .ref x_joined, .ref x_from, .ref x_to, .ref x_size, .ref x_lossOf, .ref x_lessBy, .ref x_tvalue, .ref x_tnumber, .int 0, .int 0])), (x_from, .inl (cyI, 319, .inl ff)), (x_to, .inl (cyI, 319, .inl ft)), (x_tally, .inr (1, [.ref x_kind, .ref x_often, .int 0, .int 0])), (m0, .inr (5, [.ref m_row, .int 0, .int 2, .int 0, .ref m_many, .ref m_loss, .ref m_less, .ref m_voteValue, .ref m_voteNumber, .ref m_allValue, .ref m_allNumber, .int 0, .ref m_nodeL, .ref m_nodeR, .int 0, .ref m_part, .int 0, .ref m_wasMany, .ref m_wasLoss, .ref m_wasValue, .ref m_wasNumber, .ref m_path, .int 0, .ref m_heavyValue, .ref m_heavyTimes, .int 0, .ref m_fewest, .ref m_which, .ref m_met, .int 0])), (m_row, .inl (cyI, 160, .inl fm))]) (hS : va_S (fun q : Nat => s.heap.size ≤ q) s.heap H locs) {ls : Array Slot} (hl : lv_has ls 7 [(4, .int 0), (3, .ref q_o), (2, .ref m0), (1, .ref x0), (0, .ref b)]) : W p l e room_1 s m #[Value.ref b] below meth c H locs 60 20000 (lw_Z below #[Value.ref b] s) (F0 m 733 ls []) := by
  obtain ⟨hx, hb, hr, hml, hown, hts0, hX, hbl, hlocks, hgv⟩ := id C0
  have hts := hts0
  have hA : ∀ q : Nat, s.heap.size ≤ q → (fun q : Nat => s.heap.size ≤ q) q := fun _ h => h
  have hbA : ¬ (fun q : Nat => s.heap.size ≤ q) b := Nat.not_le.mpr hbl
  have hown : s.vm.findClass RL = some m.cls := hown
  have hb : c.code = cL_law := hb
  refine lv_aload_n hx hb dL_law_733 rfl (lv_at hl 3 rfl) ?_
  refine lv_aload_n hx hb dL_law_734 rfl (lv_at hl 4 rfl) ?_
  refine lv_iload hx hb dL_law_735 (lv_at hl 0 rfl) ?_
  refine lv_iconst (v := 1) hx hb dL_law_737 (by decide) ?_
  refine lv_iadd hx hb dL_law_738 ?_
  refine W.eq (g2 := F0 m 739 ls [.int 1, .ref b, .ref x0]) (by first | rfl | (congr 2; decide)) ?_
  refine va_sld hx hb hX hbl hbA hS (i := 1) (ki_inl (by decide)) dL_law_739 ?_
  refine lv_aload_n hx hb dL_law_740 rfl (lv_at hl 4 rfl) ?_
  refine lv_iload hx hb dL_law_741 (lv_at hl 0 rfl) ?_
  refine lv_iconst (v := 2) hx hb dL_law_743 (by decide) ?_
  refine lv_iadd hx hb dL_law_744 ?_
  refine W.eq (g2 := F0 m 745 ls [.int 2, .ref b, .int (xs (1 : Int32).toNatClampNeg), .ref x0]) (by first | rfl | (congr 2; decide)) ?_
  refine va_sld hx hb hX hbl hbA hS (i := 2) (ki_inl (by decide)) dL_law_745 ?_
  refine lv_aload_n hx hb dL_law_746 rfl (lv_at hl 4 rfl) ?_
  refine lv_iload hx hb dL_law_747 (lv_at hl 0 rfl) ?_
  refine lv_iconst (v := 3) hx hb dL_law_749 (by decide) ?_
  refine lv_iadd hx hb dL_law_750 ?_
  refine W.eq (g2 := F0 m 751 ls [.int 3, .ref b, .int (xs (2 : Int32).toNatClampNeg), .int (xs (1 : Int32).toNatClampNeg), .ref x0]) (by first | rfl | (congr 2; decide)) ?_
  refine va_sld hx hb hX hbl hbA hS (i := 3) (ki_inl (by decide)) dL_law_751 ?_
  refine lv_aload_n hx hb dL_law_752 rfl (lv_at hl 4 rfl) ?_
  refine lv_iload hx hb dL_law_753 (lv_at hl 0 rfl) ?_
  refine lv_iconst (v := 4) hx hb dL_law_755 (by decide) ?_
  refine lv_iadd hx hb dL_law_756 ?_
  refine W.eq (g2 := F0 m 757 ls [.int 4, .ref b, .int (xs (3 : Int32).toNatClampNeg), .int (xs (2 : Int32).toNatClampNeg), .int (xs (1 : Int32).toNatClampNeg), .ref x0]) (by first | rfl | (congr 2; decide)) ?_
  refine va_sld hx hb hX hbl hbA hS (i := 4) (ki_inl (by decide)) dL_law_757 ?_
  refine lv_aload_n hx hb dL_law_758 rfl (lv_at hl 1 rfl) ?_
  have hPc := hP.sub (ws' := [(x0, .inr (4, [.ref x_row, .ref x_tree, .ref x_tally, .ref x_votes, .ref x_otherVotes, .ref x_wins, .ref x_fewest, .int 2, .int 1])), (x_row, .inr (0, [.ref x_cell, .int 0]))]) [0, 1] rfl
  have hKc := hK.sub (tys' := []) [] rfl
  refine va_calli (vx_runSW (As := [.ref x0, .int (xs (1 : Int32).toNatClampNeg), .int (xs (2 : Int32).toNatClampNeg), .int (xs (3 : Int32).toNatClampNeg), .int (xs (4 : Int32).toNatClampNeg), .ref q_o]) (rest := []) ⟨hx, hb, hml, hown, (lwC_L_vote hts0)⟩ (c_L_vote l hl0 dC dI x0 x_row x_tree x_tally x_votes x_otherVotes x_wins x_fewest x_cell (xs (1 : Int32).toNatClampNeg) (xs (2 : Int32).toNatClampNeg) (xs (3 : Int32).toNatClampNeg) (xs (4 : Int32).toNatClampNeg) q_o) (vx_cwSW 6 (lwC_L_vote hts0) lwG_L_vote rfl rfl rfl (by decide +kernel) ⟨Nat.le_of_ble_eq_true rfl, Nat.le_of_ble_eq_true rfl⟩) ⟨fun a U g mk q => by obtain ⟨q0, qP, qK, qT⟩ := q; exact ⟨q0, qP, va_K.moved (u := U) (U := U.calling g mk a) (Vm.Alike.refl U.vm) qK, qT.call g mk a⟩, fun U hU hW => ⟨rfl, by rw [hU]; exact hPc, va_K.moved hW.alike hKc, hth.from hS hU hW⟩⟩ rfl rfl hl.1 rfl (lv_room (Nat.le_of_ble_eq_true rfl)) dL_law_759 ⟨Nat.le_of_ble_eq_true rfl, Nat.le_of_ble_eq_true rfl⟩) hS (fun q _ h => h.elim) (fun q h => h.elim) (fun r_1 u t H1 locs ht hvm w_1 hB hz1 hk1 hS => ?_)
  have hP := hP.kept (H1 := H1) (fun k x hx => hk1 x.1 ((hP k x hx).lt) (fun h => h))
  clear hPc hKc hk1 hz1
  generalize H1 = H at hP hS ⊢
  have hP : va_P (dC, dI) vwCl [(x0, .inr (4, [.ref x_row, .ref x_tree, .ref x_tally, .ref x_votes, .ref x_otherVotes, .ref x_wins, .ref x_fewest, .int 2, .int 1])), (x_row, .inr (0, [.ref x_cell, .int 0])), (x_cell, .inl (cyI, 160, .inl fc)), (x_tree, .inr (2, [.ref x_row, .ref x_joined, .ref x_from, .ref x_to, .ref x_size, .ref x_lossOf, .ref x_lessBy, .ref x_tvalue, .ref x_tnumber, .int 0, .int 0])), (x_from, .inl (cyI, 319, .inl ff)), (x_to, .inl (cyI, 319, .inl ft)), (x_tally, .inr (1, [.ref x_kind, .ref x_often, .int 0, .int 0])), (m0, .inr (5, [.ref m_row, .int 0, .int 2, .int 0, .ref m_many, .ref m_loss, .ref m_less, .ref m_voteValue, .ref m_voteNumber, .ref m_allValue, .ref m_allNumber, .int 0, .ref m_nodeL, .ref m_nodeR, .int 0, .ref m_part, .int 0, .ref m_wasMany, .ref m_wasLoss, .ref m_wasValue, .ref m_wasNumber, .ref m_path, .int 0, .ref m_heavyValue, .ref m_heavyTimes, .int 0, .ref m_fewest, .ref m_which, .ref m_met, .int 0])), (m_row, .inl (cyI, 160, .inl fm))] H := hP
  have hD : va_D (fun q : Nat => s.heap.size ≤ q) [(x0, .inr (4, [.ref x_row, .ref x_tree, .ref x_tally, .ref x_votes, .ref x_otherVotes, .ref x_wins, .ref x_fewest, .int 2, .int 1])), (x_row, .inr (0, [.ref x_cell, .int 0])), (x_cell, .inl (cyI, 160, .inl fc)), (x_tree, .inr (2, [.ref x_row, .ref x_joined, .ref x_from, .ref x_to, .ref x_size, .ref x_lossOf, .ref x_lessBy, .ref x_tvalue, .ref x_tnumber, .int 0, .int 0])), (x_from, .inl (cyI, 319, .inl ff)), (x_to, .inl (cyI, 319, .inl ft)), (x_tally, .inr (1, [.ref x_kind, .ref x_often, .int 0, .int 0])), (m0, .inr (5, [.ref m_row, .int 0, .int 2, .int 0, .ref m_many, .ref m_loss, .ref m_less, .ref m_voteValue, .ref m_voteNumber, .ref m_allValue, .ref m_allNumber, .int 0, .ref m_nodeL, .ref m_nodeR, .int 0, .ref m_part, .int 0, .ref m_wasMany, .ref m_wasLoss, .ref m_wasValue, .ref m_wasNumber, .ref m_path, .int 0, .ref m_heavyValue, .ref m_heavyTimes, .int 0, .ref m_fewest, .ref m_which, .ref m_met, .int 0])), (m_row, .inl (cyI, 160, .inl fm))] := hD
  refine W.widen (k := 61) (n := 20006) (Nat.le_of_ble_eq_true rfl) (Nat.le_of_ble_eq_true rfl) ?_
  subst w_1
  refine lv_istore (lv' := [(5, .int 1), (4, .int 0), (3, .ref q_o), (2, .ref m0), (1, .ref x0), (0, .ref b)]) hx hb dL_law_762 hl (by decide) rfl (fun ls hl => ?_)
  refine lv_aload_n hx hb dL_law_764 rfl (lv_at hl 3 rfl) ?_
  refine lv_aload_n hx hb dL_law_765 rfl (lv_at hl 5 rfl) ?_
  refine lv_iload hx hb dL_law_766 (lv_at hl 1 rfl) ?_
  refine lv_iconst (v := 1) hx hb dL_law_768 (by decide) ?_
  refine lv_iadd hx hb dL_law_769 ?_
  refine W.eq (g2 := F0 m 770 ls [.int 1, .ref b, .ref m0]) (by first | rfl | (congr 2; decide)) ?_
  refine va_sld hx hb hX hbl hbA hS (i := 1) (ki_inl (by decide)) dL_law_770 ?_
  refine lv_aload_n hx hb dL_law_771 rfl (lv_at hl 5 rfl) ?_
  refine lv_iload hx hb dL_law_772 (lv_at hl 1 rfl) ?_
  refine lv_iconst (v := 2) hx hb dL_law_774 (by decide) ?_
  refine lv_iadd hx hb dL_law_775 ?_
  refine W.eq (g2 := F0 m 776 ls [.int 2, .ref b, .int (xs (1 : Int32).toNatClampNeg), .ref m0]) (by first | rfl | (congr 2; decide)) ?_
  refine va_sld hx hb hX hbl hbA hS (i := 2) (ki_inl (by decide)) dL_law_776 ?_
  refine lv_aload_n hx hb dL_law_777 rfl (lv_at hl 5 rfl) ?_
  refine lv_iload hx hb dL_law_778 (lv_at hl 1 rfl) ?_
  refine lv_iconst (v := 3) hx hb dL_law_780 (by decide) ?_
  refine lv_iadd hx hb dL_law_781 ?_
  refine W.eq (g2 := F0 m 782 ls [.int 3, .ref b, .int (xs (2 : Int32).toNatClampNeg), .int (xs (1 : Int32).toNatClampNeg), .ref m0]) (by first | rfl | (congr 2; decide)) ?_
  refine va_sld hx hb hX hbl hbA hS (i := 3) (ki_inl (by decide)) dL_law_782 ?_
  refine lv_aload_n hx hb dL_law_783 rfl (lv_at hl 5 rfl) ?_
  refine lv_iload hx hb dL_law_784 (lv_at hl 1 rfl) ?_
  refine lv_iconst (v := 4) hx hb dL_law_786 (by decide) ?_
  refine lv_iadd hx hb dL_law_787 ?_
  refine W.eq (g2 := F0 m 788 ls [.int 4, .ref b, .int (xs (3 : Int32).toNatClampNeg), .int (xs (2 : Int32).toNatClampNeg), .int (xs (1 : Int32).toNatClampNeg), .ref m0]) (by first | rfl | (congr 2; decide)) ?_
  refine va_sld hx hb hX hbl hbA hS (i := 4) (ki_inl (by decide)) dL_law_788 ?_
  have hPc := hP.sub (ws' := [(m0, .inr (5, [.ref m_row, .int 0, .int 2, .int 0, .ref m_many, .ref m_loss, .ref m_less, .ref m_voteValue, .ref m_voteNumber, .ref m_allValue, .ref m_allNumber, .int 0, .ref m_nodeL, .ref m_nodeR, .int 0, .ref m_part, .int 0, .ref m_wasMany, .ref m_wasLoss, .ref m_wasValue, .ref m_wasNumber, .ref m_path, .int 0, .ref m_heavyValue, .ref m_heavyTimes, .int 0, .ref m_fewest, .ref m_which, .ref m_met, .int 0]))]) [7] rfl
  have hKc := hK.sub (tys' := []) [] rfl
  have hDc := hD.sub (ws' := [(m0, .inr (5, [.ref m_row, .int 0, .int 2, .int 0, .ref m_many, .ref m_loss, .ref m_less, .ref m_voteValue, .ref m_voteNumber, .ref m_allValue, .ref m_allNumber, .int 0, .ref m_nodeL, .ref m_nodeR, .int 0, .ref m_part, .int 0, .ref m_wasMany, .ref m_wasLoss, .ref m_wasValue, .ref m_wasNumber, .ref m_path, .int 0, .ref m_heavyValue, .ref m_heavyTimes, .int 0, .ref m_fewest, .ref m_which, .ref m_met, .int 0]))]) [7] (by decide) rfl
  have hFc := va_free (wc := [(m0, .inr (5, [.ref m_row, .int 0, .int 2, .int 0, .ref m_many, .ref m_loss, .ref m_less, .ref m_voteValue, .ref m_voteNumber, .ref m_allValue, .ref m_allNumber, .int 0, .ref m_nodeL, .ref m_nodeR, .int 0, .ref m_part, .int 0, .ref m_wasMany, .ref m_wasLoss, .ref m_wasValue, .ref m_wasNumber, .ref m_path, .int 0, .ref m_heavyValue, .ref m_heavyTimes, .int 0, .ref m_fewest, .ref m_which, .ref m_met, .int 0]))]) hD hS hA [7] rfl
  refine va_calli (va_runV (As := [.int (xs (1 : Int32).toNatClampNeg), .int (xs (2 : Int32).toNatClampNeg), .int (xs (3 : Int32).toNatClampNeg), .int (xs (4 : Int32).toNatClampNeg)]) (rest := []) ⟨hx, hb, hml, hown, (lwC_X5_vote hts0)⟩ (c_X5_vote l dC dI m0 m_row m_many m_loss m_less m_voteValue m_voteNumber m_allValue m_allNumber m_nodeL m_nodeR m_part m_wasMany m_wasLoss m_wasValue m_wasNumber m_path m_heavyValue m_heavyTimes m_fewest m_which m_met (xs (1 : Int32).toNatClampNeg) (xs (2 : Int32).toNatClampNeg) (xs (3 : Int32).toNatClampNeg) (xs (4 : Int32).toNatClampNeg) H.size) (cwV 4 (lwC_X5_vote hts0) lwG_X5_vote rfl rfl rfl (by decide +kernel) ⟨Nat.le_of_ble_eq_true rfl, Nat.le_of_ble_eq_true rfl⟩) ⟨fun a U g mk q => by obtain ⟨q0, q1, qP, qK, qD⟩ := q; exact ⟨q0, q1, qP, va_K.moved (u := U) (U := U.calling g mk a) (Vm.Alike.refl U.vm) qK, qD⟩, va_recv hKc hPc (ci := 5) (q0 := 0) rfl rfl, fun U hU hW => ⟨rfl, by rw [hU], by rw [hU]; exact hPc, va_K.moved hW.alike hKc, hDc.weaken (fun _ _ _ _ => trivial)⟩⟩ rfl rfl hl.1 rfl (lv_room (Nat.le_of_ble_eq_true rfl)) dL_law_789 ⟨Nat.le_of_ble_eq_true rfl, Nat.le_of_ble_eq_true rfl⟩) hS (fun q _ h => hFc q h) hFc (fun r_2 u t H1 locs ht hvm w_2 hB hz1 hk1 hS => ?_)
  obtain ⟨hP1, hK1, hD1⟩ := hB
  rw [ht] at hP1
  have hK1 := va_K.moved hvm.symm hK1
  obtain ⟨hP, hD⟩ := va_join (wr := [(x0, .inr (4, [.ref x_row, .ref x_tree, .ref x_tally, .ref x_votes, .ref x_otherVotes, .ref x_wins, .ref x_fewest, .int 2, .int 1])), (x_row, .inr (0, [.ref x_cell, .int 0])), (x_cell, .inl (cyI, 160, .inl fc)), (x_tree, .inr (2, [.ref x_row, .ref x_joined, .ref x_from, .ref x_to, .ref x_size, .ref x_lossOf, .ref x_lessBy, .ref x_tvalue, .ref x_tnumber, .int 0, .int 0])), (x_from, .inl (cyI, 319, .inl ff)), (x_to, .inl (cyI, 319, .inl ft)), (x_tally, .inr (1, [.ref x_kind, .ref x_often, .int 0, .int 0])), (m_row, .inl (cyI, 160, .inl fm))]) (w1 := [(m0, .inr (5, [.ref m_row, .int 0, .int 2, .int 1, .ref m_many, .ref m_loss, .ref m_less, .ref m_voteValue, .ref m_voteNumber, .ref m_allValue, .ref m_allNumber, .int 0, .ref m_nodeL, .ref m_nodeR, .int 0, .ref m_part, .int 0, .ref m_wasMany, .ref m_wasLoss, .ref m_wasValue, .ref m_wasNumber, .ref m_path, .int 0, .ref m_heavyValue, .ref m_heavyTimes, .int 0, .ref m_fewest, .ref m_which, .ref m_met, .int 0]))]) hP hD [7] [0, 1, 2, 3, 4, 5, 6, 8] rfl rfl (by decide) (by decide) hk1 hFc hP1 hD1
  clear hP1 hD1 hK1 hk1 hz1 hFc hDc hPc hKc
  generalize H1 = H at hP hS ⊢
  have hP : va_P (dC, dI) vwCl [(x0, .inr (4, [.ref x_row, .ref x_tree, .ref x_tally, .ref x_votes, .ref x_otherVotes, .ref x_wins, .ref x_fewest, .int 2, .int 1])), (x_row, .inr (0, [.ref x_cell, .int 0])), (x_cell, .inl (cyI, 160, .inl fc)), (x_tree, .inr (2, [.ref x_row, .ref x_joined, .ref x_from, .ref x_to, .ref x_size, .ref x_lossOf, .ref x_lessBy, .ref x_tvalue, .ref x_tnumber, .int 0, .int 0])), (x_from, .inl (cyI, 319, .inl ff)), (x_to, .inl (cyI, 319, .inl ft)), (x_tally, .inr (1, [.ref x_kind, .ref x_often, .int 0, .int 0])), (m_row, .inl (cyI, 160, .inl fm)), (m0, .inr (5, [.ref m_row, .int 0, .int 2, .int 1, .ref m_many, .ref m_loss, .ref m_less, .ref m_voteValue, .ref m_voteNumber, .ref m_allValue, .ref m_allNumber, .int 0, .ref m_nodeL, .ref m_nodeR, .int 0, .ref m_part, .int 0, .ref m_wasMany, .ref m_wasLoss, .ref m_wasValue, .ref m_wasNumber, .ref m_path, .int 0, .ref m_heavyValue, .ref m_heavyTimes, .int 0, .ref m_fewest, .ref m_which, .ref m_met, .int 0]))] H := hP
  have hD : va_D (fun q : Nat => s.heap.size ≤ q) [(x0, .inr (4, [.ref x_row, .ref x_tree, .ref x_tally, .ref x_votes, .ref x_otherVotes, .ref x_wins, .ref x_fewest, .int 2, .int 1])), (x_row, .inr (0, [.ref x_cell, .int 0])), (x_cell, .inl (cyI, 160, .inl fc)), (x_tree, .inr (2, [.ref x_row, .ref x_joined, .ref x_from, .ref x_to, .ref x_size, .ref x_lossOf, .ref x_lessBy, .ref x_tvalue, .ref x_tnumber, .int 0, .int 0])), (x_from, .inl (cyI, 319, .inl ff)), (x_to, .inl (cyI, 319, .inl ft)), (x_tally, .inr (1, [.ref x_kind, .ref x_often, .int 0, .int 0])), (m_row, .inl (cyI, 160, .inl fm)), (m0, .inr (5, [.ref m_row, .int 0, .int 2, .int 1, .ref m_many, .ref m_loss, .ref m_less, .ref m_voteValue, .ref m_voteNumber, .ref m_allValue, .ref m_allNumber, .int 0, .ref m_nodeL, .ref m_nodeR, .int 0, .ref m_part, .int 0, .ref m_wasMany, .ref m_wasLoss, .ref m_wasValue, .ref m_wasNumber, .ref m_path, .int 0, .ref m_heavyValue, .ref m_heavyTimes, .int 0, .ref m_fewest, .ref m_which, .ref m_met, .int 0]))] := hD
  subst w_2
  refine lv_istore (lv' := [(6, .int 0), (5, .int 1), (4, .int 0), (3, .ref q_o), (2, .ref m0), (1, .ref x0), (0, .ref b)]) hx hb dL_law_792 hl (by decide) rfl (fun ls hl => ?_)
  refine lv_aload_n hx hb dL_law_794 rfl (lv_at hl 4 rfl) ?_
  have hPc := hP.sub (ws' := [(m0, .inr (5, [.ref m_row, .int 0, .int 2, .int 1, .ref m_many, .ref m_loss, .ref m_less, .ref m_voteValue, .ref m_voteNumber, .ref m_allValue, .ref m_allNumber, .int 0, .ref m_nodeL, .ref m_nodeR, .int 0, .ref m_part, .int 0, .ref m_wasMany, .ref m_wasLoss, .ref m_wasValue, .ref m_wasNumber, .ref m_path, .int 0, .ref m_heavyValue, .ref m_heavyTimes, .int 0, .ref m_fewest, .ref m_which, .ref m_met, .int 0]))]) [8] rfl
  have hKc := hK.sub (tys' := []) [] rfl
  refine vp_callSi (W.runV (As := []) (rest := []) ⟨hx, hb, hml, hown, (lwC_X5_thrown hts0)⟩ (c_X5_thrown l dC dI m0 m_row m_many m_loss m_less m_voteValue m_voteNumber m_allValue m_allNumber m_nodeL m_nodeR m_part m_wasMany m_wasLoss m_wasValue m_wasNumber m_path m_heavyValue m_heavyTimes m_fewest m_which m_met 1) (cwV 0 (lwC_X5_thrown hts0) lwG_X5_thrown rfl rfl rfl (by decide +kernel) ⟨Nat.le_of_ble_eq_true rfl, Nat.le_of_ble_eq_true rfl⟩) ⟨fun a U g mk q => by obtain ⟨q0, qP, qK⟩ := q; exact ⟨q0, qP, va_K.moved (u := U) (U := U.calling g mk a) (Vm.Alike.refl U.vm) qK⟩, va_recv hKc hPc (ci := 5) (q0 := 0) rfl rfl, fun U hU hW => ⟨rfl, by rw [hU]; exact hPc, va_K.moved hW.alike hKc⟩⟩ rfl rfl hl.1 rfl (lv_room (Nat.le_of_ble_eq_true rfl)) dL_law_795 ⟨Nat.le_of_ble_eq_true rfl, Nat.le_of_ble_eq_true rfl⟩) (fun r_3 w_3 => ?_)
  subst w_3
  refine lv_iload hx hb dL_law_798 (lv_at hl 1 rfl) ?_
  refine lv_icmp_eq (tgt := 805) hx hb dL_law_800 (by decide) (fun c_4 => ?_) (fun c_4 => ?_)
  · refine lv_iload hx hb dL_law_805 (lv_at hl 1 rfl) ?_
    refine lv_if_ne (tgt := 822) hx hb dL_law_807 (by decide) (fun c_5 => ?_) (fun c_5 => ?_)
    · refine lv_goto (tgt := 2400) hx hb dL_law_822 (by decide) ?_
      refine W.widen (k := 100) (n := 30000) (Nat.le_of_ble_eq_true rfl) (Nat.le_of_ble_eq_true rfl) ?_
      exact lc_end C0 hS (lv_sub hl [2, 6] rfl)
    · exact absurd c_5 (by decide)
  · exact absurd c_4 (by decide)

set_option maxHeartbeats 4000000 in
set_option maxRecDepth 100000 in
theorem lc_15 {p : Program} {l : Launch} {e : Env} {s : State} {m : MethodId} {below : List Frame} {meth : Method} {c : Code} {dC : Nat → ClassId} {dI : Nat → Nat → Nat} {b : Nat} {xs : Nat → Int32} (hl0 : l.stackTraces = false) (C0 : lw_At p s m meth c b 8 xs) (hth : ki_Th s) {x0 x_row x_tree x_tally x_votes x_otherVotes x_wins x_fewest x_cell x_joined x_from x_to x_size x_lossOf x_lessBy x_tvalue x_tnumber x_kind x_often m0 m_row m_many m_loss m_less m_voteValue m_voteNumber m_allValue m_allNumber m_nodeL m_nodeR m_part m_wasMany m_wasLoss m_wasValue m_wasNumber m_path m_heavyValue m_heavyTimes m_fewest m_which m_met q_o : Nat} {cyI : ClassId} {fc ff ft fm : Nat → Int32} {H : Heap} {locs : List Loc} (hK : va_K (dC, dI) vwCl [(cyI, .int)] s) (hP : va_P (dC, dI) vwCl [(x0, .inr (4, [.ref x_row, .ref x_tree, .ref x_tally, .ref x_votes, .ref x_otherVotes, .ref x_wins, .ref x_fewest, .int 2, .int 1])), (x_row, .inr (0, [.ref x_cell, .int 0])), (x_cell, .inl (cyI, 160, .inl fc)), (x_tree, .inr (2, [.ref x_row, .ref x_joined, .ref x_from, .ref x_to, .ref x_size, .ref x_lossOf, .ref x_lessBy, .ref x_tvalue, .ref x_tnumber, .int 0, .int 0])), (x_from, .inl (cyI, 319, .inl ff)), (x_to, .inl (cyI, 319, .inl ft)), (x_tally, .inr (1, [.ref x_kind, .ref x_often, .int 0, .int 0])), (m0, .inr (5, [.ref m_row, .int 0, .int 2, .int 0, .ref m_many, .ref m_loss, .ref m_less, .ref m_voteValue, .ref m_voteNumber, .ref m_allValue, .ref m_allNumber, .int 0, .ref m_nodeL, .ref m_nodeR, .int 0, .ref m_part, .int 0, .ref m_wasMany, .ref m_wasLoss, .ref m_wasValue, .ref m_wasNumber, .ref m_path, .int 0, .ref m_heavyValue, .ref m_heavyTimes, .int 0, .ref m_fewest, .ref m_which, .ref m_met, .int 0])), (m_row, .inl (cyI, 160, .inl fm))] H) (hD : va_D (fun q : Nat => s.heap.size ≤ q) [(x0, .inr (4, [.ref x_row, .ref x_tree, .ref x_tally, .ref x_votes, .ref x_otherVotes, .ref x_wins, .ref x_fewest, .int 2, .int 1])), (x_row, .inr (0, [.ref x_cell, .int 0])), (x_cell, .inl (cyI, 160, .inl fc)), (x_tree, .inr (2, [.ref x_row, .ref x_joined, .ref x_from, .ref x_to, .ref x_size, .ref x_lossOf, .ref x_lessBy, .ref x_tvalue, .ref x_tnumber, .int 0, .int 0])), (x_from, .inl (cyI, 319, .inl ff)), (x_to, .inl (cyI, 319, .inl ft)), (x_tally, .inr (1, [.ref x_kind, .ref x_often, .int 0, .int 0])), (m0, .inr (5, [.ref m_row, .int 0, .int 2, .int 0, .ref m_many, .ref m_loss, .ref m_less, .ref m_voteValue, .ref m_voteNumber, .ref m_allValue, .ref m_allNumber, .int 0, .ref m_nodeL, .ref m_nodeR, .int 0, .ref m_part, .int 0, .ref m_wasMany, .ref m_wasLoss, .ref m_wasValue, .ref m_wasNumber, .ref m_path, .int 0, .ref m_heavyValue, .ref m_heavyTimes, .int 0, .ref m_fewest, .ref m_which, .ref m_met, .int 0])), (m_row, .inl (cyI, 160, .inl fm))]) (hS : va_S (fun q : Nat => s.heap.size ≤ q) s.heap H locs) {ls : Array Slot} (hl : lv_has ls 7 [(4, .int 0), (3, .ref q_o), (2, .ref m0), (1, .ref x0), (0, .ref b)]) : W p l e room_1 s m #[Value.ref b] below meth c H locs 60 20000 (lw_Z below #[Value.ref b] s) (F0 m 825 ls []) := by
  obtain ⟨hx, hb, hr, hml, hown, hts0, hX, hbl, hlocks, hgv⟩ := id C0
  have hts := hts0
  have hA : ∀ q : Nat, s.heap.size ≤ q → (fun q : Nat => s.heap.size ≤ q) q := fun _ h => h
  have hbA : ¬ (fun q : Nat => s.heap.size ≤ q) b := Nat.not_le.mpr hbl
  have hown : s.vm.findClass RL = some m.cls := hown
  have hb : c.code = cL_law := hb
  refine lv_aload_n hx hb dL_law_825 rfl (lv_at hl 3 rfl) ?_
  refine lv_aload_n hx hb dL_law_826 rfl (lv_at hl 4 rfl) ?_
  refine lv_iload hx hb dL_law_827 (lv_at hl 0 rfl) ?_
  refine lv_iconst (v := 1) hx hb dL_law_829 (by decide) ?_
  refine lv_iadd hx hb dL_law_830 ?_
  refine W.eq (g2 := F0 m 831 ls [.int 1, .ref b, .ref x0]) (by first | rfl | (congr 2; decide)) ?_
  refine va_sld hx hb hX hbl hbA hS (i := 1) (ki_inl (by decide)) dL_law_831 ?_
  refine lv_aload_n hx hb dL_law_832 rfl (lv_at hl 4 rfl) ?_
  refine lv_iload hx hb dL_law_833 (lv_at hl 0 rfl) ?_
  refine lv_iconst (v := 2) hx hb dL_law_835 (by decide) ?_
  refine lv_iadd hx hb dL_law_836 ?_
  refine W.eq (g2 := F0 m 837 ls [.int 2, .ref b, .int (xs (1 : Int32).toNatClampNeg), .ref x0]) (by first | rfl | (congr 2; decide)) ?_
  refine va_sld hx hb hX hbl hbA hS (i := 2) (ki_inl (by decide)) dL_law_837 ?_
  have hPc := hP.sub (ws' := [(x0, .inr (4, [.ref x_row, .ref x_tree, .ref x_tally, .ref x_votes, .ref x_otherVotes, .ref x_wins, .ref x_fewest, .int 2, .int 1])), (x_row, .inr (0, [.ref x_cell, .int 0]))]) [0, 1] rfl
  have hKc := hK.sub (tys' := []) [] rfl
  refine vp_callSi (W.runV (As := [.int (xs (1 : Int32).toNatClampNeg), .int (xs (2 : Int32).toNatClampNeg)]) (rest := []) ⟨hx, hb, hml, hown, (lwC_X4_loss hts0)⟩ (c_X4_loss l dC dI x0 x_row x_tree x_tally x_votes x_otherVotes x_wins x_fewest x_cell (xs (1 : Int32).toNatClampNeg) (xs (2 : Int32).toNatClampNeg)) (cwV 2 (lwC_X4_loss hts0) lwG_X4_loss rfl rfl rfl (by decide +kernel) ⟨Nat.le_of_ble_eq_true rfl, Nat.le_of_ble_eq_true rfl⟩) ⟨fun a U g mk q => by obtain ⟨q0, qP, qK⟩ := q; exact ⟨q0, qP, va_K.moved (u := U) (U := U.calling g mk a) (Vm.Alike.refl U.vm) qK⟩, va_recv hKc hPc (ci := 4) (q0 := 0) rfl rfl, fun U hU hW => ⟨rfl, by rw [hU]; exact hPc, va_K.moved hW.alike hKc⟩⟩ rfl rfl hl.1 rfl (lv_room (Nat.le_of_ble_eq_true rfl)) dL_law_838 ⟨Nat.le_of_ble_eq_true rfl, Nat.le_of_ble_eq_true rfl⟩) (fun r_1 w_1 => ?_)
  subst w_1
  refine lv_aload_n hx hb dL_law_841 rfl (lv_at hl 2 rfl) ?_
  refine lv_aload_n hx hb dL_law_842 rfl (lv_at hl 4 rfl) ?_
  refine lv_iload hx hb dL_law_843 (lv_at hl 0 rfl) ?_
  refine lv_iconst (v := 1) hx hb dL_law_845 (by decide) ?_
  refine lv_iadd hx hb dL_law_846 ?_
  refine W.eq (g2 := F0 m 847 ls [.int 1, .ref b, .ref m0, .int (-1)]) (by first | rfl | (congr 2; decide)) ?_
  refine va_sld hx hb hX hbl hbA hS (i := 1) (ki_inl (by decide)) dL_law_847 ?_
  refine lv_aload_n hx hb dL_law_848 rfl (lv_at hl 4 rfl) ?_
  refine lv_iload hx hb dL_law_849 (lv_at hl 0 rfl) ?_
  refine lv_iconst (v := 2) hx hb dL_law_851 (by decide) ?_
  refine lv_iadd hx hb dL_law_852 ?_
  refine W.eq (g2 := F0 m 853 ls [.int 2, .ref b, .int (xs (1 : Int32).toNatClampNeg), .ref m0, .int (-1)]) (by first | rfl | (congr 2; decide)) ?_
  refine va_sld hx hb hX hbl hbA hS (i := 2) (ki_inl (by decide)) dL_law_853 ?_
  have hPc := hP.sub (ws' := [(m0, .inr (5, [.ref m_row, .int 0, .int 2, .int 0, .ref m_many, .ref m_loss, .ref m_less, .ref m_voteValue, .ref m_voteNumber, .ref m_allValue, .ref m_allNumber, .int 0, .ref m_nodeL, .ref m_nodeR, .int 0, .ref m_part, .int 0, .ref m_wasMany, .ref m_wasLoss, .ref m_wasValue, .ref m_wasNumber, .ref m_path, .int 0, .ref m_heavyValue, .ref m_heavyTimes, .int 0, .ref m_fewest, .ref m_which, .ref m_met, .int 0]))]) [7] rfl
  have hKc := hK.sub (tys' := []) [] rfl
  have hDc := hD.sub (ws' := [(m0, .inr (5, [.ref m_row, .int 0, .int 2, .int 0, .ref m_many, .ref m_loss, .ref m_less, .ref m_voteValue, .ref m_voteNumber, .ref m_allValue, .ref m_allNumber, .int 0, .ref m_nodeL, .ref m_nodeR, .int 0, .ref m_part, .int 0, .ref m_wasMany, .ref m_wasLoss, .ref m_wasValue, .ref m_wasNumber, .ref m_path, .int 0, .ref m_heavyValue, .ref m_heavyTimes, .int 0, .ref m_fewest, .ref m_which, .ref m_met, .int 0]))]) [7] (by decide) rfl
  have hFc := va_free (wc := [(m0, .inr (5, [.ref m_row, .int 0, .int 2, .int 0, .ref m_many, .ref m_loss, .ref m_less, .ref m_voteValue, .ref m_voteNumber, .ref m_allValue, .ref m_allNumber, .int 0, .ref m_nodeL, .ref m_nodeR, .int 0, .ref m_part, .int 0, .ref m_wasMany, .ref m_wasLoss, .ref m_wasValue, .ref m_wasNumber, .ref m_path, .int 0, .ref m_heavyValue, .ref m_heavyTimes, .int 0, .ref m_fewest, .ref m_which, .ref m_met, .int 0]))]) hD hS hA [7] rfl
  refine va_calli (va_runV (As := [.int (xs (1 : Int32).toNatClampNeg), .int (xs (2 : Int32).toNatClampNeg)]) (rest := [.int (-1)]) ⟨hx, hb, hml, hown, (lwC_X5_loss hts0)⟩ (c_X5_loss l dC dI m0 m_row m_many m_loss m_less m_voteValue m_voteNumber m_allValue m_allNumber m_nodeL m_nodeR m_part m_wasMany m_wasLoss m_wasValue m_wasNumber m_path m_heavyValue m_heavyTimes m_fewest m_which m_met (xs (1 : Int32).toNatClampNeg) (xs (2 : Int32).toNatClampNeg) H.size) (cwV 2 (lwC_X5_loss hts0) lwG_X5_loss rfl rfl rfl (by decide +kernel) ⟨Nat.le_of_ble_eq_true rfl, Nat.le_of_ble_eq_true rfl⟩) ⟨fun a U g mk q => by obtain ⟨q0, q1, qP, qK, qD⟩ := q; exact ⟨q0, q1, qP, va_K.moved (u := U) (U := U.calling g mk a) (Vm.Alike.refl U.vm) qK, qD⟩, va_recv hKc hPc (ci := 5) (q0 := 0) rfl rfl, fun U hU hW => ⟨rfl, by rw [hU], by rw [hU]; exact hPc, va_K.moved hW.alike hKc, hDc.weaken (fun _ _ _ _ => trivial)⟩⟩ rfl rfl hl.1 rfl (lv_room (Nat.le_of_ble_eq_true rfl)) dL_law_854 ⟨Nat.le_of_ble_eq_true rfl, Nat.le_of_ble_eq_true rfl⟩) hS (fun q _ h => hFc q h) hFc (fun r_2 u t H1 locs ht hvm w_2 hB hz1 hk1 hS => ?_)
  obtain ⟨hP1, hK1, hD1⟩ := hB
  rw [ht] at hP1
  have hK1 := va_K.moved hvm.symm hK1
  obtain ⟨hP, hD⟩ := va_join (wr := [(x0, .inr (4, [.ref x_row, .ref x_tree, .ref x_tally, .ref x_votes, .ref x_otherVotes, .ref x_wins, .ref x_fewest, .int 2, .int 1])), (x_row, .inr (0, [.ref x_cell, .int 0])), (x_cell, .inl (cyI, 160, .inl fc)), (x_tree, .inr (2, [.ref x_row, .ref x_joined, .ref x_from, .ref x_to, .ref x_size, .ref x_lossOf, .ref x_lessBy, .ref x_tvalue, .ref x_tnumber, .int 0, .int 0])), (x_from, .inl (cyI, 319, .inl ff)), (x_to, .inl (cyI, 319, .inl ft)), (x_tally, .inr (1, [.ref x_kind, .ref x_often, .int 0, .int 0])), (m_row, .inl (cyI, 160, .inl fm))]) (w1 := []) hP hD [7] [0, 1, 2, 3, 4, 5, 6, 8] rfl rfl (by decide) (by decide) hk1 hFc hP1 hD1
  clear hP1 hD1 hK1 hk1 hz1 hFc hDc hPc hKc
  generalize H1 = H at hP hS ⊢
  have hP : va_P (dC, dI) vwCl [(x0, .inr (4, [.ref x_row, .ref x_tree, .ref x_tally, .ref x_votes, .ref x_otherVotes, .ref x_wins, .ref x_fewest, .int 2, .int 1])), (x_row, .inr (0, [.ref x_cell, .int 0])), (x_cell, .inl (cyI, 160, .inl fc)), (x_tree, .inr (2, [.ref x_row, .ref x_joined, .ref x_from, .ref x_to, .ref x_size, .ref x_lossOf, .ref x_lessBy, .ref x_tvalue, .ref x_tnumber, .int 0, .int 0])), (x_from, .inl (cyI, 319, .inl ff)), (x_to, .inl (cyI, 319, .inl ft)), (x_tally, .inr (1, [.ref x_kind, .ref x_often, .int 0, .int 0])), (m_row, .inl (cyI, 160, .inl fm))] H := hP
  have hD : va_D (fun q : Nat => s.heap.size ≤ q) [(x0, .inr (4, [.ref x_row, .ref x_tree, .ref x_tally, .ref x_votes, .ref x_otherVotes, .ref x_wins, .ref x_fewest, .int 2, .int 1])), (x_row, .inr (0, [.ref x_cell, .int 0])), (x_cell, .inl (cyI, 160, .inl fc)), (x_tree, .inr (2, [.ref x_row, .ref x_joined, .ref x_from, .ref x_to, .ref x_size, .ref x_lossOf, .ref x_lessBy, .ref x_tvalue, .ref x_tnumber, .int 0, .int 0])), (x_from, .inl (cyI, 319, .inl ff)), (x_to, .inl (cyI, 319, .inl ft)), (x_tally, .inr (1, [.ref x_kind, .ref x_often, .int 0, .int 0])), (m_row, .inl (cyI, 160, .inl fm))] := hD
  subst w_2
  refine lv_icmp_eq (tgt := 2400) hx hb dL_law_857 (by decide) (fun c_3 => ?_) (fun c_3 => ?_)
  · refine W.widen (k := 100) (n := 30000) (Nat.le_of_ble_eq_true rfl) (Nat.le_of_ble_eq_true rfl) ?_
    exact lc_end C0 hS (lv_sub hl [0, 4] rfl)
  · exact absurd c_3 (by decide)

set_option maxHeartbeats 4000000 in
set_option maxRecDepth 100000 in
theorem lc_16 {p : Program} {l : Launch} {e : Env} {s : State} {m : MethodId} {below : List Frame} {meth : Method} {c : Code} {dC : Nat → ClassId} {dI : Nat → Nat → Nat} {b : Nat} {xs : Nat → Int32} (hl0 : l.stackTraces = false) (C0 : lw_At p s m meth c b 8 xs) (hth : ki_Th s) {x0 x_row x_tree x_tally x_votes x_otherVotes x_wins x_fewest x_cell x_joined x_from x_to x_size x_lossOf x_lessBy x_tvalue x_tnumber x_kind x_often m0 m_row m_many m_loss m_less m_voteValue m_voteNumber m_allValue m_allNumber m_nodeL m_nodeR m_part m_wasMany m_wasLoss m_wasValue m_wasNumber m_path m_heavyValue m_heavyTimes m_fewest m_which m_met q_o : Nat} {cyI : ClassId} {fc ff ft fm : Nat → Int32} {H : Heap} {locs : List Loc} (hK : va_K (dC, dI) vwCl [(cyI, .int)] s) (hP : va_P (dC, dI) vwCl [(x0, .inr (4, [.ref x_row, .ref x_tree, .ref x_tally, .ref x_votes, .ref x_otherVotes, .ref x_wins, .ref x_fewest, .int 2, .int 1])), (x_row, .inr (0, [.ref x_cell, .int 0])), (x_cell, .inl (cyI, 160, .inl fc)), (x_tree, .inr (2, [.ref x_row, .ref x_joined, .ref x_from, .ref x_to, .ref x_size, .ref x_lossOf, .ref x_lessBy, .ref x_tvalue, .ref x_tnumber, .int 0, .int 0])), (x_from, .inl (cyI, 319, .inl ff)), (x_to, .inl (cyI, 319, .inl ft)), (x_tally, .inr (1, [.ref x_kind, .ref x_often, .int 0, .int 0])), (m0, .inr (5, [.ref m_row, .int 0, .int 2, .int 0, .ref m_many, .ref m_loss, .ref m_less, .ref m_voteValue, .ref m_voteNumber, .ref m_allValue, .ref m_allNumber, .int 0, .ref m_nodeL, .ref m_nodeR, .int 0, .ref m_part, .int 0, .ref m_wasMany, .ref m_wasLoss, .ref m_wasValue, .ref m_wasNumber, .ref m_path, .int 0, .ref m_heavyValue, .ref m_heavyTimes, .int 0, .ref m_fewest, .ref m_which, .ref m_met, .int 0])), (m_row, .inl (cyI, 160, .inl fm))] H) (hD : va_D (fun q : Nat => s.heap.size ≤ q) [(x0, .inr (4, [.ref x_row, .ref x_tree, .ref x_tally, .ref x_votes, .ref x_otherVotes, .ref x_wins, .ref x_fewest, .int 2, .int 1])), (x_row, .inr (0, [.ref x_cell, .int 0])), (x_cell, .inl (cyI, 160, .inl fc)), (x_tree, .inr (2, [.ref x_row, .ref x_joined, .ref x_from, .ref x_to, .ref x_size, .ref x_lossOf, .ref x_lessBy, .ref x_tvalue, .ref x_tnumber, .int 0, .int 0])), (x_from, .inl (cyI, 319, .inl ff)), (x_to, .inl (cyI, 319, .inl ft)), (x_tally, .inr (1, [.ref x_kind, .ref x_often, .int 0, .int 0])), (m0, .inr (5, [.ref m_row, .int 0, .int 2, .int 0, .ref m_many, .ref m_loss, .ref m_less, .ref m_voteValue, .ref m_voteNumber, .ref m_allValue, .ref m_allNumber, .int 0, .ref m_nodeL, .ref m_nodeR, .int 0, .ref m_part, .int 0, .ref m_wasMany, .ref m_wasLoss, .ref m_wasValue, .ref m_wasNumber, .ref m_path, .int 0, .ref m_heavyValue, .ref m_heavyTimes, .int 0, .ref m_fewest, .ref m_which, .ref m_met, .int 0])), (m_row, .inl (cyI, 160, .inl fm))]) (hS : va_S (fun q : Nat => s.heap.size ≤ q) s.heap H locs) {ls : Array Slot} (hl : lv_has ls 7 [(4, .int 0), (3, .ref q_o), (2, .ref m0), (1, .ref x0), (0, .ref b)]) : W p l e room_1 s m #[Value.ref b] below meth c H locs 60 20000 (lw_Z below #[Value.ref b] s) (F0 m 862 ls []) := by
  obtain ⟨hx, hb, hr, hml, hown, hts0, hX, hbl, hlocks, hgv⟩ := id C0
  have hts := hts0
  have hA : ∀ q : Nat, s.heap.size ≤ q → (fun q : Nat => s.heap.size ≤ q) q := fun _ h => h
  have hbA : ¬ (fun q : Nat => s.heap.size ≤ q) b := Nat.not_le.mpr hbl
  have hown : s.vm.findClass RL = some m.cls := hown
  have hb : c.code = cL_law := hb
  refine lv_aload_n hx hb dL_law_862 rfl (lv_at hl 3 rfl) ?_
  refine lv_aload_n hx hb dL_law_863 rfl (lv_at hl 4 rfl) ?_
  refine lv_iload hx hb dL_law_864 (lv_at hl 0 rfl) ?_
  refine lv_iconst (v := 1) hx hb dL_law_866 (by decide) ?_
  refine lv_iadd hx hb dL_law_867 ?_
  refine W.eq (g2 := F0 m 868 ls [.int 1, .ref b, .ref x0]) (by first | rfl | (congr 2; decide)) ?_
  refine va_sld hx hb hX hbl hbA hS (i := 1) (ki_inl (by decide)) dL_law_868 ?_
  refine lv_aload_n hx hb dL_law_869 rfl (lv_at hl 4 rfl) ?_
  refine lv_iload hx hb dL_law_870 (lv_at hl 0 rfl) ?_
  refine lv_iconst (v := 2) hx hb dL_law_872 (by decide) ?_
  refine lv_iadd hx hb dL_law_873 ?_
  refine W.eq (g2 := F0 m 874 ls [.int 2, .ref b, .int (xs (1 : Int32).toNatClampNeg), .ref x0]) (by first | rfl | (congr 2; decide)) ?_
  refine va_sld hx hb hX hbl hbA hS (i := 2) (ki_inl (by decide)) dL_law_874 ?_
  have hPc := hP.sub (ws' := [(x0, .inr (4, [.ref x_row, .ref x_tree, .ref x_tally, .ref x_votes, .ref x_otherVotes, .ref x_wins, .ref x_fewest, .int 2, .int 1])), (x_row, .inr (0, [.ref x_cell, .int 0]))]) [0, 1] rfl
  have hKc := hK.sub (tys' := []) [] rfl
  refine vp_callSi (W.runV (As := [.int (xs (1 : Int32).toNatClampNeg), .int (xs (2 : Int32).toNatClampNeg)]) (rest := []) ⟨hx, hb, hml, hown, (lwC_X4_cancelled hts0)⟩ (c_X4_cancelled l dC dI x0 x_row x_tree x_tally x_votes x_otherVotes x_wins x_fewest x_cell (xs (1 : Int32).toNatClampNeg) (xs (2 : Int32).toNatClampNeg)) (cwV 2 (lwC_X4_cancelled hts0) lwG_X4_cancelled rfl rfl rfl (by decide +kernel) ⟨Nat.le_of_ble_eq_true rfl, Nat.le_of_ble_eq_true rfl⟩) ⟨fun a U g mk q => by obtain ⟨q0, qP, qK⟩ := q; exact ⟨q0, qP, va_K.moved (u := U) (U := U.calling g mk a) (Vm.Alike.refl U.vm) qK⟩, va_recv hKc hPc (ci := 4) (q0 := 0) rfl rfl, fun U hU hW => ⟨rfl, by rw [hU]; exact hPc, va_K.moved hW.alike hKc⟩⟩ rfl rfl hl.1 rfl (lv_room (Nat.le_of_ble_eq_true rfl)) dL_law_875 ⟨Nat.le_of_ble_eq_true rfl, Nat.le_of_ble_eq_true rfl⟩) (fun r_1 w_1 => ?_)
  subst w_1
  refine lv_aload_n hx hb dL_law_878 rfl (lv_at hl 2 rfl) ?_
  refine lv_aload_n hx hb dL_law_879 rfl (lv_at hl 4 rfl) ?_
  refine lv_iload hx hb dL_law_880 (lv_at hl 0 rfl) ?_
  refine lv_iconst (v := 1) hx hb dL_law_882 (by decide) ?_
  refine lv_iadd hx hb dL_law_883 ?_
  refine W.eq (g2 := F0 m 884 ls [.int 1, .ref b, .ref m0, .int (-1)]) (by first | rfl | (congr 2; decide)) ?_
  refine va_sld hx hb hX hbl hbA hS (i := 1) (ki_inl (by decide)) dL_law_884 ?_
  refine lv_aload_n hx hb dL_law_885 rfl (lv_at hl 4 rfl) ?_
  refine lv_iload hx hb dL_law_886 (lv_at hl 0 rfl) ?_
  refine lv_iconst (v := 2) hx hb dL_law_888 (by decide) ?_
  refine lv_iadd hx hb dL_law_889 ?_
  refine W.eq (g2 := F0 m 890 ls [.int 2, .ref b, .int (xs (1 : Int32).toNatClampNeg), .ref m0, .int (-1)]) (by first | rfl | (congr 2; decide)) ?_
  refine va_sld hx hb hX hbl hbA hS (i := 2) (ki_inl (by decide)) dL_law_890 ?_
  have hPc := hP.sub (ws' := [(m0, .inr (5, [.ref m_row, .int 0, .int 2, .int 0, .ref m_many, .ref m_loss, .ref m_less, .ref m_voteValue, .ref m_voteNumber, .ref m_allValue, .ref m_allNumber, .int 0, .ref m_nodeL, .ref m_nodeR, .int 0, .ref m_part, .int 0, .ref m_wasMany, .ref m_wasLoss, .ref m_wasValue, .ref m_wasNumber, .ref m_path, .int 0, .ref m_heavyValue, .ref m_heavyTimes, .int 0, .ref m_fewest, .ref m_which, .ref m_met, .int 0]))]) [7] rfl
  have hKc := hK.sub (tys' := []) [] rfl
  have hDc := hD.sub (ws' := [(m0, .inr (5, [.ref m_row, .int 0, .int 2, .int 0, .ref m_many, .ref m_loss, .ref m_less, .ref m_voteValue, .ref m_voteNumber, .ref m_allValue, .ref m_allNumber, .int 0, .ref m_nodeL, .ref m_nodeR, .int 0, .ref m_part, .int 0, .ref m_wasMany, .ref m_wasLoss, .ref m_wasValue, .ref m_wasNumber, .ref m_path, .int 0, .ref m_heavyValue, .ref m_heavyTimes, .int 0, .ref m_fewest, .ref m_which, .ref m_met, .int 0]))]) [7] (by decide) rfl
  have hFc := va_free (wc := [(m0, .inr (5, [.ref m_row, .int 0, .int 2, .int 0, .ref m_many, .ref m_loss, .ref m_less, .ref m_voteValue, .ref m_voteNumber, .ref m_allValue, .ref m_allNumber, .int 0, .ref m_nodeL, .ref m_nodeR, .int 0, .ref m_part, .int 0, .ref m_wasMany, .ref m_wasLoss, .ref m_wasValue, .ref m_wasNumber, .ref m_path, .int 0, .ref m_heavyValue, .ref m_heavyTimes, .int 0, .ref m_fewest, .ref m_which, .ref m_met, .int 0]))]) hD hS hA [7] rfl
  refine va_calli (va_runV (As := [.int (xs (1 : Int32).toNatClampNeg), .int (xs (2 : Int32).toNatClampNeg)]) (rest := [.int (-1)]) ⟨hx, hb, hml, hown, (lwC_X5_cancelled hts0)⟩ (c_X5_cancelled l dC dI m0 m_row m_many m_loss m_less m_voteValue m_voteNumber m_allValue m_allNumber m_nodeL m_nodeR m_part m_wasMany m_wasLoss m_wasValue m_wasNumber m_path m_heavyValue m_heavyTimes m_fewest m_which m_met (xs (1 : Int32).toNatClampNeg) (xs (2 : Int32).toNatClampNeg) H.size) (cwV 2 (lwC_X5_cancelled hts0) lwG_X5_cancelled rfl rfl rfl (by decide +kernel) ⟨Nat.le_of_ble_eq_true rfl, Nat.le_of_ble_eq_true rfl⟩) ⟨fun a U g mk q => by obtain ⟨q0, q1, qP, qK, qD⟩ := q; exact ⟨q0, q1, qP, va_K.moved (u := U) (U := U.calling g mk a) (Vm.Alike.refl U.vm) qK, qD⟩, va_recv hKc hPc (ci := 5) (q0 := 0) rfl rfl, fun U hU hW => ⟨rfl, by rw [hU], by rw [hU]; exact hPc, va_K.moved hW.alike hKc, hDc.weaken (fun _ _ _ _ => trivial)⟩⟩ rfl rfl hl.1 rfl (lv_room (Nat.le_of_ble_eq_true rfl)) dL_law_891 ⟨Nat.le_of_ble_eq_true rfl, Nat.le_of_ble_eq_true rfl⟩) hS (fun q _ h => hFc q h) hFc (fun r_2 u t H1 locs ht hvm w_2 hB hz1 hk1 hS => ?_)
  obtain ⟨hP1, hK1, hD1⟩ := hB
  rw [ht] at hP1
  have hK1 := va_K.moved hvm.symm hK1
  obtain ⟨hP, hD⟩ := va_join (wr := [(x0, .inr (4, [.ref x_row, .ref x_tree, .ref x_tally, .ref x_votes, .ref x_otherVotes, .ref x_wins, .ref x_fewest, .int 2, .int 1])), (x_row, .inr (0, [.ref x_cell, .int 0])), (x_cell, .inl (cyI, 160, .inl fc)), (x_tree, .inr (2, [.ref x_row, .ref x_joined, .ref x_from, .ref x_to, .ref x_size, .ref x_lossOf, .ref x_lessBy, .ref x_tvalue, .ref x_tnumber, .int 0, .int 0])), (x_from, .inl (cyI, 319, .inl ff)), (x_to, .inl (cyI, 319, .inl ft)), (x_tally, .inr (1, [.ref x_kind, .ref x_often, .int 0, .int 0])), (m_row, .inl (cyI, 160, .inl fm))]) (w1 := []) hP hD [7] [0, 1, 2, 3, 4, 5, 6, 8] rfl rfl (by decide) (by decide) hk1 hFc hP1 hD1
  clear hP1 hD1 hK1 hk1 hz1 hFc hDc hPc hKc
  generalize H1 = H at hP hS ⊢
  have hP : va_P (dC, dI) vwCl [(x0, .inr (4, [.ref x_row, .ref x_tree, .ref x_tally, .ref x_votes, .ref x_otherVotes, .ref x_wins, .ref x_fewest, .int 2, .int 1])), (x_row, .inr (0, [.ref x_cell, .int 0])), (x_cell, .inl (cyI, 160, .inl fc)), (x_tree, .inr (2, [.ref x_row, .ref x_joined, .ref x_from, .ref x_to, .ref x_size, .ref x_lossOf, .ref x_lessBy, .ref x_tvalue, .ref x_tnumber, .int 0, .int 0])), (x_from, .inl (cyI, 319, .inl ff)), (x_to, .inl (cyI, 319, .inl ft)), (x_tally, .inr (1, [.ref x_kind, .ref x_often, .int 0, .int 0])), (m_row, .inl (cyI, 160, .inl fm))] H := hP
  have hD : va_D (fun q : Nat => s.heap.size ≤ q) [(x0, .inr (4, [.ref x_row, .ref x_tree, .ref x_tally, .ref x_votes, .ref x_otherVotes, .ref x_wins, .ref x_fewest, .int 2, .int 1])), (x_row, .inr (0, [.ref x_cell, .int 0])), (x_cell, .inl (cyI, 160, .inl fc)), (x_tree, .inr (2, [.ref x_row, .ref x_joined, .ref x_from, .ref x_to, .ref x_size, .ref x_lossOf, .ref x_lessBy, .ref x_tvalue, .ref x_tnumber, .int 0, .int 0])), (x_from, .inl (cyI, 319, .inl ff)), (x_to, .inl (cyI, 319, .inl ft)), (x_tally, .inr (1, [.ref x_kind, .ref x_often, .int 0, .int 0])), (m_row, .inl (cyI, 160, .inl fm))] := hD
  subst w_2
  refine lv_icmp_eq (tgt := 2400) hx hb dL_law_894 (by decide) (fun c_3 => ?_) (fun c_3 => ?_)
  · refine W.widen (k := 100) (n := 30000) (Nat.le_of_ble_eq_true rfl) (Nat.le_of_ble_eq_true rfl) ?_
    exact lc_end C0 hS (lv_sub hl [0, 4] rfl)
  · exact absurd c_3 (by decide)

set_option maxHeartbeats 4000000 in
set_option maxRecDepth 100000 in
theorem lc_17 {p : Program} {l : Launch} {e : Env} {s : State} {m : MethodId} {below : List Frame} {meth : Method} {c : Code} {dC : Nat → ClassId} {dI : Nat → Nat → Nat} {b : Nat} {xs : Nat → Int32} (hl0 : l.stackTraces = false) (C0 : lw_At p s m meth c b 8 xs) (hth : ki_Th s) {x0 x_row x_tree x_tally x_votes x_otherVotes x_wins x_fewest x_cell x_joined x_from x_to x_size x_lossOf x_lessBy x_tvalue x_tnumber x_kind x_often m0 m_row m_many m_loss m_less m_voteValue m_voteNumber m_allValue m_allNumber m_nodeL m_nodeR m_part m_wasMany m_wasLoss m_wasValue m_wasNumber m_path m_heavyValue m_heavyTimes m_fewest m_which m_met q_o : Nat} {cyI : ClassId} {fc ff ft fm : Nat → Int32} {H : Heap} {locs : List Loc} (hK : va_K (dC, dI) vwCl [(cyI, .int)] s) (hP : va_P (dC, dI) vwCl [(x0, .inr (4, [.ref x_row, .ref x_tree, .ref x_tally, .ref x_votes, .ref x_otherVotes, .ref x_wins, .ref x_fewest, .int 2, .int 1])), (x_row, .inr (0, [.ref x_cell, .int 0])), (x_cell, .inl (cyI, 160, .inl fc)), (x_tree, .inr (2, [.ref x_row, .ref x_joined, .ref x_from, .ref x_to, .ref x_size, .ref x_lossOf, .ref x_lessBy, .ref x_tvalue, .ref x_tnumber, .int 0, .int 0])), (x_from, .inl (cyI, 319, .inl ff)), (x_to, .inl (cyI, 319, .inl ft)), (x_tally, .inr (1, [.ref x_kind, .ref x_often, .int 0, .int 0])), (m0, .inr (5, [.ref m_row, .int 0, .int 2, .int 0, .ref m_many, .ref m_loss, .ref m_less, .ref m_voteValue, .ref m_voteNumber, .ref m_allValue, .ref m_allNumber, .int 0, .ref m_nodeL, .ref m_nodeR, .int 0, .ref m_part, .int 0, .ref m_wasMany, .ref m_wasLoss, .ref m_wasValue, .ref m_wasNumber, .ref m_path, .int 0, .ref m_heavyValue, .ref m_heavyTimes, .int 0, .ref m_fewest, .ref m_which, .ref m_met, .int 0])), (m_row, .inl (cyI, 160, .inl fm))] H) (hD : va_D (fun q : Nat => s.heap.size ≤ q) [(x0, .inr (4, [.ref x_row, .ref x_tree, .ref x_tally, .ref x_votes, .ref x_otherVotes, .ref x_wins, .ref x_fewest, .int 2, .int 1])), (x_row, .inr (0, [.ref x_cell, .int 0])), (x_cell, .inl (cyI, 160, .inl fc)), (x_tree, .inr (2, [.ref x_row, .ref x_joined, .ref x_from, .ref x_to, .ref x_size, .ref x_lossOf, .ref x_lessBy, .ref x_tvalue, .ref x_tnumber, .int 0, .int 0])), (x_from, .inl (cyI, 319, .inl ff)), (x_to, .inl (cyI, 319, .inl ft)), (x_tally, .inr (1, [.ref x_kind, .ref x_often, .int 0, .int 0])), (m0, .inr (5, [.ref m_row, .int 0, .int 2, .int 0, .ref m_many, .ref m_loss, .ref m_less, .ref m_voteValue, .ref m_voteNumber, .ref m_allValue, .ref m_allNumber, .int 0, .ref m_nodeL, .ref m_nodeR, .int 0, .ref m_part, .int 0, .ref m_wasMany, .ref m_wasLoss, .ref m_wasValue, .ref m_wasNumber, .ref m_path, .int 0, .ref m_heavyValue, .ref m_heavyTimes, .int 0, .ref m_fewest, .ref m_which, .ref m_met, .int 0])), (m_row, .inl (cyI, 160, .inl fm))]) (hS : va_S (fun q : Nat => s.heap.size ≤ q) s.heap H locs) {ls : Array Slot} (hl : lv_has ls 7 [(4, .int 0), (3, .ref q_o), (2, .ref m0), (1, .ref x0), (0, .ref b)]) : W p l e room_1 s m #[Value.ref b] below meth c H locs 60 20000 (lw_Z below #[Value.ref b] s) (F0 m 899 ls []) := by
  obtain ⟨hx, hb, hr, hml, hown, hts0, hX, hbl, hlocks, hgv⟩ := id C0
  have hts := hts0
  have hA : ∀ q : Nat, s.heap.size ≤ q → (fun q : Nat => s.heap.size ≤ q) q := fun _ h => h
  have hbA : ¬ (fun q : Nat => s.heap.size ≤ q) b := Nat.not_le.mpr hbl
  have hown : s.vm.findClass RL = some m.cls := hown
  have hb : c.code = cL_law := hb
  refine lv_aload_n hx hb dL_law_899 rfl (lv_at hl 3 rfl) ?_
  refine lv_aload_n hx hb dL_law_900 rfl (lv_at hl 4 rfl) ?_
  refine lv_iload hx hb dL_law_901 (lv_at hl 0 rfl) ?_
  refine lv_iconst (v := 1) hx hb dL_law_903 (by decide) ?_
  refine lv_iadd hx hb dL_law_904 ?_
  refine W.eq (g2 := F0 m 905 ls [.int 1, .ref b, .ref x0]) (by first | rfl | (congr 2; decide)) ?_
  refine va_sld hx hb hX hbl hbA hS (i := 1) (ki_inl (by decide)) dL_law_905 ?_
  refine lv_aload_n hx hb dL_law_906 rfl (lv_at hl 4 rfl) ?_
  refine lv_iload hx hb dL_law_907 (lv_at hl 0 rfl) ?_
  refine lv_iconst (v := 2) hx hb dL_law_909 (by decide) ?_
  refine lv_iadd hx hb dL_law_910 ?_
  refine W.eq (g2 := F0 m 911 ls [.int 2, .ref b, .int (xs (1 : Int32).toNatClampNeg), .ref x0]) (by first | rfl | (congr 2; decide)) ?_
  refine va_sld hx hb hX hbl hbA hS (i := 2) (ki_inl (by decide)) dL_law_911 ?_
  refine lv_aload_n hx hb dL_law_912 rfl (lv_at hl 4 rfl) ?_
  refine lv_iload hx hb dL_law_913 (lv_at hl 0 rfl) ?_
  refine lv_iconst (v := 3) hx hb dL_law_915 (by decide) ?_
  refine lv_iadd hx hb dL_law_916 ?_
  refine W.eq (g2 := F0 m 917 ls [.int 3, .ref b, .int (xs (2 : Int32).toNatClampNeg), .int (xs (1 : Int32).toNatClampNeg), .ref x0]) (by first | rfl | (congr 2; decide)) ?_
  refine va_sld hx hb hX hbl hbA hS (i := 3) (ki_inl (by decide)) dL_law_917 ?_
  have hPc := hP.sub (ws' := [(x0, .inr (4, [.ref x_row, .ref x_tree, .ref x_tally, .ref x_votes, .ref x_otherVotes, .ref x_wins, .ref x_fewest, .int 2, .int 1])), (x_row, .inr (0, [.ref x_cell, .int 0]))]) [0, 1] rfl
  have hKc := hK.sub (tys' := []) [] rfl
  refine vp_callSi (W.runV (As := [.int (xs (1 : Int32).toNatClampNeg), .int (xs (2 : Int32).toNatClampNeg), .int (xs (3 : Int32).toNatClampNeg)]) (rest := []) ⟨hx, hb, hml, hown, (lwC_X4_above hts0)⟩ (c_X4_above l dC dI x0 x_row x_tree x_tally x_votes x_otherVotes x_wins x_fewest x_cell (xs (1 : Int32).toNatClampNeg) (xs (2 : Int32).toNatClampNeg) (xs (3 : Int32).toNatClampNeg)) (cwV 3 (lwC_X4_above hts0) lwG_X4_above rfl rfl rfl (by decide +kernel) ⟨Nat.le_of_ble_eq_true rfl, Nat.le_of_ble_eq_true rfl⟩) ⟨fun a U g mk q => by obtain ⟨q0, qP, qK⟩ := q; exact ⟨q0, qP, va_K.moved (u := U) (U := U.calling g mk a) (Vm.Alike.refl U.vm) qK⟩, va_recv hKc hPc (ci := 4) (q0 := 0) rfl rfl, fun U hU hW => ⟨rfl, by rw [hU]; exact hPc, va_K.moved hW.alike hKc⟩⟩ rfl rfl hl.1 rfl (lv_room (Nat.le_of_ble_eq_true rfl)) dL_law_918 ⟨Nat.le_of_ble_eq_true rfl, Nat.le_of_ble_eq_true rfl⟩) (fun r_1 w_1 => ?_)
  subst w_1
  refine lv_aload_n hx hb dL_law_921 rfl (lv_at hl 2 rfl) ?_
  refine lv_aload_n hx hb dL_law_922 rfl (lv_at hl 4 rfl) ?_
  refine lv_iload hx hb dL_law_923 (lv_at hl 0 rfl) ?_
  refine lv_iconst (v := 1) hx hb dL_law_925 (by decide) ?_
  refine lv_iadd hx hb dL_law_926 ?_
  refine W.eq (g2 := F0 m 927 ls [.int 1, .ref b, .ref m0, .int (-1)]) (by first | rfl | (congr 2; decide)) ?_
  refine va_sld hx hb hX hbl hbA hS (i := 1) (ki_inl (by decide)) dL_law_927 ?_
  refine lv_aload_n hx hb dL_law_928 rfl (lv_at hl 4 rfl) ?_
  refine lv_iload hx hb dL_law_929 (lv_at hl 0 rfl) ?_
  refine lv_iconst (v := 2) hx hb dL_law_931 (by decide) ?_
  refine lv_iadd hx hb dL_law_932 ?_
  refine W.eq (g2 := F0 m 933 ls [.int 2, .ref b, .int (xs (1 : Int32).toNatClampNeg), .ref m0, .int (-1)]) (by first | rfl | (congr 2; decide)) ?_
  refine va_sld hx hb hX hbl hbA hS (i := 2) (ki_inl (by decide)) dL_law_933 ?_
  refine lv_aload_n hx hb dL_law_934 rfl (lv_at hl 4 rfl) ?_
  refine lv_iload hx hb dL_law_935 (lv_at hl 0 rfl) ?_
  refine lv_iconst (v := 3) hx hb dL_law_937 (by decide) ?_
  refine lv_iadd hx hb dL_law_938 ?_
  refine W.eq (g2 := F0 m 939 ls [.int 3, .ref b, .int (xs (2 : Int32).toNatClampNeg), .int (xs (1 : Int32).toNatClampNeg), .ref m0, .int (-1)]) (by first | rfl | (congr 2; decide)) ?_
  refine va_sld hx hb hX hbl hbA hS (i := 3) (ki_inl (by decide)) dL_law_939 ?_
  have hPc := hP.sub (ws' := [(m0, .inr (5, [.ref m_row, .int 0, .int 2, .int 0, .ref m_many, .ref m_loss, .ref m_less, .ref m_voteValue, .ref m_voteNumber, .ref m_allValue, .ref m_allNumber, .int 0, .ref m_nodeL, .ref m_nodeR, .int 0, .ref m_part, .int 0, .ref m_wasMany, .ref m_wasLoss, .ref m_wasValue, .ref m_wasNumber, .ref m_path, .int 0, .ref m_heavyValue, .ref m_heavyTimes, .int 0, .ref m_fewest, .ref m_which, .ref m_met, .int 0]))]) [7] rfl
  have hKc := hK.sub (tys' := []) [] rfl
  have hDc := hD.sub (ws' := [(m0, .inr (5, [.ref m_row, .int 0, .int 2, .int 0, .ref m_many, .ref m_loss, .ref m_less, .ref m_voteValue, .ref m_voteNumber, .ref m_allValue, .ref m_allNumber, .int 0, .ref m_nodeL, .ref m_nodeR, .int 0, .ref m_part, .int 0, .ref m_wasMany, .ref m_wasLoss, .ref m_wasValue, .ref m_wasNumber, .ref m_path, .int 0, .ref m_heavyValue, .ref m_heavyTimes, .int 0, .ref m_fewest, .ref m_which, .ref m_met, .int 0]))]) [7] (by decide) rfl
  have hFc := va_free (wc := [(m0, .inr (5, [.ref m_row, .int 0, .int 2, .int 0, .ref m_many, .ref m_loss, .ref m_less, .ref m_voteValue, .ref m_voteNumber, .ref m_allValue, .ref m_allNumber, .int 0, .ref m_nodeL, .ref m_nodeR, .int 0, .ref m_part, .int 0, .ref m_wasMany, .ref m_wasLoss, .ref m_wasValue, .ref m_wasNumber, .ref m_path, .int 0, .ref m_heavyValue, .ref m_heavyTimes, .int 0, .ref m_fewest, .ref m_which, .ref m_met, .int 0]))]) hD hS hA [7] rfl
  refine va_calli (va_runV (As := [.int (xs (1 : Int32).toNatClampNeg), .int (xs (2 : Int32).toNatClampNeg), .int (xs (3 : Int32).toNatClampNeg)]) (rest := [.int (-1)]) ⟨hx, hb, hml, hown, (lwC_X5_above hts0)⟩ (c_X5_above l dC dI m0 m_row m_many m_loss m_less m_voteValue m_voteNumber m_allValue m_allNumber m_nodeL m_nodeR m_part m_wasMany m_wasLoss m_wasValue m_wasNumber m_path m_heavyValue m_heavyTimes m_fewest m_which m_met (xs (1 : Int32).toNatClampNeg) (xs (2 : Int32).toNatClampNeg) (xs (3 : Int32).toNatClampNeg) H.size) (cwV 3 (lwC_X5_above hts0) lwG_X5_above rfl rfl rfl (by decide +kernel) ⟨Nat.le_of_ble_eq_true rfl, Nat.le_of_ble_eq_true rfl⟩) ⟨fun a U g mk q => by obtain ⟨q0, q1, qP, qK, qD⟩ := q; exact ⟨q0, q1, qP, va_K.moved (u := U) (U := U.calling g mk a) (Vm.Alike.refl U.vm) qK, qD⟩, va_recv hKc hPc (ci := 5) (q0 := 0) rfl rfl, fun U hU hW => ⟨rfl, by rw [hU], by rw [hU]; exact hPc, va_K.moved hW.alike hKc, hDc.weaken (fun _ _ _ _ => trivial)⟩⟩ rfl rfl hl.1 rfl (lv_room (Nat.le_of_ble_eq_true rfl)) dL_law_940 ⟨Nat.le_of_ble_eq_true rfl, Nat.le_of_ble_eq_true rfl⟩) hS (fun q _ h => hFc q h) hFc (fun r_2 u t H1 locs ht hvm w_2 hB hz1 hk1 hS => ?_)
  obtain ⟨hP1, hK1, hD1⟩ := hB
  rw [ht] at hP1
  have hK1 := va_K.moved hvm.symm hK1
  obtain ⟨hP, hD⟩ := va_join (wr := [(x0, .inr (4, [.ref x_row, .ref x_tree, .ref x_tally, .ref x_votes, .ref x_otherVotes, .ref x_wins, .ref x_fewest, .int 2, .int 1])), (x_row, .inr (0, [.ref x_cell, .int 0])), (x_cell, .inl (cyI, 160, .inl fc)), (x_tree, .inr (2, [.ref x_row, .ref x_joined, .ref x_from, .ref x_to, .ref x_size, .ref x_lossOf, .ref x_lessBy, .ref x_tvalue, .ref x_tnumber, .int 0, .int 0])), (x_from, .inl (cyI, 319, .inl ff)), (x_to, .inl (cyI, 319, .inl ft)), (x_tally, .inr (1, [.ref x_kind, .ref x_often, .int 0, .int 0])), (m_row, .inl (cyI, 160, .inl fm))]) (w1 := []) hP hD [7] [0, 1, 2, 3, 4, 5, 6, 8] rfl rfl (by decide) (by decide) hk1 hFc hP1 hD1
  clear hP1 hD1 hK1 hk1 hz1 hFc hDc hPc hKc
  generalize H1 = H at hP hS ⊢
  have hP : va_P (dC, dI) vwCl [(x0, .inr (4, [.ref x_row, .ref x_tree, .ref x_tally, .ref x_votes, .ref x_otherVotes, .ref x_wins, .ref x_fewest, .int 2, .int 1])), (x_row, .inr (0, [.ref x_cell, .int 0])), (x_cell, .inl (cyI, 160, .inl fc)), (x_tree, .inr (2, [.ref x_row, .ref x_joined, .ref x_from, .ref x_to, .ref x_size, .ref x_lossOf, .ref x_lessBy, .ref x_tvalue, .ref x_tnumber, .int 0, .int 0])), (x_from, .inl (cyI, 319, .inl ff)), (x_to, .inl (cyI, 319, .inl ft)), (x_tally, .inr (1, [.ref x_kind, .ref x_often, .int 0, .int 0])), (m_row, .inl (cyI, 160, .inl fm))] H := hP
  have hD : va_D (fun q : Nat => s.heap.size ≤ q) [(x0, .inr (4, [.ref x_row, .ref x_tree, .ref x_tally, .ref x_votes, .ref x_otherVotes, .ref x_wins, .ref x_fewest, .int 2, .int 1])), (x_row, .inr (0, [.ref x_cell, .int 0])), (x_cell, .inl (cyI, 160, .inl fc)), (x_tree, .inr (2, [.ref x_row, .ref x_joined, .ref x_from, .ref x_to, .ref x_size, .ref x_lossOf, .ref x_lessBy, .ref x_tvalue, .ref x_tnumber, .int 0, .int 0])), (x_from, .inl (cyI, 319, .inl ff)), (x_to, .inl (cyI, 319, .inl ft)), (x_tally, .inr (1, [.ref x_kind, .ref x_often, .int 0, .int 0])), (m_row, .inl (cyI, 160, .inl fm))] := hD
  subst w_2
  refine lv_icmp_eq (tgt := 2400) hx hb dL_law_943 (by decide) (fun c_3 => ?_) (fun c_3 => ?_)
  · refine W.widen (k := 100) (n := 30000) (Nat.le_of_ble_eq_true rfl) (Nat.le_of_ble_eq_true rfl) ?_
    exact lc_end C0 hS (lv_sub hl [0, 4] rfl)
  · exact absurd c_3 (by decide)

set_option maxHeartbeats 4000000 in
set_option maxRecDepth 100000 in
theorem lc_18 {p : Program} {l : Launch} {e : Env} {s : State} {m : MethodId} {below : List Frame} {meth : Method} {c : Code} {dC : Nat → ClassId} {dI : Nat → Nat → Nat} {b : Nat} {xs : Nat → Int32} (hl0 : l.stackTraces = false) (C0 : lw_At p s m meth c b 8 xs) (hth : ki_Th s) {x0 x_row x_tree x_tally x_votes x_otherVotes x_wins x_fewest x_cell x_joined x_from x_to x_size x_lossOf x_lessBy x_tvalue x_tnumber x_kind x_often m0 m_row m_many m_loss m_less m_voteValue m_voteNumber m_allValue m_allNumber m_nodeL m_nodeR m_part m_wasMany m_wasLoss m_wasValue m_wasNumber m_path m_heavyValue m_heavyTimes m_fewest m_which m_met q_o : Nat} {cyI : ClassId} {fc ff ft fm : Nat → Int32} {H : Heap} {locs : List Loc} (hK : va_K (dC, dI) vwCl [(cyI, .int)] s) (hP : va_P (dC, dI) vwCl [(x0, .inr (4, [.ref x_row, .ref x_tree, .ref x_tally, .ref x_votes, .ref x_otherVotes, .ref x_wins, .ref x_fewest, .int 2, .int 1])), (x_row, .inr (0, [.ref x_cell, .int 0])), (x_cell, .inl (cyI, 160, .inl fc)), (x_tree, .inr (2, [.ref x_row, .ref x_joined, .ref x_from, .ref x_to, .ref x_size, .ref x_lossOf, .ref x_lessBy, .ref x_tvalue, .ref x_tnumber, .int 0, .int 0])), (x_from, .inl (cyI, 319, .inl ff)), (x_to, .inl (cyI, 319, .inl ft)), (x_tally, .inr (1, [.ref x_kind, .ref x_often, .int 0, .int 0])), (m0, .inr (5, [.ref m_row, .int 0, .int 2, .int 0, .ref m_many, .ref m_loss, .ref m_less, .ref m_voteValue, .ref m_voteNumber, .ref m_allValue, .ref m_allNumber, .int 0, .ref m_nodeL, .ref m_nodeR, .int 0, .ref m_part, .int 0, .ref m_wasMany, .ref m_wasLoss, .ref m_wasValue, .ref m_wasNumber, .ref m_path, .int 0, .ref m_heavyValue, .ref m_heavyTimes, .int 0, .ref m_fewest, .ref m_which, .ref m_met, .int 0])), (m_row, .inl (cyI, 160, .inl fm))] H) (hD : va_D (fun q : Nat => s.heap.size ≤ q) [(x0, .inr (4, [.ref x_row, .ref x_tree, .ref x_tally, .ref x_votes, .ref x_otherVotes, .ref x_wins, .ref x_fewest, .int 2, .int 1])), (x_row, .inr (0, [.ref x_cell, .int 0])), (x_cell, .inl (cyI, 160, .inl fc)), (x_tree, .inr (2, [.ref x_row, .ref x_joined, .ref x_from, .ref x_to, .ref x_size, .ref x_lossOf, .ref x_lessBy, .ref x_tvalue, .ref x_tnumber, .int 0, .int 0])), (x_from, .inl (cyI, 319, .inl ff)), (x_to, .inl (cyI, 319, .inl ft)), (x_tally, .inr (1, [.ref x_kind, .ref x_often, .int 0, .int 0])), (m0, .inr (5, [.ref m_row, .int 0, .int 2, .int 0, .ref m_many, .ref m_loss, .ref m_less, .ref m_voteValue, .ref m_voteNumber, .ref m_allValue, .ref m_allNumber, .int 0, .ref m_nodeL, .ref m_nodeR, .int 0, .ref m_part, .int 0, .ref m_wasMany, .ref m_wasLoss, .ref m_wasValue, .ref m_wasNumber, .ref m_path, .int 0, .ref m_heavyValue, .ref m_heavyTimes, .int 0, .ref m_fewest, .ref m_which, .ref m_met, .int 0])), (m_row, .inl (cyI, 160, .inl fm))]) (hS : va_S (fun q : Nat => s.heap.size ≤ q) s.heap H locs) {ls : Array Slot} (hl : lv_has ls 7 [(4, .int 0), (3, .ref q_o), (2, .ref m0), (1, .ref x0), (0, .ref b)]) : W p l e room_1 s m #[Value.ref b] below meth c H locs 60 20000 (lw_Z below #[Value.ref b] s) (F0 m 948 ls []) := by
  obtain ⟨hx, hb, hr, hml, hown, hts0, hX, hbl, hlocks, hgv⟩ := id C0
  have hts := hts0
  have hA : ∀ q : Nat, s.heap.size ≤ q → (fun q : Nat => s.heap.size ≤ q) q := fun _ h => h
  have hbA : ¬ (fun q : Nat => s.heap.size ≤ q) b := Nat.not_le.mpr hbl
  have hown : s.vm.findClass RL = some m.cls := hown
  have hb : c.code = cL_law := hb
  refine lv_aload_n hx hb dL_law_948 rfl (lv_at hl 3 rfl) ?_
  refine lv_aload_n hx hb dL_law_949 rfl (lv_at hl 4 rfl) ?_
  refine lv_iload hx hb dL_law_950 (lv_at hl 0 rfl) ?_
  refine lv_iconst (v := 1) hx hb dL_law_952 (by decide) ?_
  refine lv_iadd hx hb dL_law_953 ?_
  refine W.eq (g2 := F0 m 954 ls [.int 1, .ref b, .ref x0]) (by first | rfl | (congr 2; decide)) ?_
  refine va_sld hx hb hX hbl hbA hS (i := 1) (ki_inl (by decide)) dL_law_954 ?_
  have hPc := hP.sub (ws' := [(x0, .inr (4, [.ref x_row, .ref x_tree, .ref x_tally, .ref x_votes, .ref x_otherVotes, .ref x_wins, .ref x_fewest, .int 2, .int 1])), (x_row, .inr (0, [.ref x_cell, .int 0]))]) [0, 1] rfl
  have hKc := hK.sub (tys' := []) [] rfl
  refine vp_callSi (W.runV (As := [.int (xs (1 : Int32).toNatClampNeg)]) (rest := []) ⟨hx, hb, hml, hown, (lwC_X4_holds hts0)⟩ (c_X4_holds l dC dI x0 x_row x_tree x_tally x_votes x_otherVotes x_wins x_fewest x_cell (xs (1 : Int32).toNatClampNeg)) (cwV 1 (lwC_X4_holds hts0) lwG_X4_holds rfl rfl rfl (by decide +kernel) ⟨Nat.le_of_ble_eq_true rfl, Nat.le_of_ble_eq_true rfl⟩) ⟨fun a U g mk q => by obtain ⟨q0, qP, qK⟩ := q; exact ⟨q0, qP, va_K.moved (u := U) (U := U.calling g mk a) (Vm.Alike.refl U.vm) qK⟩, va_recv hKc hPc (ci := 4) (q0 := 0) rfl rfl, fun U hU hW => ⟨rfl, by rw [hU]; exact hPc, va_K.moved hW.alike hKc⟩⟩ rfl rfl hl.1 rfl (lv_room (Nat.le_of_ble_eq_true rfl)) dL_law_955 ⟨Nat.le_of_ble_eq_true rfl, Nat.le_of_ble_eq_true rfl⟩) (fun r_1 w_1 => ?_)
  subst w_1
  refine lv_aload_n hx hb dL_law_958 rfl (lv_at hl 2 rfl) ?_
  refine lv_aload_n hx hb dL_law_959 rfl (lv_at hl 4 rfl) ?_
  refine lv_iload hx hb dL_law_960 (lv_at hl 0 rfl) ?_
  refine lv_iconst (v := 1) hx hb dL_law_962 (by decide) ?_
  refine lv_iadd hx hb dL_law_963 ?_
  refine W.eq (g2 := F0 m 964 ls [.int 1, .ref b, .ref m0, .int (-1)]) (by first | rfl | (congr 2; decide)) ?_
  refine va_sld hx hb hX hbl hbA hS (i := 1) (ki_inl (by decide)) dL_law_964 ?_
  have hPc := hP.sub (ws' := [(m0, .inr (5, [.ref m_row, .int 0, .int 2, .int 0, .ref m_many, .ref m_loss, .ref m_less, .ref m_voteValue, .ref m_voteNumber, .ref m_allValue, .ref m_allNumber, .int 0, .ref m_nodeL, .ref m_nodeR, .int 0, .ref m_part, .int 0, .ref m_wasMany, .ref m_wasLoss, .ref m_wasValue, .ref m_wasNumber, .ref m_path, .int 0, .ref m_heavyValue, .ref m_heavyTimes, .int 0, .ref m_fewest, .ref m_which, .ref m_met, .int 0]))]) [7] rfl
  have hKc := hK.sub (tys' := []) [] rfl
  have hDc := hD.sub (ws' := [(m0, .inr (5, [.ref m_row, .int 0, .int 2, .int 0, .ref m_many, .ref m_loss, .ref m_less, .ref m_voteValue, .ref m_voteNumber, .ref m_allValue, .ref m_allNumber, .int 0, .ref m_nodeL, .ref m_nodeR, .int 0, .ref m_part, .int 0, .ref m_wasMany, .ref m_wasLoss, .ref m_wasValue, .ref m_wasNumber, .ref m_path, .int 0, .ref m_heavyValue, .ref m_heavyTimes, .int 0, .ref m_fewest, .ref m_which, .ref m_met, .int 0]))]) [7] (by decide) rfl
  have hFc := va_free (wc := [(m0, .inr (5, [.ref m_row, .int 0, .int 2, .int 0, .ref m_many, .ref m_loss, .ref m_less, .ref m_voteValue, .ref m_voteNumber, .ref m_allValue, .ref m_allNumber, .int 0, .ref m_nodeL, .ref m_nodeR, .int 0, .ref m_part, .int 0, .ref m_wasMany, .ref m_wasLoss, .ref m_wasValue, .ref m_wasNumber, .ref m_path, .int 0, .ref m_heavyValue, .ref m_heavyTimes, .int 0, .ref m_fewest, .ref m_which, .ref m_met, .int 0]))]) hD hS hA [7] rfl
  refine va_calli (va_runV (As := [.int (xs (1 : Int32).toNatClampNeg)]) (rest := [.int (-1)]) ⟨hx, hb, hml, hown, (lwC_X5_holds hts0)⟩ (c_X5_holds l dC dI m0 m_row m_many m_loss m_less m_voteValue m_voteNumber m_allValue m_allNumber m_nodeL m_nodeR m_part m_wasMany m_wasLoss m_wasValue m_wasNumber m_path m_heavyValue m_heavyTimes m_fewest m_which m_met (xs (1 : Int32).toNatClampNeg) H.size) (cwV 1 (lwC_X5_holds hts0) lwG_X5_holds rfl rfl rfl (by decide +kernel) ⟨Nat.le_of_ble_eq_true rfl, Nat.le_of_ble_eq_true rfl⟩) ⟨fun a U g mk q => by obtain ⟨q0, q1, qP, qK, qD⟩ := q; exact ⟨q0, q1, qP, va_K.moved (u := U) (U := U.calling g mk a) (Vm.Alike.refl U.vm) qK, qD⟩, va_recv hKc hPc (ci := 5) (q0 := 0) rfl rfl, fun U hU hW => ⟨rfl, by rw [hU], by rw [hU]; exact hPc, va_K.moved hW.alike hKc, hDc.weaken (fun _ _ _ _ => trivial)⟩⟩ rfl rfl hl.1 rfl (lv_room (Nat.le_of_ble_eq_true rfl)) dL_law_965 ⟨Nat.le_of_ble_eq_true rfl, Nat.le_of_ble_eq_true rfl⟩) hS (fun q _ h => hFc q h) hFc (fun r_2 u t H1 locs ht hvm w_2 hB hz1 hk1 hS => ?_)
  obtain ⟨hP1, hK1, hD1⟩ := hB
  rw [ht] at hP1
  have hK1 := va_K.moved hvm.symm hK1
  obtain ⟨hP, hD⟩ := va_join (wr := [(x0, .inr (4, [.ref x_row, .ref x_tree, .ref x_tally, .ref x_votes, .ref x_otherVotes, .ref x_wins, .ref x_fewest, .int 2, .int 1])), (x_row, .inr (0, [.ref x_cell, .int 0])), (x_cell, .inl (cyI, 160, .inl fc)), (x_tree, .inr (2, [.ref x_row, .ref x_joined, .ref x_from, .ref x_to, .ref x_size, .ref x_lossOf, .ref x_lessBy, .ref x_tvalue, .ref x_tnumber, .int 0, .int 0])), (x_from, .inl (cyI, 319, .inl ff)), (x_to, .inl (cyI, 319, .inl ft)), (x_tally, .inr (1, [.ref x_kind, .ref x_often, .int 0, .int 0])), (m_row, .inl (cyI, 160, .inl fm))]) (w1 := []) hP hD [7] [0, 1, 2, 3, 4, 5, 6, 8] rfl rfl (by decide) (by decide) hk1 hFc hP1 hD1
  clear hP1 hD1 hK1 hk1 hz1 hFc hDc hPc hKc
  generalize H1 = H at hP hS ⊢
  have hP : va_P (dC, dI) vwCl [(x0, .inr (4, [.ref x_row, .ref x_tree, .ref x_tally, .ref x_votes, .ref x_otherVotes, .ref x_wins, .ref x_fewest, .int 2, .int 1])), (x_row, .inr (0, [.ref x_cell, .int 0])), (x_cell, .inl (cyI, 160, .inl fc)), (x_tree, .inr (2, [.ref x_row, .ref x_joined, .ref x_from, .ref x_to, .ref x_size, .ref x_lossOf, .ref x_lessBy, .ref x_tvalue, .ref x_tnumber, .int 0, .int 0])), (x_from, .inl (cyI, 319, .inl ff)), (x_to, .inl (cyI, 319, .inl ft)), (x_tally, .inr (1, [.ref x_kind, .ref x_often, .int 0, .int 0])), (m_row, .inl (cyI, 160, .inl fm))] H := hP
  have hD : va_D (fun q : Nat => s.heap.size ≤ q) [(x0, .inr (4, [.ref x_row, .ref x_tree, .ref x_tally, .ref x_votes, .ref x_otherVotes, .ref x_wins, .ref x_fewest, .int 2, .int 1])), (x_row, .inr (0, [.ref x_cell, .int 0])), (x_cell, .inl (cyI, 160, .inl fc)), (x_tree, .inr (2, [.ref x_row, .ref x_joined, .ref x_from, .ref x_to, .ref x_size, .ref x_lossOf, .ref x_lessBy, .ref x_tvalue, .ref x_tnumber, .int 0, .int 0])), (x_from, .inl (cyI, 319, .inl ff)), (x_to, .inl (cyI, 319, .inl ft)), (x_tally, .inr (1, [.ref x_kind, .ref x_often, .int 0, .int 0])), (m_row, .inl (cyI, 160, .inl fm))] := hD
  subst w_2
  refine lv_icmp_eq (tgt := 2400) hx hb dL_law_968 (by decide) (fun c_3 => ?_) (fun c_3 => ?_)
  · refine W.widen (k := 100) (n := 30000) (Nat.le_of_ble_eq_true rfl) (Nat.le_of_ble_eq_true rfl) ?_
    exact lc_end C0 hS (lv_sub hl [0, 4] rfl)
  · exact absurd c_3 (by decide)

set_option maxHeartbeats 4000000 in
set_option maxRecDepth 100000 in
theorem lc_19 {p : Program} {l : Launch} {e : Env} {s : State} {m : MethodId} {below : List Frame} {meth : Method} {c : Code} {dC : Nat → ClassId} {dI : Nat → Nat → Nat} {b : Nat} {xs : Nat → Int32} (hl0 : l.stackTraces = false) (C0 : lw_At p s m meth c b 8 xs) (hth : ki_Th s) {x0 x_row x_tree x_tally x_votes x_otherVotes x_wins x_fewest x_cell x_joined x_from x_to x_size x_lossOf x_lessBy x_tvalue x_tnumber x_kind x_often m0 m_row m_many m_loss m_less m_voteValue m_voteNumber m_allValue m_allNumber m_nodeL m_nodeR m_part m_wasMany m_wasLoss m_wasValue m_wasNumber m_path m_heavyValue m_heavyTimes m_fewest m_which m_met q_o : Nat} {cyI : ClassId} {fc ff ft fm : Nat → Int32} {H : Heap} {locs : List Loc} (hK : va_K (dC, dI) vwCl [(cyI, .int)] s) (hP : va_P (dC, dI) vwCl [(x0, .inr (4, [.ref x_row, .ref x_tree, .ref x_tally, .ref x_votes, .ref x_otherVotes, .ref x_wins, .ref x_fewest, .int 2, .int 1])), (x_row, .inr (0, [.ref x_cell, .int 0])), (x_cell, .inl (cyI, 160, .inl fc)), (x_tree, .inr (2, [.ref x_row, .ref x_joined, .ref x_from, .ref x_to, .ref x_size, .ref x_lossOf, .ref x_lessBy, .ref x_tvalue, .ref x_tnumber, .int 0, .int 0])), (x_from, .inl (cyI, 319, .inl ff)), (x_to, .inl (cyI, 319, .inl ft)), (x_tally, .inr (1, [.ref x_kind, .ref x_often, .int 0, .int 0])), (m0, .inr (5, [.ref m_row, .int 0, .int 2, .int 0, .ref m_many, .ref m_loss, .ref m_less, .ref m_voteValue, .ref m_voteNumber, .ref m_allValue, .ref m_allNumber, .int 0, .ref m_nodeL, .ref m_nodeR, .int 0, .ref m_part, .int 0, .ref m_wasMany, .ref m_wasLoss, .ref m_wasValue, .ref m_wasNumber, .ref m_path, .int 0, .ref m_heavyValue, .ref m_heavyTimes, .int 0, .ref m_fewest, .ref m_which, .ref m_met, .int 0])), (m_row, .inl (cyI, 160, .inl fm))] H) (hD : va_D (fun q : Nat => s.heap.size ≤ q) [(x0, .inr (4, [.ref x_row, .ref x_tree, .ref x_tally, .ref x_votes, .ref x_otherVotes, .ref x_wins, .ref x_fewest, .int 2, .int 1])), (x_row, .inr (0, [.ref x_cell, .int 0])), (x_cell, .inl (cyI, 160, .inl fc)), (x_tree, .inr (2, [.ref x_row, .ref x_joined, .ref x_from, .ref x_to, .ref x_size, .ref x_lossOf, .ref x_lessBy, .ref x_tvalue, .ref x_tnumber, .int 0, .int 0])), (x_from, .inl (cyI, 319, .inl ff)), (x_to, .inl (cyI, 319, .inl ft)), (x_tally, .inr (1, [.ref x_kind, .ref x_often, .int 0, .int 0])), (m0, .inr (5, [.ref m_row, .int 0, .int 2, .int 0, .ref m_many, .ref m_loss, .ref m_less, .ref m_voteValue, .ref m_voteNumber, .ref m_allValue, .ref m_allNumber, .int 0, .ref m_nodeL, .ref m_nodeR, .int 0, .ref m_part, .int 0, .ref m_wasMany, .ref m_wasLoss, .ref m_wasValue, .ref m_wasNumber, .ref m_path, .int 0, .ref m_heavyValue, .ref m_heavyTimes, .int 0, .ref m_fewest, .ref m_which, .ref m_met, .int 0])), (m_row, .inl (cyI, 160, .inl fm))]) (hS : va_S (fun q : Nat => s.heap.size ≤ q) s.heap H locs) {ls : Array Slot} (hl : lv_has ls 7 [(4, .int 0), (3, .ref q_o), (2, .ref m0), (1, .ref x0), (0, .ref b)]) : W p l e room_1 s m #[Value.ref b] below meth c H locs 60 20000 (lw_Z below #[Value.ref b] s) (F0 m 973 ls []) := by
  obtain ⟨hx, hb, hr, hml, hown, hts0, hX, hbl, hlocks, hgv⟩ := id C0
  have hts := hts0
  have hA : ∀ q : Nat, s.heap.size ≤ q → (fun q : Nat => s.heap.size ≤ q) q := fun _ h => h
  have hbA : ¬ (fun q : Nat => s.heap.size ≤ q) b := Nat.not_le.mpr hbl
  have hown : s.vm.findClass RL = some m.cls := hown
  have hb : c.code = cL_law := hb
  refine lv_aload_n hx hb dL_law_973 rfl (lv_at hl 3 rfl) ?_
  refine lv_aload_n hx hb dL_law_974 rfl (lv_at hl 4 rfl) ?_
  refine lv_iload hx hb dL_law_975 (lv_at hl 0 rfl) ?_
  refine lv_iconst (v := 1) hx hb dL_law_977 (by decide) ?_
  refine lv_iadd hx hb dL_law_978 ?_
  refine W.eq (g2 := F0 m 979 ls [.int 1, .ref b, .ref x0]) (by first | rfl | (congr 2; decide)) ?_
  refine va_sld hx hb hX hbl hbA hS (i := 1) (ki_inl (by decide)) dL_law_979 ?_
  refine lv_aload_n hx hb dL_law_980 rfl (lv_at hl 4 rfl) ?_
  refine lv_iload hx hb dL_law_981 (lv_at hl 0 rfl) ?_
  refine lv_iconst (v := 2) hx hb dL_law_983 (by decide) ?_
  refine lv_iadd hx hb dL_law_984 ?_
  refine W.eq (g2 := F0 m 985 ls [.int 2, .ref b, .int (xs (1 : Int32).toNatClampNeg), .ref x0]) (by first | rfl | (congr 2; decide)) ?_
  refine va_sld hx hb hX hbl hbA hS (i := 2) (ki_inl (by decide)) dL_law_985 ?_
  have hPc := hP.sub (ws' := [(x0, .inr (4, [.ref x_row, .ref x_tree, .ref x_tally, .ref x_votes, .ref x_otherVotes, .ref x_wins, .ref x_fewest, .int 2, .int 1])), (x_row, .inr (0, [.ref x_cell, .int 0]))]) [0, 1] rfl
  have hKc := hK.sub (tys' := []) [] rfl
  refine vp_callSi (W.runV (As := [.int (xs (1 : Int32).toNatClampNeg), .int (xs (2 : Int32).toNatClampNeg)]) (rest := []) ⟨hx, hb, hml, hown, (lwC_X4_parts hts0)⟩ (c_X4_parts l dC dI x0 x_row x_tree x_tally x_votes x_otherVotes x_wins x_fewest x_cell (xs (1 : Int32).toNatClampNeg) (xs (2 : Int32).toNatClampNeg)) (cwV 2 (lwC_X4_parts hts0) lwG_X4_parts rfl rfl rfl (by decide +kernel) ⟨Nat.le_of_ble_eq_true rfl, Nat.le_of_ble_eq_true rfl⟩) ⟨fun a U g mk q => by obtain ⟨q0, qP, qK⟩ := q; exact ⟨q0, qP, va_K.moved (u := U) (U := U.calling g mk a) (Vm.Alike.refl U.vm) qK⟩, va_recv hKc hPc (ci := 4) (q0 := 0) rfl rfl, fun U hU hW => ⟨rfl, by rw [hU]; exact hPc, va_K.moved hW.alike hKc⟩⟩ rfl rfl hl.1 rfl (lv_room (Nat.le_of_ble_eq_true rfl)) dL_law_986 ⟨Nat.le_of_ble_eq_true rfl, Nat.le_of_ble_eq_true rfl⟩) (fun r_1 w_1 => ?_)
  subst w_1
  refine lv_aload_n hx hb dL_law_989 rfl (lv_at hl 2 rfl) ?_
  refine lv_aload_n hx hb dL_law_990 rfl (lv_at hl 4 rfl) ?_
  refine lv_iload hx hb dL_law_991 (lv_at hl 0 rfl) ?_
  refine lv_iconst (v := 1) hx hb dL_law_993 (by decide) ?_
  refine lv_iadd hx hb dL_law_994 ?_
  refine W.eq (g2 := F0 m 995 ls [.int 1, .ref b, .ref m0, .int (-1)]) (by first | rfl | (congr 2; decide)) ?_
  refine va_sld hx hb hX hbl hbA hS (i := 1) (ki_inl (by decide)) dL_law_995 ?_
  refine lv_aload_n hx hb dL_law_996 rfl (lv_at hl 4 rfl) ?_
  refine lv_iload hx hb dL_law_997 (lv_at hl 0 rfl) ?_
  refine lv_iconst (v := 2) hx hb dL_law_999 (by decide) ?_
  refine lv_iadd hx hb dL_law_1000 ?_
  refine W.eq (g2 := F0 m 1001 ls [.int 2, .ref b, .int (xs (1 : Int32).toNatClampNeg), .ref m0, .int (-1)]) (by first | rfl | (congr 2; decide)) ?_
  refine va_sld hx hb hX hbl hbA hS (i := 2) (ki_inl (by decide)) dL_law_1001 ?_
  have hPc := hP.sub (ws' := [(m0, .inr (5, [.ref m_row, .int 0, .int 2, .int 0, .ref m_many, .ref m_loss, .ref m_less, .ref m_voteValue, .ref m_voteNumber, .ref m_allValue, .ref m_allNumber, .int 0, .ref m_nodeL, .ref m_nodeR, .int 0, .ref m_part, .int 0, .ref m_wasMany, .ref m_wasLoss, .ref m_wasValue, .ref m_wasNumber, .ref m_path, .int 0, .ref m_heavyValue, .ref m_heavyTimes, .int 0, .ref m_fewest, .ref m_which, .ref m_met, .int 0]))]) [7] rfl
  have hKc := hK.sub (tys' := []) [] rfl
  have hDc := hD.sub (ws' := [(m0, .inr (5, [.ref m_row, .int 0, .int 2, .int 0, .ref m_many, .ref m_loss, .ref m_less, .ref m_voteValue, .ref m_voteNumber, .ref m_allValue, .ref m_allNumber, .int 0, .ref m_nodeL, .ref m_nodeR, .int 0, .ref m_part, .int 0, .ref m_wasMany, .ref m_wasLoss, .ref m_wasValue, .ref m_wasNumber, .ref m_path, .int 0, .ref m_heavyValue, .ref m_heavyTimes, .int 0, .ref m_fewest, .ref m_which, .ref m_met, .int 0]))]) [7] (by decide) rfl
  have hFc := va_free (wc := [(m0, .inr (5, [.ref m_row, .int 0, .int 2, .int 0, .ref m_many, .ref m_loss, .ref m_less, .ref m_voteValue, .ref m_voteNumber, .ref m_allValue, .ref m_allNumber, .int 0, .ref m_nodeL, .ref m_nodeR, .int 0, .ref m_part, .int 0, .ref m_wasMany, .ref m_wasLoss, .ref m_wasValue, .ref m_wasNumber, .ref m_path, .int 0, .ref m_heavyValue, .ref m_heavyTimes, .int 0, .ref m_fewest, .ref m_which, .ref m_met, .int 0]))]) hD hS hA [7] rfl
  refine va_calli (va_runV (As := [.int (xs (1 : Int32).toNatClampNeg), .int (xs (2 : Int32).toNatClampNeg)]) (rest := [.int (-1)]) ⟨hx, hb, hml, hown, (lwC_X5_parts hts0)⟩ (c_X5_parts l dC dI m0 m_row m_many m_loss m_less m_voteValue m_voteNumber m_allValue m_allNumber m_nodeL m_nodeR m_part m_wasMany m_wasLoss m_wasValue m_wasNumber m_path m_heavyValue m_heavyTimes m_fewest m_which m_met (xs (1 : Int32).toNatClampNeg) (xs (2 : Int32).toNatClampNeg) H.size) (cwV 2 (lwC_X5_parts hts0) lwG_X5_parts rfl rfl rfl (by decide +kernel) ⟨Nat.le_of_ble_eq_true rfl, Nat.le_of_ble_eq_true rfl⟩) ⟨fun a U g mk q => by obtain ⟨q0, q1, qP, qK, qD⟩ := q; exact ⟨q0, q1, qP, va_K.moved (u := U) (U := U.calling g mk a) (Vm.Alike.refl U.vm) qK, qD⟩, va_recv hKc hPc (ci := 5) (q0 := 0) rfl rfl, fun U hU hW => ⟨rfl, by rw [hU], by rw [hU]; exact hPc, va_K.moved hW.alike hKc, hDc.weaken (fun _ _ _ _ => trivial)⟩⟩ rfl rfl hl.1 rfl (lv_room (Nat.le_of_ble_eq_true rfl)) dL_law_1002 ⟨Nat.le_of_ble_eq_true rfl, Nat.le_of_ble_eq_true rfl⟩) hS (fun q _ h => hFc q h) hFc (fun r_2 u t H1 locs ht hvm w_2 hB hz1 hk1 hS => ?_)
  obtain ⟨hP1, hK1, hD1⟩ := hB
  rw [ht] at hP1
  have hK1 := va_K.moved hvm.symm hK1
  obtain ⟨hP, hD⟩ := va_join (wr := [(x0, .inr (4, [.ref x_row, .ref x_tree, .ref x_tally, .ref x_votes, .ref x_otherVotes, .ref x_wins, .ref x_fewest, .int 2, .int 1])), (x_row, .inr (0, [.ref x_cell, .int 0])), (x_cell, .inl (cyI, 160, .inl fc)), (x_tree, .inr (2, [.ref x_row, .ref x_joined, .ref x_from, .ref x_to, .ref x_size, .ref x_lossOf, .ref x_lessBy, .ref x_tvalue, .ref x_tnumber, .int 0, .int 0])), (x_from, .inl (cyI, 319, .inl ff)), (x_to, .inl (cyI, 319, .inl ft)), (x_tally, .inr (1, [.ref x_kind, .ref x_often, .int 0, .int 0])), (m_row, .inl (cyI, 160, .inl fm))]) (w1 := []) hP hD [7] [0, 1, 2, 3, 4, 5, 6, 8] rfl rfl (by decide) (by decide) hk1 hFc hP1 hD1
  clear hP1 hD1 hK1 hk1 hz1 hFc hDc hPc hKc
  generalize H1 = H at hP hS ⊢
  have hP : va_P (dC, dI) vwCl [(x0, .inr (4, [.ref x_row, .ref x_tree, .ref x_tally, .ref x_votes, .ref x_otherVotes, .ref x_wins, .ref x_fewest, .int 2, .int 1])), (x_row, .inr (0, [.ref x_cell, .int 0])), (x_cell, .inl (cyI, 160, .inl fc)), (x_tree, .inr (2, [.ref x_row, .ref x_joined, .ref x_from, .ref x_to, .ref x_size, .ref x_lossOf, .ref x_lessBy, .ref x_tvalue, .ref x_tnumber, .int 0, .int 0])), (x_from, .inl (cyI, 319, .inl ff)), (x_to, .inl (cyI, 319, .inl ft)), (x_tally, .inr (1, [.ref x_kind, .ref x_often, .int 0, .int 0])), (m_row, .inl (cyI, 160, .inl fm))] H := hP
  have hD : va_D (fun q : Nat => s.heap.size ≤ q) [(x0, .inr (4, [.ref x_row, .ref x_tree, .ref x_tally, .ref x_votes, .ref x_otherVotes, .ref x_wins, .ref x_fewest, .int 2, .int 1])), (x_row, .inr (0, [.ref x_cell, .int 0])), (x_cell, .inl (cyI, 160, .inl fc)), (x_tree, .inr (2, [.ref x_row, .ref x_joined, .ref x_from, .ref x_to, .ref x_size, .ref x_lossOf, .ref x_lessBy, .ref x_tvalue, .ref x_tnumber, .int 0, .int 0])), (x_from, .inl (cyI, 319, .inl ff)), (x_to, .inl (cyI, 319, .inl ft)), (x_tally, .inr (1, [.ref x_kind, .ref x_often, .int 0, .int 0])), (m_row, .inl (cyI, 160, .inl fm))] := hD
  subst w_2
  refine lv_icmp_eq (tgt := 2400) hx hb dL_law_1005 (by decide) (fun c_3 => ?_) (fun c_3 => ?_)
  · refine W.widen (k := 100) (n := 30000) (Nat.le_of_ble_eq_true rfl) (Nat.le_of_ble_eq_true rfl) ?_
    exact lc_end C0 hS (lv_sub hl [0, 4] rfl)
  · exact absurd c_3 (by decide)

set_option maxHeartbeats 4000000 in
set_option maxRecDepth 100000 in
theorem lc_20 {p : Program} {l : Launch} {e : Env} {s : State} {m : MethodId} {below : List Frame} {meth : Method} {c : Code} {dC : Nat → ClassId} {dI : Nat → Nat → Nat} {b : Nat} {xs : Nat → Int32} (hl0 : l.stackTraces = false) (C0 : lw_At p s m meth c b 8 xs) (hth : ki_Th s) {x0 x_row x_tree x_tally x_votes x_otherVotes x_wins x_fewest x_cell x_joined x_from x_to x_size x_lossOf x_lessBy x_tvalue x_tnumber x_kind x_often m0 m_row m_many m_loss m_less m_voteValue m_voteNumber m_allValue m_allNumber m_nodeL m_nodeR m_part m_wasMany m_wasLoss m_wasValue m_wasNumber m_path m_heavyValue m_heavyTimes m_fewest m_which m_met q_o : Nat} {cyI : ClassId} {fc ff ft fm : Nat → Int32} {H : Heap} {locs : List Loc} (hK : va_K (dC, dI) vwCl [(cyI, .int)] s) (hP : va_P (dC, dI) vwCl [(x0, .inr (4, [.ref x_row, .ref x_tree, .ref x_tally, .ref x_votes, .ref x_otherVotes, .ref x_wins, .ref x_fewest, .int 2, .int 1])), (x_row, .inr (0, [.ref x_cell, .int 0])), (x_cell, .inl (cyI, 160, .inl fc)), (x_tree, .inr (2, [.ref x_row, .ref x_joined, .ref x_from, .ref x_to, .ref x_size, .ref x_lossOf, .ref x_lessBy, .ref x_tvalue, .ref x_tnumber, .int 0, .int 0])), (x_from, .inl (cyI, 319, .inl ff)), (x_to, .inl (cyI, 319, .inl ft)), (x_tally, .inr (1, [.ref x_kind, .ref x_often, .int 0, .int 0])), (m0, .inr (5, [.ref m_row, .int 0, .int 2, .int 0, .ref m_many, .ref m_loss, .ref m_less, .ref m_voteValue, .ref m_voteNumber, .ref m_allValue, .ref m_allNumber, .int 0, .ref m_nodeL, .ref m_nodeR, .int 0, .ref m_part, .int 0, .ref m_wasMany, .ref m_wasLoss, .ref m_wasValue, .ref m_wasNumber, .ref m_path, .int 0, .ref m_heavyValue, .ref m_heavyTimes, .int 0, .ref m_fewest, .ref m_which, .ref m_met, .int 0])), (m_row, .inl (cyI, 160, .inl fm))] H) (hD : va_D (fun q : Nat => s.heap.size ≤ q) [(x0, .inr (4, [.ref x_row, .ref x_tree, .ref x_tally, .ref x_votes, .ref x_otherVotes, .ref x_wins, .ref x_fewest, .int 2, .int 1])), (x_row, .inr (0, [.ref x_cell, .int 0])), (x_cell, .inl (cyI, 160, .inl fc)), (x_tree, .inr (2, [.ref x_row, .ref x_joined, .ref x_from, .ref x_to, .ref x_size, .ref x_lossOf, .ref x_lessBy, .ref x_tvalue, .ref x_tnumber, .int 0, .int 0])), (x_from, .inl (cyI, 319, .inl ff)), (x_to, .inl (cyI, 319, .inl ft)), (x_tally, .inr (1, [.ref x_kind, .ref x_often, .int 0, .int 0])), (m0, .inr (5, [.ref m_row, .int 0, .int 2, .int 0, .ref m_many, .ref m_loss, .ref m_less, .ref m_voteValue, .ref m_voteNumber, .ref m_allValue, .ref m_allNumber, .int 0, .ref m_nodeL, .ref m_nodeR, .int 0, .ref m_part, .int 0, .ref m_wasMany, .ref m_wasLoss, .ref m_wasValue, .ref m_wasNumber, .ref m_path, .int 0, .ref m_heavyValue, .ref m_heavyTimes, .int 0, .ref m_fewest, .ref m_which, .ref m_met, .int 0])), (m_row, .inl (cyI, 160, .inl fm))]) (hS : va_S (fun q : Nat => s.heap.size ≤ q) s.heap H locs) {ls : Array Slot} (hl : lv_has ls 7 [(4, .int 0), (3, .ref q_o), (2, .ref m0), (1, .ref x0), (0, .ref b)]) : W p l e room_1 s m #[Value.ref b] below meth c H locs 60 20000 (lw_Z below #[Value.ref b] s) (F0 m 1010 ls []) := by
  obtain ⟨hx, hb, hr, hml, hown, hts0, hX, hbl, hlocks, hgv⟩ := id C0
  have hts := hts0
  have hA : ∀ q : Nat, s.heap.size ≤ q → (fun q : Nat => s.heap.size ≤ q) q := fun _ h => h
  have hbA : ¬ (fun q : Nat => s.heap.size ≤ q) b := Nat.not_le.mpr hbl
  have hown : s.vm.findClass RL = some m.cls := hown
  have hb : c.code = cL_law := hb
  refine lv_aload_n hx hb dL_law_1010 rfl (lv_at hl 3 rfl) ?_
  refine lv_aload_n hx hb dL_law_1011 rfl (lv_at hl 4 rfl) ?_
  refine lv_iload hx hb dL_law_1012 (lv_at hl 0 rfl) ?_
  refine lv_iconst (v := 1) hx hb dL_law_1014 (by decide) ?_
  refine lv_iadd hx hb dL_law_1015 ?_
  refine W.eq (g2 := F0 m 1016 ls [.int 1, .ref b, .ref x0]) (by first | rfl | (congr 2; decide)) ?_
  refine va_sld hx hb hX hbl hbA hS (i := 1) (ki_inl (by decide)) dL_law_1016 ?_
  refine lv_aload_n hx hb dL_law_1017 rfl (lv_at hl 4 rfl) ?_
  refine lv_iload hx hb dL_law_1018 (lv_at hl 0 rfl) ?_
  refine lv_iconst (v := 2) hx hb dL_law_1020 (by decide) ?_
  refine lv_iadd hx hb dL_law_1021 ?_
  refine W.eq (g2 := F0 m 1022 ls [.int 2, .ref b, .int (xs (1 : Int32).toNatClampNeg), .ref x0]) (by first | rfl | (congr 2; decide)) ?_
  refine va_sld hx hb hX hbl hbA hS (i := 2) (ki_inl (by decide)) dL_law_1022 ?_
  refine lv_aload_n hx hb dL_law_1023 rfl (lv_at hl 4 rfl) ?_
  refine lv_iload hx hb dL_law_1024 (lv_at hl 0 rfl) ?_
  refine lv_iconst (v := 3) hx hb dL_law_1026 (by decide) ?_
  refine lv_iadd hx hb dL_law_1027 ?_
  refine W.eq (g2 := F0 m 1028 ls [.int 3, .ref b, .int (xs (2 : Int32).toNatClampNeg), .int (xs (1 : Int32).toNatClampNeg), .ref x0]) (by first | rfl | (congr 2; decide)) ?_
  refine va_sld hx hb hX hbl hbA hS (i := 3) (ki_inl (by decide)) dL_law_1028 ?_
  refine lv_aload_n hx hb dL_law_1029 rfl (lv_at hl 4 rfl) ?_
  refine lv_iload hx hb dL_law_1030 (lv_at hl 0 rfl) ?_
  refine lv_iconst (v := 4) hx hb dL_law_1032 (by decide) ?_
  refine lv_iadd hx hb dL_law_1033 ?_
  refine W.eq (g2 := F0 m 1034 ls [.int 4, .ref b, .int (xs (3 : Int32).toNatClampNeg), .int (xs (2 : Int32).toNatClampNeg), .int (xs (1 : Int32).toNatClampNeg), .ref x0]) (by first | rfl | (congr 2; decide)) ?_
  refine va_sld hx hb hX hbl hbA hS (i := 4) (ki_inl (by decide)) dL_law_1034 ?_
  have hPc := hP.sub (ws' := [(x0, .inr (4, [.ref x_row, .ref x_tree, .ref x_tally, .ref x_votes, .ref x_otherVotes, .ref x_wins, .ref x_fewest, .int 2, .int 1])), (x_row, .inr (0, [.ref x_cell, .int 0]))]) [0, 1] rfl
  have hKc := hK.sub (tys' := []) [] rfl
  refine vp_callSi (W.runV (As := [.int (xs (1 : Int32).toNatClampNeg), .int (xs (2 : Int32).toNatClampNeg), .int (xs (3 : Int32).toNatClampNeg), .int (xs (4 : Int32).toNatClampNeg)]) (rest := []) ⟨hx, hb, hml, hown, (lwC_X4_part hts0)⟩ (c_X4_part l dC dI x0 x_row x_tree x_tally x_votes x_otherVotes x_wins x_fewest x_cell (xs (1 : Int32).toNatClampNeg) (xs (2 : Int32).toNatClampNeg) (xs (3 : Int32).toNatClampNeg) (xs (4 : Int32).toNatClampNeg)) (cwV 4 (lwC_X4_part hts0) lwG_X4_part rfl rfl rfl (by decide +kernel) ⟨Nat.le_of_ble_eq_true rfl, Nat.le_of_ble_eq_true rfl⟩) ⟨fun a U g mk q => by obtain ⟨q0, qP, qK⟩ := q; exact ⟨q0, qP, va_K.moved (u := U) (U := U.calling g mk a) (Vm.Alike.refl U.vm) qK⟩, va_recv hKc hPc (ci := 4) (q0 := 0) rfl rfl, fun U hU hW => ⟨rfl, by rw [hU]; exact hPc, va_K.moved hW.alike hKc⟩⟩ rfl rfl hl.1 rfl (lv_room (Nat.le_of_ble_eq_true rfl)) dL_law_1035 ⟨Nat.le_of_ble_eq_true rfl, Nat.le_of_ble_eq_true rfl⟩) (fun r_1 w_1 => ?_)
  subst w_1
  refine lv_aload_n hx hb dL_law_1038 rfl (lv_at hl 2 rfl) ?_
  refine lv_aload_n hx hb dL_law_1039 rfl (lv_at hl 4 rfl) ?_
  refine lv_iload hx hb dL_law_1040 (lv_at hl 0 rfl) ?_
  refine lv_iconst (v := 1) hx hb dL_law_1042 (by decide) ?_
  refine lv_iadd hx hb dL_law_1043 ?_
  refine W.eq (g2 := F0 m 1044 ls [.int 1, .ref b, .ref m0, .int (-1)]) (by first | rfl | (congr 2; decide)) ?_
  refine va_sld hx hb hX hbl hbA hS (i := 1) (ki_inl (by decide)) dL_law_1044 ?_
  refine lv_aload_n hx hb dL_law_1045 rfl (lv_at hl 4 rfl) ?_
  refine lv_iload hx hb dL_law_1046 (lv_at hl 0 rfl) ?_
  refine lv_iconst (v := 2) hx hb dL_law_1048 (by decide) ?_
  refine lv_iadd hx hb dL_law_1049 ?_
  refine W.eq (g2 := F0 m 1050 ls [.int 2, .ref b, .int (xs (1 : Int32).toNatClampNeg), .ref m0, .int (-1)]) (by first | rfl | (congr 2; decide)) ?_
  refine va_sld hx hb hX hbl hbA hS (i := 2) (ki_inl (by decide)) dL_law_1050 ?_
  refine lv_aload_n hx hb dL_law_1051 rfl (lv_at hl 4 rfl) ?_
  refine lv_iload hx hb dL_law_1052 (lv_at hl 0 rfl) ?_
  refine lv_iconst (v := 3) hx hb dL_law_1054 (by decide) ?_
  refine lv_iadd hx hb dL_law_1055 ?_
  refine W.eq (g2 := F0 m 1056 ls [.int 3, .ref b, .int (xs (2 : Int32).toNatClampNeg), .int (xs (1 : Int32).toNatClampNeg), .ref m0, .int (-1)]) (by first | rfl | (congr 2; decide)) ?_
  refine va_sld hx hb hX hbl hbA hS (i := 3) (ki_inl (by decide)) dL_law_1056 ?_
  refine lv_aload_n hx hb dL_law_1057 rfl (lv_at hl 4 rfl) ?_
  refine lv_iload hx hb dL_law_1058 (lv_at hl 0 rfl) ?_
  refine lv_iconst (v := 4) hx hb dL_law_1060 (by decide) ?_
  refine lv_iadd hx hb dL_law_1061 ?_
  refine W.eq (g2 := F0 m 1062 ls [.int 4, .ref b, .int (xs (3 : Int32).toNatClampNeg), .int (xs (2 : Int32).toNatClampNeg), .int (xs (1 : Int32).toNatClampNeg), .ref m0, .int (-1)]) (by first | rfl | (congr 2; decide)) ?_
  refine va_sld hx hb hX hbl hbA hS (i := 4) (ki_inl (by decide)) dL_law_1062 ?_
  have hPc := hP.sub (ws' := [(m0, .inr (5, [.ref m_row, .int 0, .int 2, .int 0, .ref m_many, .ref m_loss, .ref m_less, .ref m_voteValue, .ref m_voteNumber, .ref m_allValue, .ref m_allNumber, .int 0, .ref m_nodeL, .ref m_nodeR, .int 0, .ref m_part, .int 0, .ref m_wasMany, .ref m_wasLoss, .ref m_wasValue, .ref m_wasNumber, .ref m_path, .int 0, .ref m_heavyValue, .ref m_heavyTimes, .int 0, .ref m_fewest, .ref m_which, .ref m_met, .int 0]))]) [7] rfl
  have hKc := hK.sub (tys' := []) [] rfl
  have hDc := hD.sub (ws' := [(m0, .inr (5, [.ref m_row, .int 0, .int 2, .int 0, .ref m_many, .ref m_loss, .ref m_less, .ref m_voteValue, .ref m_voteNumber, .ref m_allValue, .ref m_allNumber, .int 0, .ref m_nodeL, .ref m_nodeR, .int 0, .ref m_part, .int 0, .ref m_wasMany, .ref m_wasLoss, .ref m_wasValue, .ref m_wasNumber, .ref m_path, .int 0, .ref m_heavyValue, .ref m_heavyTimes, .int 0, .ref m_fewest, .ref m_which, .ref m_met, .int 0]))]) [7] (by decide) rfl
  have hFc := va_free (wc := [(m0, .inr (5, [.ref m_row, .int 0, .int 2, .int 0, .ref m_many, .ref m_loss, .ref m_less, .ref m_voteValue, .ref m_voteNumber, .ref m_allValue, .ref m_allNumber, .int 0, .ref m_nodeL, .ref m_nodeR, .int 0, .ref m_part, .int 0, .ref m_wasMany, .ref m_wasLoss, .ref m_wasValue, .ref m_wasNumber, .ref m_path, .int 0, .ref m_heavyValue, .ref m_heavyTimes, .int 0, .ref m_fewest, .ref m_which, .ref m_met, .int 0]))]) hD hS hA [7] rfl
  refine va_calli (va_runV (As := [.int (xs (1 : Int32).toNatClampNeg), .int (xs (2 : Int32).toNatClampNeg), .int (xs (3 : Int32).toNatClampNeg), .int (xs (4 : Int32).toNatClampNeg)]) (rest := [.int (-1)]) ⟨hx, hb, hml, hown, (lwC_X5_part hts0)⟩ (c_X5_part l dC dI m0 m_row m_many m_loss m_less m_voteValue m_voteNumber m_allValue m_allNumber m_nodeL m_nodeR m_part m_wasMany m_wasLoss m_wasValue m_wasNumber m_path m_heavyValue m_heavyTimes m_fewest m_which m_met (xs (1 : Int32).toNatClampNeg) (xs (2 : Int32).toNatClampNeg) (xs (3 : Int32).toNatClampNeg) (xs (4 : Int32).toNatClampNeg) H.size) (cwV 4 (lwC_X5_part hts0) lwG_X5_part rfl rfl rfl (by decide +kernel) ⟨Nat.le_of_ble_eq_true rfl, Nat.le_of_ble_eq_true rfl⟩) ⟨fun a U g mk q => by obtain ⟨q0, q1, qP, qK, qD⟩ := q; exact ⟨q0, q1, qP, va_K.moved (u := U) (U := U.calling g mk a) (Vm.Alike.refl U.vm) qK, qD⟩, va_recv hKc hPc (ci := 5) (q0 := 0) rfl rfl, fun U hU hW => ⟨rfl, by rw [hU], by rw [hU]; exact hPc, va_K.moved hW.alike hKc, hDc.weaken (fun _ _ _ _ => trivial)⟩⟩ rfl rfl hl.1 rfl (lv_room (Nat.le_of_ble_eq_true rfl)) dL_law_1063 ⟨Nat.le_of_ble_eq_true rfl, Nat.le_of_ble_eq_true rfl⟩) hS (fun q _ h => hFc q h) hFc (fun r_2 u t H1 locs ht hvm w_2 hB hz1 hk1 hS => ?_)
  obtain ⟨hP1, hK1, hD1⟩ := hB
  rw [ht] at hP1
  have hK1 := va_K.moved hvm.symm hK1
  obtain ⟨hP, hD⟩ := va_join (wr := [(x0, .inr (4, [.ref x_row, .ref x_tree, .ref x_tally, .ref x_votes, .ref x_otherVotes, .ref x_wins, .ref x_fewest, .int 2, .int 1])), (x_row, .inr (0, [.ref x_cell, .int 0])), (x_cell, .inl (cyI, 160, .inl fc)), (x_tree, .inr (2, [.ref x_row, .ref x_joined, .ref x_from, .ref x_to, .ref x_size, .ref x_lossOf, .ref x_lessBy, .ref x_tvalue, .ref x_tnumber, .int 0, .int 0])), (x_from, .inl (cyI, 319, .inl ff)), (x_to, .inl (cyI, 319, .inl ft)), (x_tally, .inr (1, [.ref x_kind, .ref x_often, .int 0, .int 0])), (m_row, .inl (cyI, 160, .inl fm))]) (w1 := []) hP hD [7] [0, 1, 2, 3, 4, 5, 6, 8] rfl rfl (by decide) (by decide) hk1 hFc hP1 hD1
  clear hP1 hD1 hK1 hk1 hz1 hFc hDc hPc hKc
  generalize H1 = H at hP hS ⊢
  have hP : va_P (dC, dI) vwCl [(x0, .inr (4, [.ref x_row, .ref x_tree, .ref x_tally, .ref x_votes, .ref x_otherVotes, .ref x_wins, .ref x_fewest, .int 2, .int 1])), (x_row, .inr (0, [.ref x_cell, .int 0])), (x_cell, .inl (cyI, 160, .inl fc)), (x_tree, .inr (2, [.ref x_row, .ref x_joined, .ref x_from, .ref x_to, .ref x_size, .ref x_lossOf, .ref x_lessBy, .ref x_tvalue, .ref x_tnumber, .int 0, .int 0])), (x_from, .inl (cyI, 319, .inl ff)), (x_to, .inl (cyI, 319, .inl ft)), (x_tally, .inr (1, [.ref x_kind, .ref x_often, .int 0, .int 0])), (m_row, .inl (cyI, 160, .inl fm))] H := hP
  have hD : va_D (fun q : Nat => s.heap.size ≤ q) [(x0, .inr (4, [.ref x_row, .ref x_tree, .ref x_tally, .ref x_votes, .ref x_otherVotes, .ref x_wins, .ref x_fewest, .int 2, .int 1])), (x_row, .inr (0, [.ref x_cell, .int 0])), (x_cell, .inl (cyI, 160, .inl fc)), (x_tree, .inr (2, [.ref x_row, .ref x_joined, .ref x_from, .ref x_to, .ref x_size, .ref x_lossOf, .ref x_lessBy, .ref x_tvalue, .ref x_tnumber, .int 0, .int 0])), (x_from, .inl (cyI, 319, .inl ff)), (x_to, .inl (cyI, 319, .inl ft)), (x_tally, .inr (1, [.ref x_kind, .ref x_often, .int 0, .int 0])), (m_row, .inl (cyI, 160, .inl fm))] := hD
  subst w_2
  refine lv_icmp_eq (tgt := 2400) hx hb dL_law_1066 (by decide) (fun c_3 => ?_) (fun c_3 => ?_)
  · refine W.widen (k := 100) (n := 30000) (Nat.le_of_ble_eq_true rfl) (Nat.le_of_ble_eq_true rfl) ?_
    exact lc_end C0 hS (lv_sub hl [0, 4] rfl)
  · exact absurd c_3 (by decide)

set_option maxHeartbeats 4000000 in
set_option maxRecDepth 100000 in
theorem lc_21 {p : Program} {l : Launch} {e : Env} {s : State} {m : MethodId} {below : List Frame} {meth : Method} {c : Code} {dC : Nat → ClassId} {dI : Nat → Nat → Nat} {b : Nat} {xs : Nat → Int32} (hl0 : l.stackTraces = false) (C0 : lw_At p s m meth c b 8 xs) (hth : ki_Th s) {x0 x_row x_tree x_tally x_votes x_otherVotes x_wins x_fewest x_cell x_joined x_from x_to x_size x_lossOf x_lessBy x_tvalue x_tnumber x_kind x_often m0 m_row m_many m_loss m_less m_voteValue m_voteNumber m_allValue m_allNumber m_nodeL m_nodeR m_part m_wasMany m_wasLoss m_wasValue m_wasNumber m_path m_heavyValue m_heavyTimes m_fewest m_which m_met q_o : Nat} {cyI : ClassId} {fc ff ft fm : Nat → Int32} {H : Heap} {locs : List Loc} (hK : va_K (dC, dI) vwCl [(cyI, .int)] s) (hP : va_P (dC, dI) vwCl [(x0, .inr (4, [.ref x_row, .ref x_tree, .ref x_tally, .ref x_votes, .ref x_otherVotes, .ref x_wins, .ref x_fewest, .int 2, .int 1])), (x_row, .inr (0, [.ref x_cell, .int 0])), (x_cell, .inl (cyI, 160, .inl fc)), (x_tree, .inr (2, [.ref x_row, .ref x_joined, .ref x_from, .ref x_to, .ref x_size, .ref x_lossOf, .ref x_lessBy, .ref x_tvalue, .ref x_tnumber, .int 0, .int 0])), (x_from, .inl (cyI, 319, .inl ff)), (x_to, .inl (cyI, 319, .inl ft)), (x_tally, .inr (1, [.ref x_kind, .ref x_often, .int 0, .int 0])), (m0, .inr (5, [.ref m_row, .int 0, .int 2, .int 0, .ref m_many, .ref m_loss, .ref m_less, .ref m_voteValue, .ref m_voteNumber, .ref m_allValue, .ref m_allNumber, .int 0, .ref m_nodeL, .ref m_nodeR, .int 0, .ref m_part, .int 0, .ref m_wasMany, .ref m_wasLoss, .ref m_wasValue, .ref m_wasNumber, .ref m_path, .int 0, .ref m_heavyValue, .ref m_heavyTimes, .int 0, .ref m_fewest, .ref m_which, .ref m_met, .int 0])), (m_row, .inl (cyI, 160, .inl fm))] H) (hD : va_D (fun q : Nat => s.heap.size ≤ q) [(x0, .inr (4, [.ref x_row, .ref x_tree, .ref x_tally, .ref x_votes, .ref x_otherVotes, .ref x_wins, .ref x_fewest, .int 2, .int 1])), (x_row, .inr (0, [.ref x_cell, .int 0])), (x_cell, .inl (cyI, 160, .inl fc)), (x_tree, .inr (2, [.ref x_row, .ref x_joined, .ref x_from, .ref x_to, .ref x_size, .ref x_lossOf, .ref x_lessBy, .ref x_tvalue, .ref x_tnumber, .int 0, .int 0])), (x_from, .inl (cyI, 319, .inl ff)), (x_to, .inl (cyI, 319, .inl ft)), (x_tally, .inr (1, [.ref x_kind, .ref x_often, .int 0, .int 0])), (m0, .inr (5, [.ref m_row, .int 0, .int 2, .int 0, .ref m_many, .ref m_loss, .ref m_less, .ref m_voteValue, .ref m_voteNumber, .ref m_allValue, .ref m_allNumber, .int 0, .ref m_nodeL, .ref m_nodeR, .int 0, .ref m_part, .int 0, .ref m_wasMany, .ref m_wasLoss, .ref m_wasValue, .ref m_wasNumber, .ref m_path, .int 0, .ref m_heavyValue, .ref m_heavyTimes, .int 0, .ref m_fewest, .ref m_which, .ref m_met, .int 0])), (m_row, .inl (cyI, 160, .inl fm))]) (hS : va_S (fun q : Nat => s.heap.size ≤ q) s.heap H locs) {ls : Array Slot} (hl : lv_has ls 7 [(4, .int 0), (3, .ref q_o), (2, .ref m0), (1, .ref x0), (0, .ref b)]) : W p l e room_1 s m #[Value.ref b] below meth c H locs 60 20000 (lw_Z below #[Value.ref b] s) (F0 m 1071 ls []) := by
  obtain ⟨hx, hb, hr, hml, hown, hts0, hX, hbl, hlocks, hgv⟩ := id C0
  have hts := hts0
  have hA : ∀ q : Nat, s.heap.size ≤ q → (fun q : Nat => s.heap.size ≤ q) q := fun _ h => h
  have hbA : ¬ (fun q : Nat => s.heap.size ≤ q) b := Nat.not_le.mpr hbl
  have hown : s.vm.findClass RL = some m.cls := hown
  have hb : c.code = cL_law := hb
  refine lv_aload_n hx hb dL_law_1071 rfl (lv_at hl 3 rfl) ?_
  refine lv_aload_n hx hb dL_law_1072 rfl (lv_at hl 4 rfl) ?_
  refine lv_iload hx hb dL_law_1073 (lv_at hl 0 rfl) ?_
  refine lv_iconst (v := 1) hx hb dL_law_1075 (by decide) ?_
  refine lv_iadd hx hb dL_law_1076 ?_
  refine W.eq (g2 := F0 m 1077 ls [.int 1, .ref b, .ref x0]) (by first | rfl | (congr 2; decide)) ?_
  refine va_sld hx hb hX hbl hbA hS (i := 1) (ki_inl (by decide)) dL_law_1077 ?_
  refine lv_aload_n hx hb dL_law_1078 rfl (lv_at hl 4 rfl) ?_
  refine lv_iload hx hb dL_law_1079 (lv_at hl 0 rfl) ?_
  refine lv_iconst (v := 2) hx hb dL_law_1081 (by decide) ?_
  refine lv_iadd hx hb dL_law_1082 ?_
  refine W.eq (g2 := F0 m 1083 ls [.int 2, .ref b, .int (xs (1 : Int32).toNatClampNeg), .ref x0]) (by first | rfl | (congr 2; decide)) ?_
  refine va_sld hx hb hX hbl hbA hS (i := 2) (ki_inl (by decide)) dL_law_1083 ?_
  refine lv_aload_n hx hb dL_law_1084 rfl (lv_at hl 4 rfl) ?_
  refine lv_iload hx hb dL_law_1085 (lv_at hl 0 rfl) ?_
  refine lv_iconst (v := 3) hx hb dL_law_1087 (by decide) ?_
  refine lv_iadd hx hb dL_law_1088 ?_
  refine W.eq (g2 := F0 m 1089 ls [.int 3, .ref b, .int (xs (2 : Int32).toNatClampNeg), .int (xs (1 : Int32).toNatClampNeg), .ref x0]) (by first | rfl | (congr 2; decide)) ?_
  refine va_sld hx hb hX hbl hbA hS (i := 3) (ki_inl (by decide)) dL_law_1089 ?_
  have hPc := hP.sub (ws' := [(x0, .inr (4, [.ref x_row, .ref x_tree, .ref x_tally, .ref x_votes, .ref x_otherVotes, .ref x_wins, .ref x_fewest, .int 2, .int 1])), (x_row, .inr (0, [.ref x_cell, .int 0]))]) [0, 1] rfl
  have hKc := hK.sub (tys' := []) [] rfl
  refine vp_callSi (W.runV (As := [.int (xs (1 : Int32).toNatClampNeg), .int (xs (2 : Int32).toNatClampNeg), .int (xs (3 : Int32).toNatClampNeg)]) (rest := []) ⟨hx, hb, hml, hown, (lwC_X4_summary hts0)⟩ (c_X4_summary l dC dI x0 x_row x_tree x_tally x_votes x_otherVotes x_wins x_fewest x_cell (xs (1 : Int32).toNatClampNeg) (xs (2 : Int32).toNatClampNeg) (xs (3 : Int32).toNatClampNeg)) (cwV 3 (lwC_X4_summary hts0) lwG_X4_summary rfl rfl rfl (by decide +kernel) ⟨Nat.le_of_ble_eq_true rfl, Nat.le_of_ble_eq_true rfl⟩) ⟨fun a U g mk q => by obtain ⟨q0, qP, qK⟩ := q; exact ⟨q0, qP, va_K.moved (u := U) (U := U.calling g mk a) (Vm.Alike.refl U.vm) qK⟩, va_recv hKc hPc (ci := 4) (q0 := 0) rfl rfl, fun U hU hW => ⟨rfl, by rw [hU]; exact hPc, va_K.moved hW.alike hKc⟩⟩ rfl rfl hl.1 rfl (lv_room (Nat.le_of_ble_eq_true rfl)) dL_law_1090 ⟨Nat.le_of_ble_eq_true rfl, Nat.le_of_ble_eq_true rfl⟩) (fun r_1 w_1 => ?_)
  subst w_1
  refine lv_aload_n hx hb dL_law_1093 rfl (lv_at hl 2 rfl) ?_
  refine lv_aload_n hx hb dL_law_1094 rfl (lv_at hl 4 rfl) ?_
  refine lv_iload hx hb dL_law_1095 (lv_at hl 0 rfl) ?_
  refine lv_iconst (v := 1) hx hb dL_law_1097 (by decide) ?_
  refine lv_iadd hx hb dL_law_1098 ?_
  refine W.eq (g2 := F0 m 1099 ls [.int 1, .ref b, .ref m0, .int (-1)]) (by first | rfl | (congr 2; decide)) ?_
  refine va_sld hx hb hX hbl hbA hS (i := 1) (ki_inl (by decide)) dL_law_1099 ?_
  refine lv_aload_n hx hb dL_law_1100 rfl (lv_at hl 4 rfl) ?_
  refine lv_iload hx hb dL_law_1101 (lv_at hl 0 rfl) ?_
  refine lv_iconst (v := 2) hx hb dL_law_1103 (by decide) ?_
  refine lv_iadd hx hb dL_law_1104 ?_
  refine W.eq (g2 := F0 m 1105 ls [.int 2, .ref b, .int (xs (1 : Int32).toNatClampNeg), .ref m0, .int (-1)]) (by first | rfl | (congr 2; decide)) ?_
  refine va_sld hx hb hX hbl hbA hS (i := 2) (ki_inl (by decide)) dL_law_1105 ?_
  refine lv_aload_n hx hb dL_law_1106 rfl (lv_at hl 4 rfl) ?_
  refine lv_iload hx hb dL_law_1107 (lv_at hl 0 rfl) ?_
  refine lv_iconst (v := 3) hx hb dL_law_1109 (by decide) ?_
  refine lv_iadd hx hb dL_law_1110 ?_
  refine W.eq (g2 := F0 m 1111 ls [.int 3, .ref b, .int (xs (2 : Int32).toNatClampNeg), .int (xs (1 : Int32).toNatClampNeg), .ref m0, .int (-1)]) (by first | rfl | (congr 2; decide)) ?_
  refine va_sld hx hb hX hbl hbA hS (i := 3) (ki_inl (by decide)) dL_law_1111 ?_
  have hPc := hP.sub (ws' := [(m0, .inr (5, [.ref m_row, .int 0, .int 2, .int 0, .ref m_many, .ref m_loss, .ref m_less, .ref m_voteValue, .ref m_voteNumber, .ref m_allValue, .ref m_allNumber, .int 0, .ref m_nodeL, .ref m_nodeR, .int 0, .ref m_part, .int 0, .ref m_wasMany, .ref m_wasLoss, .ref m_wasValue, .ref m_wasNumber, .ref m_path, .int 0, .ref m_heavyValue, .ref m_heavyTimes, .int 0, .ref m_fewest, .ref m_which, .ref m_met, .int 0]))]) [7] rfl
  have hKc := hK.sub (tys' := []) [] rfl
  have hDc := hD.sub (ws' := [(m0, .inr (5, [.ref m_row, .int 0, .int 2, .int 0, .ref m_many, .ref m_loss, .ref m_less, .ref m_voteValue, .ref m_voteNumber, .ref m_allValue, .ref m_allNumber, .int 0, .ref m_nodeL, .ref m_nodeR, .int 0, .ref m_part, .int 0, .ref m_wasMany, .ref m_wasLoss, .ref m_wasValue, .ref m_wasNumber, .ref m_path, .int 0, .ref m_heavyValue, .ref m_heavyTimes, .int 0, .ref m_fewest, .ref m_which, .ref m_met, .int 0]))]) [7] (by decide) rfl
  have hFc := va_free (wc := [(m0, .inr (5, [.ref m_row, .int 0, .int 2, .int 0, .ref m_many, .ref m_loss, .ref m_less, .ref m_voteValue, .ref m_voteNumber, .ref m_allValue, .ref m_allNumber, .int 0, .ref m_nodeL, .ref m_nodeR, .int 0, .ref m_part, .int 0, .ref m_wasMany, .ref m_wasLoss, .ref m_wasValue, .ref m_wasNumber, .ref m_path, .int 0, .ref m_heavyValue, .ref m_heavyTimes, .int 0, .ref m_fewest, .ref m_which, .ref m_met, .int 0]))]) hD hS hA [7] rfl
  refine va_calli (va_runV (As := [.int (xs (1 : Int32).toNatClampNeg), .int (xs (2 : Int32).toNatClampNeg), .int (xs (3 : Int32).toNatClampNeg)]) (rest := [.int (-1)]) ⟨hx, hb, hml, hown, (lwC_X5_summary hts0)⟩ (c_X5_summary l dC dI m0 m_row m_many m_loss m_less m_voteValue m_voteNumber m_allValue m_allNumber m_nodeL m_nodeR m_part m_wasMany m_wasLoss m_wasValue m_wasNumber m_path m_heavyValue m_heavyTimes m_fewest m_which m_met (xs (1 : Int32).toNatClampNeg) (xs (2 : Int32).toNatClampNeg) (xs (3 : Int32).toNatClampNeg) H.size) (cwV 3 (lwC_X5_summary hts0) lwG_X5_summary rfl rfl rfl (by decide +kernel) ⟨Nat.le_of_ble_eq_true rfl, Nat.le_of_ble_eq_true rfl⟩) ⟨fun a U g mk q => by obtain ⟨q0, q1, qP, qK, qD⟩ := q; exact ⟨q0, q1, qP, va_K.moved (u := U) (U := U.calling g mk a) (Vm.Alike.refl U.vm) qK, qD⟩, va_recv hKc hPc (ci := 5) (q0 := 0) rfl rfl, fun U hU hW => ⟨rfl, by rw [hU], by rw [hU]; exact hPc, va_K.moved hW.alike hKc, hDc.weaken (fun _ _ _ _ => trivial)⟩⟩ rfl rfl hl.1 rfl (lv_room (Nat.le_of_ble_eq_true rfl)) dL_law_1112 ⟨Nat.le_of_ble_eq_true rfl, Nat.le_of_ble_eq_true rfl⟩) hS (fun q _ h => hFc q h) hFc (fun r_2 u t H1 locs ht hvm w_2 hB hz1 hk1 hS => ?_)
  obtain ⟨hP1, hK1, hD1⟩ := hB
  rw [ht] at hP1
  have hK1 := va_K.moved hvm.symm hK1
  obtain ⟨hP, hD⟩ := va_join (wr := [(x0, .inr (4, [.ref x_row, .ref x_tree, .ref x_tally, .ref x_votes, .ref x_otherVotes, .ref x_wins, .ref x_fewest, .int 2, .int 1])), (x_row, .inr (0, [.ref x_cell, .int 0])), (x_cell, .inl (cyI, 160, .inl fc)), (x_tree, .inr (2, [.ref x_row, .ref x_joined, .ref x_from, .ref x_to, .ref x_size, .ref x_lossOf, .ref x_lessBy, .ref x_tvalue, .ref x_tnumber, .int 0, .int 0])), (x_from, .inl (cyI, 319, .inl ff)), (x_to, .inl (cyI, 319, .inl ft)), (x_tally, .inr (1, [.ref x_kind, .ref x_often, .int 0, .int 0])), (m_row, .inl (cyI, 160, .inl fm))]) (w1 := []) hP hD [7] [0, 1, 2, 3, 4, 5, 6, 8] rfl rfl (by decide) (by decide) hk1 hFc hP1 hD1
  clear hP1 hD1 hK1 hk1 hz1 hFc hDc hPc hKc
  generalize H1 = H at hP hS ⊢
  have hP : va_P (dC, dI) vwCl [(x0, .inr (4, [.ref x_row, .ref x_tree, .ref x_tally, .ref x_votes, .ref x_otherVotes, .ref x_wins, .ref x_fewest, .int 2, .int 1])), (x_row, .inr (0, [.ref x_cell, .int 0])), (x_cell, .inl (cyI, 160, .inl fc)), (x_tree, .inr (2, [.ref x_row, .ref x_joined, .ref x_from, .ref x_to, .ref x_size, .ref x_lossOf, .ref x_lessBy, .ref x_tvalue, .ref x_tnumber, .int 0, .int 0])), (x_from, .inl (cyI, 319, .inl ff)), (x_to, .inl (cyI, 319, .inl ft)), (x_tally, .inr (1, [.ref x_kind, .ref x_often, .int 0, .int 0])), (m_row, .inl (cyI, 160, .inl fm))] H := hP
  have hD : va_D (fun q : Nat => s.heap.size ≤ q) [(x0, .inr (4, [.ref x_row, .ref x_tree, .ref x_tally, .ref x_votes, .ref x_otherVotes, .ref x_wins, .ref x_fewest, .int 2, .int 1])), (x_row, .inr (0, [.ref x_cell, .int 0])), (x_cell, .inl (cyI, 160, .inl fc)), (x_tree, .inr (2, [.ref x_row, .ref x_joined, .ref x_from, .ref x_to, .ref x_size, .ref x_lossOf, .ref x_lessBy, .ref x_tvalue, .ref x_tnumber, .int 0, .int 0])), (x_from, .inl (cyI, 319, .inl ff)), (x_to, .inl (cyI, 319, .inl ft)), (x_tally, .inr (1, [.ref x_kind, .ref x_often, .int 0, .int 0])), (m_row, .inl (cyI, 160, .inl fm))] := hD
  subst w_2
  refine lv_icmp_eq (tgt := 2400) hx hb dL_law_1115 (by decide) (fun c_3 => ?_) (fun c_3 => ?_)
  · refine W.widen (k := 100) (n := 30000) (Nat.le_of_ble_eq_true rfl) (Nat.le_of_ble_eq_true rfl) ?_
    exact lc_end C0 hS (lv_sub hl [0, 4] rfl)
  · exact absurd c_3 (by decide)

set_option maxHeartbeats 4000000 in
set_option maxRecDepth 100000 in
theorem lc_22 {p : Program} {l : Launch} {e : Env} {s : State} {m : MethodId} {below : List Frame} {meth : Method} {c : Code} {dC : Nat → ClassId} {dI : Nat → Nat → Nat} {b : Nat} {xs : Nat → Int32} (hl0 : l.stackTraces = false) (C0 : lw_At p s m meth c b 8 xs) (hth : ki_Th s) {x0 x_row x_tree x_tally x_votes x_otherVotes x_wins x_fewest x_cell x_joined x_from x_to x_size x_lossOf x_lessBy x_tvalue x_tnumber x_kind x_often m0 m_row m_many m_loss m_less m_voteValue m_voteNumber m_allValue m_allNumber m_nodeL m_nodeR m_part m_wasMany m_wasLoss m_wasValue m_wasNumber m_path m_heavyValue m_heavyTimes m_fewest m_which m_met q_o : Nat} {cyI : ClassId} {fc ff ft fm : Nat → Int32} {H : Heap} {locs : List Loc} (hK : va_K (dC, dI) vwCl [(cyI, .int)] s) (hP : va_P (dC, dI) vwCl [(x0, .inr (4, [.ref x_row, .ref x_tree, .ref x_tally, .ref x_votes, .ref x_otherVotes, .ref x_wins, .ref x_fewest, .int 2, .int 1])), (x_row, .inr (0, [.ref x_cell, .int 0])), (x_cell, .inl (cyI, 160, .inl fc)), (x_tree, .inr (2, [.ref x_row, .ref x_joined, .ref x_from, .ref x_to, .ref x_size, .ref x_lossOf, .ref x_lessBy, .ref x_tvalue, .ref x_tnumber, .int 0, .int 0])), (x_from, .inl (cyI, 319, .inl ff)), (x_to, .inl (cyI, 319, .inl ft)), (x_tally, .inr (1, [.ref x_kind, .ref x_often, .int 0, .int 0])), (m0, .inr (5, [.ref m_row, .int 0, .int 2, .int 0, .ref m_many, .ref m_loss, .ref m_less, .ref m_voteValue, .ref m_voteNumber, .ref m_allValue, .ref m_allNumber, .int 0, .ref m_nodeL, .ref m_nodeR, .int 0, .ref m_part, .int 0, .ref m_wasMany, .ref m_wasLoss, .ref m_wasValue, .ref m_wasNumber, .ref m_path, .int 0, .ref m_heavyValue, .ref m_heavyTimes, .int 0, .ref m_fewest, .ref m_which, .ref m_met, .int 0])), (m_row, .inl (cyI, 160, .inl fm))] H) (hD : va_D (fun q : Nat => s.heap.size ≤ q) [(x0, .inr (4, [.ref x_row, .ref x_tree, .ref x_tally, .ref x_votes, .ref x_otherVotes, .ref x_wins, .ref x_fewest, .int 2, .int 1])), (x_row, .inr (0, [.ref x_cell, .int 0])), (x_cell, .inl (cyI, 160, .inl fc)), (x_tree, .inr (2, [.ref x_row, .ref x_joined, .ref x_from, .ref x_to, .ref x_size, .ref x_lossOf, .ref x_lessBy, .ref x_tvalue, .ref x_tnumber, .int 0, .int 0])), (x_from, .inl (cyI, 319, .inl ff)), (x_to, .inl (cyI, 319, .inl ft)), (x_tally, .inr (1, [.ref x_kind, .ref x_often, .int 0, .int 0])), (m0, .inr (5, [.ref m_row, .int 0, .int 2, .int 0, .ref m_many, .ref m_loss, .ref m_less, .ref m_voteValue, .ref m_voteNumber, .ref m_allValue, .ref m_allNumber, .int 0, .ref m_nodeL, .ref m_nodeR, .int 0, .ref m_part, .int 0, .ref m_wasMany, .ref m_wasLoss, .ref m_wasValue, .ref m_wasNumber, .ref m_path, .int 0, .ref m_heavyValue, .ref m_heavyTimes, .int 0, .ref m_fewest, .ref m_which, .ref m_met, .int 0])), (m_row, .inl (cyI, 160, .inl fm))]) (hS : va_S (fun q : Nat => s.heap.size ≤ q) s.heap H locs) {ls : Array Slot} (hl : lv_has ls 7 [(4, .int 0), (3, .ref q_o), (2, .ref m0), (1, .ref x0), (0, .ref b)]) : W p l e room_1 s m #[Value.ref b] below meth c H locs 60 20000 (lw_Z below #[Value.ref b] s) (F0 m 1120 ls []) := by
  obtain ⟨hx, hb, hr, hml, hown, hts0, hX, hbl, hlocks, hgv⟩ := id C0
  have hts := hts0
  have hA : ∀ q : Nat, s.heap.size ≤ q → (fun q : Nat => s.heap.size ≤ q) q := fun _ h => h
  have hbA : ¬ (fun q : Nat => s.heap.size ≤ q) b := Nat.not_le.mpr hbl
  have hown : s.vm.findClass RL = some m.cls := hown
  have hb : c.code = cL_law := hb
  refine lv_aload_n hx hb dL_law_1120 rfl (lv_at hl 3 rfl) ?_
  refine lv_aload_n hx hb dL_law_1121 rfl (lv_at hl 4 rfl) ?_
  refine lv_iload hx hb dL_law_1122 (lv_at hl 0 rfl) ?_
  refine lv_iconst (v := 1) hx hb dL_law_1124 (by decide) ?_
  refine lv_iadd hx hb dL_law_1125 ?_
  refine W.eq (g2 := F0 m 1126 ls [.int 1, .ref b, .ref x0]) (by first | rfl | (congr 2; decide)) ?_
  refine va_sld hx hb hX hbl hbA hS (i := 1) (ki_inl (by decide)) dL_law_1126 ?_
  refine lv_aload_n hx hb dL_law_1127 rfl (lv_at hl 4 rfl) ?_
  refine lv_iload hx hb dL_law_1128 (lv_at hl 0 rfl) ?_
  refine lv_iconst (v := 2) hx hb dL_law_1130 (by decide) ?_
  refine lv_iadd hx hb dL_law_1131 ?_
  refine W.eq (g2 := F0 m 1132 ls [.int 2, .ref b, .int (xs (1 : Int32).toNatClampNeg), .ref x0]) (by first | rfl | (congr 2; decide)) ?_
  refine va_sld hx hb hX hbl hbA hS (i := 2) (ki_inl (by decide)) dL_law_1132 ?_
  refine lv_aload_n hx hb dL_law_1133 rfl (lv_at hl 4 rfl) ?_
  refine lv_iload hx hb dL_law_1134 (lv_at hl 0 rfl) ?_
  refine lv_iconst (v := 3) hx hb dL_law_1136 (by decide) ?_
  refine lv_iadd hx hb dL_law_1137 ?_
  refine W.eq (g2 := F0 m 1138 ls [.int 3, .ref b, .int (xs (2 : Int32).toNatClampNeg), .int (xs (1 : Int32).toNatClampNeg), .ref x0]) (by first | rfl | (congr 2; decide)) ?_
  refine va_sld hx hb hX hbl hbA hS (i := 3) (ki_inl (by decide)) dL_law_1138 ?_
  refine lv_aload_n hx hb dL_law_1139 rfl (lv_at hl 4 rfl) ?_
  refine lv_iload hx hb dL_law_1140 (lv_at hl 0 rfl) ?_
  refine lv_iconst (v := 4) hx hb dL_law_1142 (by decide) ?_
  refine lv_iadd hx hb dL_law_1143 ?_
  refine W.eq (g2 := F0 m 1144 ls [.int 4, .ref b, .int (xs (3 : Int32).toNatClampNeg), .int (xs (2 : Int32).toNatClampNeg), .int (xs (1 : Int32).toNatClampNeg), .ref x0]) (by first | rfl | (congr 2; decide)) ?_
  refine va_sld hx hb hX hbl hbA hS (i := 4) (ki_inl (by decide)) dL_law_1144 ?_
  refine lv_aload_n hx hb dL_law_1145 rfl (lv_at hl 1 rfl) ?_
  have hPc := hP.sub (ws' := [(x0, .inr (4, [.ref x_row, .ref x_tree, .ref x_tally, .ref x_votes, .ref x_otherVotes, .ref x_wins, .ref x_fewest, .int 2, .int 1])), (x_row, .inr (0, [.ref x_cell, .int 0]))]) [0, 1] rfl
  have hKc := hK.sub (tys' := []) [] rfl
  refine va_calli (vx_runSW (As := [.ref x0, .int (xs (1 : Int32).toNatClampNeg), .int (xs (2 : Int32).toNatClampNeg), .int (xs (3 : Int32).toNatClampNeg), .int (xs (4 : Int32).toNatClampNeg), .ref q_o]) (rest := []) ⟨hx, hb, hml, hown, (lwC_L_candidate hts0)⟩ (c_L_candidate l hl0 dC dI x0 x_row x_tree x_tally x_votes x_otherVotes x_wins x_fewest x_cell (xs (1 : Int32).toNatClampNeg) (xs (2 : Int32).toNatClampNeg) (xs (3 : Int32).toNatClampNeg) (xs (4 : Int32).toNatClampNeg) q_o) (vx_cwSW 6 (lwC_L_candidate hts0) lwG_L_candidate rfl rfl rfl (by decide +kernel) ⟨Nat.le_of_ble_eq_true rfl, Nat.le_of_ble_eq_true rfl⟩) ⟨fun a U g mk q => by obtain ⟨q0, qP, qK, qT⟩ := q; exact ⟨q0, qP, va_K.moved (u := U) (U := U.calling g mk a) (Vm.Alike.refl U.vm) qK, qT.call g mk a⟩, fun U hU hW => ⟨rfl, by rw [hU]; exact hPc, va_K.moved hW.alike hKc, hth.from hS hU hW⟩⟩ rfl rfl hl.1 rfl (lv_room (Nat.le_of_ble_eq_true rfl)) dL_law_1146 ⟨Nat.le_of_ble_eq_true rfl, Nat.le_of_ble_eq_true rfl⟩) hS (fun q _ h => h.elim) (fun q h => h.elim) (fun r_1 u t H1 locs ht hvm w_1 hB hz1 hk1 hS => ?_)
  have hP := hP.kept (H1 := H1) (fun k x hx => hk1 x.1 ((hP k x hx).lt) (fun h => h))
  clear hPc hKc hk1 hz1
  generalize H1 = H at hP hS ⊢
  have hP : va_P (dC, dI) vwCl [(x0, .inr (4, [.ref x_row, .ref x_tree, .ref x_tally, .ref x_votes, .ref x_otherVotes, .ref x_wins, .ref x_fewest, .int 2, .int 1])), (x_row, .inr (0, [.ref x_cell, .int 0])), (x_cell, .inl (cyI, 160, .inl fc)), (x_tree, .inr (2, [.ref x_row, .ref x_joined, .ref x_from, .ref x_to, .ref x_size, .ref x_lossOf, .ref x_lessBy, .ref x_tvalue, .ref x_tnumber, .int 0, .int 0])), (x_from, .inl (cyI, 319, .inl ff)), (x_to, .inl (cyI, 319, .inl ft)), (x_tally, .inr (1, [.ref x_kind, .ref x_often, .int 0, .int 0])), (m0, .inr (5, [.ref m_row, .int 0, .int 2, .int 0, .ref m_many, .ref m_loss, .ref m_less, .ref m_voteValue, .ref m_voteNumber, .ref m_allValue, .ref m_allNumber, .int 0, .ref m_nodeL, .ref m_nodeR, .int 0, .ref m_part, .int 0, .ref m_wasMany, .ref m_wasLoss, .ref m_wasValue, .ref m_wasNumber, .ref m_path, .int 0, .ref m_heavyValue, .ref m_heavyTimes, .int 0, .ref m_fewest, .ref m_which, .ref m_met, .int 0])), (m_row, .inl (cyI, 160, .inl fm))] H := hP
  have hD : va_D (fun q : Nat => s.heap.size ≤ q) [(x0, .inr (4, [.ref x_row, .ref x_tree, .ref x_tally, .ref x_votes, .ref x_otherVotes, .ref x_wins, .ref x_fewest, .int 2, .int 1])), (x_row, .inr (0, [.ref x_cell, .int 0])), (x_cell, .inl (cyI, 160, .inl fc)), (x_tree, .inr (2, [.ref x_row, .ref x_joined, .ref x_from, .ref x_to, .ref x_size, .ref x_lossOf, .ref x_lessBy, .ref x_tvalue, .ref x_tnumber, .int 0, .int 0])), (x_from, .inl (cyI, 319, .inl ff)), (x_to, .inl (cyI, 319, .inl ft)), (x_tally, .inr (1, [.ref x_kind, .ref x_often, .int 0, .int 0])), (m0, .inr (5, [.ref m_row, .int 0, .int 2, .int 0, .ref m_many, .ref m_loss, .ref m_less, .ref m_voteValue, .ref m_voteNumber, .ref m_allValue, .ref m_allNumber, .int 0, .ref m_nodeL, .ref m_nodeR, .int 0, .ref m_part, .int 0, .ref m_wasMany, .ref m_wasLoss, .ref m_wasValue, .ref m_wasNumber, .ref m_path, .int 0, .ref m_heavyValue, .ref m_heavyTimes, .int 0, .ref m_fewest, .ref m_which, .ref m_met, .int 0])), (m_row, .inl (cyI, 160, .inl fm))] := hD
  refine W.widen (k := 61) (n := 20006) (Nat.le_of_ble_eq_true rfl) (Nat.le_of_ble_eq_true rfl) ?_
  subst w_1
  refine lv_istore (lv' := [(5, .int 1), (4, .int 0), (3, .ref q_o), (2, .ref m0), (1, .ref x0), (0, .ref b)]) hx hb dL_law_1149 hl (by decide) rfl (fun ls hl => ?_)
  refine lv_aload_n hx hb dL_law_1151 rfl (lv_at hl 3 rfl) ?_
  refine lv_aload_n hx hb dL_law_1152 rfl (lv_at hl 5 rfl) ?_
  refine lv_iload hx hb dL_law_1153 (lv_at hl 1 rfl) ?_
  refine lv_iconst (v := 1) hx hb dL_law_1155 (by decide) ?_
  refine lv_iadd hx hb dL_law_1156 ?_
  refine W.eq (g2 := F0 m 1157 ls [.int 1, .ref b, .ref m0]) (by first | rfl | (congr 2; decide)) ?_
  refine va_sld hx hb hX hbl hbA hS (i := 1) (ki_inl (by decide)) dL_law_1157 ?_
  refine lv_aload_n hx hb dL_law_1158 rfl (lv_at hl 5 rfl) ?_
  refine lv_iload hx hb dL_law_1159 (lv_at hl 1 rfl) ?_
  refine lv_iconst (v := 2) hx hb dL_law_1161 (by decide) ?_
  refine lv_iadd hx hb dL_law_1162 ?_
  refine W.eq (g2 := F0 m 1163 ls [.int 2, .ref b, .int (xs (1 : Int32).toNatClampNeg), .ref m0]) (by first | rfl | (congr 2; decide)) ?_
  refine va_sld hx hb hX hbl hbA hS (i := 2) (ki_inl (by decide)) dL_law_1163 ?_
  refine lv_aload_n hx hb dL_law_1164 rfl (lv_at hl 5 rfl) ?_
  refine lv_iload hx hb dL_law_1165 (lv_at hl 1 rfl) ?_
  refine lv_iconst (v := 3) hx hb dL_law_1167 (by decide) ?_
  refine lv_iadd hx hb dL_law_1168 ?_
  refine W.eq (g2 := F0 m 1169 ls [.int 3, .ref b, .int (xs (2 : Int32).toNatClampNeg), .int (xs (1 : Int32).toNatClampNeg), .ref m0]) (by first | rfl | (congr 2; decide)) ?_
  refine va_sld hx hb hX hbl hbA hS (i := 3) (ki_inl (by decide)) dL_law_1169 ?_
  refine lv_aload_n hx hb dL_law_1170 rfl (lv_at hl 5 rfl) ?_
  refine lv_iload hx hb dL_law_1171 (lv_at hl 1 rfl) ?_
  refine lv_iconst (v := 4) hx hb dL_law_1173 (by decide) ?_
  refine lv_iadd hx hb dL_law_1174 ?_
  refine W.eq (g2 := F0 m 1175 ls [.int 4, .ref b, .int (xs (3 : Int32).toNatClampNeg), .int (xs (2 : Int32).toNatClampNeg), .int (xs (1 : Int32).toNatClampNeg), .ref m0]) (by first | rfl | (congr 2; decide)) ?_
  refine va_sld hx hb hX hbl hbA hS (i := 4) (ki_inl (by decide)) dL_law_1175 ?_
  have hPc := hP.sub (ws' := [(m0, .inr (5, [.ref m_row, .int 0, .int 2, .int 0, .ref m_many, .ref m_loss, .ref m_less, .ref m_voteValue, .ref m_voteNumber, .ref m_allValue, .ref m_allNumber, .int 0, .ref m_nodeL, .ref m_nodeR, .int 0, .ref m_part, .int 0, .ref m_wasMany, .ref m_wasLoss, .ref m_wasValue, .ref m_wasNumber, .ref m_path, .int 0, .ref m_heavyValue, .ref m_heavyTimes, .int 0, .ref m_fewest, .ref m_which, .ref m_met, .int 0]))]) [7] rfl
  have hKc := hK.sub (tys' := []) [] rfl
  have hDc := hD.sub (ws' := [(m0, .inr (5, [.ref m_row, .int 0, .int 2, .int 0, .ref m_many, .ref m_loss, .ref m_less, .ref m_voteValue, .ref m_voteNumber, .ref m_allValue, .ref m_allNumber, .int 0, .ref m_nodeL, .ref m_nodeR, .int 0, .ref m_part, .int 0, .ref m_wasMany, .ref m_wasLoss, .ref m_wasValue, .ref m_wasNumber, .ref m_path, .int 0, .ref m_heavyValue, .ref m_heavyTimes, .int 0, .ref m_fewest, .ref m_which, .ref m_met, .int 0]))]) [7] (by decide) rfl
  have hFc := va_free (wc := [(m0, .inr (5, [.ref m_row, .int 0, .int 2, .int 0, .ref m_many, .ref m_loss, .ref m_less, .ref m_voteValue, .ref m_voteNumber, .ref m_allValue, .ref m_allNumber, .int 0, .ref m_nodeL, .ref m_nodeR, .int 0, .ref m_part, .int 0, .ref m_wasMany, .ref m_wasLoss, .ref m_wasValue, .ref m_wasNumber, .ref m_path, .int 0, .ref m_heavyValue, .ref m_heavyTimes, .int 0, .ref m_fewest, .ref m_which, .ref m_met, .int 0]))]) hD hS hA [7] rfl
  refine va_calli (va_runV (As := [.int (xs (1 : Int32).toNatClampNeg), .int (xs (2 : Int32).toNatClampNeg), .int (xs (3 : Int32).toNatClampNeg), .int (xs (4 : Int32).toNatClampNeg)]) (rest := []) ⟨hx, hb, hml, hown, (lwC_X5_candidate hts0)⟩ (c_X5_candidate l dC dI m0 m_row m_many m_loss m_less m_voteValue m_voteNumber m_allValue m_allNumber m_nodeL m_nodeR m_part m_wasMany m_wasLoss m_wasValue m_wasNumber m_path m_heavyValue m_heavyTimes m_fewest m_which m_met (xs (1 : Int32).toNatClampNeg) (xs (2 : Int32).toNatClampNeg) (xs (3 : Int32).toNatClampNeg) (xs (4 : Int32).toNatClampNeg) H.size) (cwV 4 (lwC_X5_candidate hts0) lwG_X5_candidate rfl rfl rfl (by decide +kernel) ⟨Nat.le_of_ble_eq_true rfl, Nat.le_of_ble_eq_true rfl⟩) ⟨fun a U g mk q => by obtain ⟨q0, q1, qP, qK, qD⟩ := q; exact ⟨q0, q1, qP, va_K.moved (u := U) (U := U.calling g mk a) (Vm.Alike.refl U.vm) qK, qD⟩, va_recv hKc hPc (ci := 5) (q0 := 0) rfl rfl, fun U hU hW => ⟨rfl, by rw [hU], by rw [hU]; exact hPc, va_K.moved hW.alike hKc, hDc.weaken (fun _ _ _ _ => trivial)⟩⟩ rfl rfl hl.1 rfl (lv_room (Nat.le_of_ble_eq_true rfl)) dL_law_1176 ⟨Nat.le_of_ble_eq_true rfl, Nat.le_of_ble_eq_true rfl⟩) hS (fun q _ h => hFc q h) hFc (fun r_2 u t H1 locs ht hvm w_2 hB hz1 hk1 hS => ?_)
  obtain ⟨hP1, hK1, hD1⟩ := hB
  rw [ht] at hP1
  have hK1 := va_K.moved hvm.symm hK1
  obtain ⟨hP, hD⟩ := va_join (wr := [(x0, .inr (4, [.ref x_row, .ref x_tree, .ref x_tally, .ref x_votes, .ref x_otherVotes, .ref x_wins, .ref x_fewest, .int 2, .int 1])), (x_row, .inr (0, [.ref x_cell, .int 0])), (x_cell, .inl (cyI, 160, .inl fc)), (x_tree, .inr (2, [.ref x_row, .ref x_joined, .ref x_from, .ref x_to, .ref x_size, .ref x_lossOf, .ref x_lessBy, .ref x_tvalue, .ref x_tnumber, .int 0, .int 0])), (x_from, .inl (cyI, 319, .inl ff)), (x_to, .inl (cyI, 319, .inl ft)), (x_tally, .inr (1, [.ref x_kind, .ref x_often, .int 0, .int 0])), (m_row, .inl (cyI, 160, .inl fm))]) (w1 := [(m0, .inr (5, [.ref m_row, .int 0, .int 2, .int 1, .ref m_many, .ref m_loss, .ref m_less, .ref m_voteValue, .ref m_voteNumber, .ref m_allValue, .ref m_allNumber, .int 0, .ref m_nodeL, .ref m_nodeR, .int 0, .ref m_part, .int 0, .ref m_wasMany, .ref m_wasLoss, .ref m_wasValue, .ref m_wasNumber, .ref m_path, .int 0, .ref m_heavyValue, .ref m_heavyTimes, .int 0, .ref m_fewest, .ref m_which, .ref m_met, .int 0]))]) hP hD [7] [0, 1, 2, 3, 4, 5, 6, 8] rfl rfl (by decide) (by decide) hk1 hFc hP1 hD1
  clear hP1 hD1 hK1 hk1 hz1 hFc hDc hPc hKc
  generalize H1 = H at hP hS ⊢
  have hP : va_P (dC, dI) vwCl [(x0, .inr (4, [.ref x_row, .ref x_tree, .ref x_tally, .ref x_votes, .ref x_otherVotes, .ref x_wins, .ref x_fewest, .int 2, .int 1])), (x_row, .inr (0, [.ref x_cell, .int 0])), (x_cell, .inl (cyI, 160, .inl fc)), (x_tree, .inr (2, [.ref x_row, .ref x_joined, .ref x_from, .ref x_to, .ref x_size, .ref x_lossOf, .ref x_lessBy, .ref x_tvalue, .ref x_tnumber, .int 0, .int 0])), (x_from, .inl (cyI, 319, .inl ff)), (x_to, .inl (cyI, 319, .inl ft)), (x_tally, .inr (1, [.ref x_kind, .ref x_often, .int 0, .int 0])), (m_row, .inl (cyI, 160, .inl fm)), (m0, .inr (5, [.ref m_row, .int 0, .int 2, .int 1, .ref m_many, .ref m_loss, .ref m_less, .ref m_voteValue, .ref m_voteNumber, .ref m_allValue, .ref m_allNumber, .int 0, .ref m_nodeL, .ref m_nodeR, .int 0, .ref m_part, .int 0, .ref m_wasMany, .ref m_wasLoss, .ref m_wasValue, .ref m_wasNumber, .ref m_path, .int 0, .ref m_heavyValue, .ref m_heavyTimes, .int 0, .ref m_fewest, .ref m_which, .ref m_met, .int 0]))] H := hP
  have hD : va_D (fun q : Nat => s.heap.size ≤ q) [(x0, .inr (4, [.ref x_row, .ref x_tree, .ref x_tally, .ref x_votes, .ref x_otherVotes, .ref x_wins, .ref x_fewest, .int 2, .int 1])), (x_row, .inr (0, [.ref x_cell, .int 0])), (x_cell, .inl (cyI, 160, .inl fc)), (x_tree, .inr (2, [.ref x_row, .ref x_joined, .ref x_from, .ref x_to, .ref x_size, .ref x_lossOf, .ref x_lessBy, .ref x_tvalue, .ref x_tnumber, .int 0, .int 0])), (x_from, .inl (cyI, 319, .inl ff)), (x_to, .inl (cyI, 319, .inl ft)), (x_tally, .inr (1, [.ref x_kind, .ref x_often, .int 0, .int 0])), (m_row, .inl (cyI, 160, .inl fm)), (m0, .inr (5, [.ref m_row, .int 0, .int 2, .int 1, .ref m_many, .ref m_loss, .ref m_less, .ref m_voteValue, .ref m_voteNumber, .ref m_allValue, .ref m_allNumber, .int 0, .ref m_nodeL, .ref m_nodeR, .int 0, .ref m_part, .int 0, .ref m_wasMany, .ref m_wasLoss, .ref m_wasValue, .ref m_wasNumber, .ref m_path, .int 0, .ref m_heavyValue, .ref m_heavyTimes, .int 0, .ref m_fewest, .ref m_which, .ref m_met, .int 0]))] := hD
  subst w_2
  refine lv_istore (lv' := [(6, .int 0), (5, .int 1), (4, .int 0), (3, .ref q_o), (2, .ref m0), (1, .ref x0), (0, .ref b)]) hx hb dL_law_1179 hl (by decide) rfl (fun ls hl => ?_)
  refine lv_aload_n hx hb dL_law_1181 rfl (lv_at hl 4 rfl) ?_
  have hPc := hP.sub (ws' := [(m0, .inr (5, [.ref m_row, .int 0, .int 2, .int 1, .ref m_many, .ref m_loss, .ref m_less, .ref m_voteValue, .ref m_voteNumber, .ref m_allValue, .ref m_allNumber, .int 0, .ref m_nodeL, .ref m_nodeR, .int 0, .ref m_part, .int 0, .ref m_wasMany, .ref m_wasLoss, .ref m_wasValue, .ref m_wasNumber, .ref m_path, .int 0, .ref m_heavyValue, .ref m_heavyTimes, .int 0, .ref m_fewest, .ref m_which, .ref m_met, .int 0]))]) [8] rfl
  have hKc := hK.sub (tys' := []) [] rfl
  refine vp_callSi (W.runV (As := []) (rest := []) ⟨hx, hb, hml, hown, (lwC_X5_thrown hts0)⟩ (c_X5_thrown l dC dI m0 m_row m_many m_loss m_less m_voteValue m_voteNumber m_allValue m_allNumber m_nodeL m_nodeR m_part m_wasMany m_wasLoss m_wasValue m_wasNumber m_path m_heavyValue m_heavyTimes m_fewest m_which m_met 1) (cwV 0 (lwC_X5_thrown hts0) lwG_X5_thrown rfl rfl rfl (by decide +kernel) ⟨Nat.le_of_ble_eq_true rfl, Nat.le_of_ble_eq_true rfl⟩) ⟨fun a U g mk q => by obtain ⟨q0, qP, qK⟩ := q; exact ⟨q0, qP, va_K.moved (u := U) (U := U.calling g mk a) (Vm.Alike.refl U.vm) qK⟩, va_recv hKc hPc (ci := 5) (q0 := 0) rfl rfl, fun U hU hW => ⟨rfl, by rw [hU]; exact hPc, va_K.moved hW.alike hKc⟩⟩ rfl rfl hl.1 rfl (lv_room (Nat.le_of_ble_eq_true rfl)) dL_law_1182 ⟨Nat.le_of_ble_eq_true rfl, Nat.le_of_ble_eq_true rfl⟩) (fun r_3 w_3 => ?_)
  subst w_3
  refine lv_iload hx hb dL_law_1185 (lv_at hl 1 rfl) ?_
  refine lv_icmp_eq (tgt := 1192) hx hb dL_law_1187 (by decide) (fun c_4 => ?_) (fun c_4 => ?_)
  · refine lv_iload hx hb dL_law_1192 (lv_at hl 1 rfl) ?_
    refine lv_if_ne (tgt := 1209) hx hb dL_law_1194 (by decide) (fun c_5 => ?_) (fun c_5 => ?_)
    · refine lv_goto (tgt := 2400) hx hb dL_law_1209 (by decide) ?_
      refine W.widen (k := 100) (n := 30000) (Nat.le_of_ble_eq_true rfl) (Nat.le_of_ble_eq_true rfl) ?_
      exact lc_end C0 hS (lv_sub hl [2, 6] rfl)
    · exact absurd c_5 (by decide)
  · exact absurd c_4 (by decide)
