set_option maxHeartbeats 4000000 in
set_option maxRecDepth 100000 in
theorem lc_35 {p : Program} {l : Launch} {e : Env} {s : State} {m : MethodId} {below : List Frame} {meth : Method} {c : Code} {dC : Nat → ClassId} {dI : Nat → Nat → Nat} {b : Nat} {xs : Nat → Int32} (hl0 : l.stackTraces = false) (C0 : lw_At p s m meth c b 8 xs) (hth : ki_Th s) {x0 x_row x_tree x_tally x_votes x_otherVotes x_wins x_fewest x_cell x_joined x_from x_to x_size x_lossOf x_lessBy x_tvalue x_tnumber x_kind x_often m0 m_row m_many m_loss m_less m_voteValue m_voteNumber m_allValue m_allNumber m_nodeL m_nodeR m_part m_wasMany m_wasLoss m_wasValue m_wasNumber m_path m_heavyValue m_heavyTimes m_fewest m_which m_met q_o : Nat} {cyI : ClassId} {fc ff ft fm : Nat → Int32} {H : Heap} {locs : List Loc} (hK : va_K (dC, dI) vwCl [(cyI, .int)] s) (hP : va_P (dC, dI) vwCl [(x0, .inr (4, [.ref x_row, .ref x_tree, .ref x_tally, .ref x_votes, .ref x_otherVotes, .ref x_wins, .ref x_fewest, .int 2, .int 1])), (x_row, .inr (0, [.ref x_cell, .int 0])), (x_cell, .inl (cyI, 160, .inl fc)), (x_tree, .inr (2, [.ref x_row, .ref x_joined, .ref x_from, .ref x_to, .ref x_size, .ref x_lossOf, .ref x_lessBy, .ref x_tvalue, .ref x_tnumber, .int 0, .int 0])), (x_from, .inl (cyI, 319, .inl ff)), (x_to, .inl (cyI, 319, .inl ft)), (x_tally, .inr (1, [.ref x_kind, .ref x_often, .int 0, .int 0])), (m0, .inr (5, [.ref m_row, .int 0, .int 2, .int 0, .ref m_many, .ref m_loss, .ref m_less, .ref m_voteValue, .ref m_voteNumber, .ref m_allValue, .ref m_allNumber, .int 0, .ref m_nodeL, .ref m_nodeR, .int 0, .ref m_part, .int 0, .ref m_wasMany, .ref m_wasLoss, .ref m_wasValue, .ref m_wasNumber, .ref m_path, .int 0, .ref m_heavyValue, .ref m_heavyTimes, .int 0, .ref m_fewest, .ref m_which, .ref m_met, .int 0])), (m_row, .inl (cyI, 160, .inl fm))] H) (hD : va_D (fun q : Nat => s.heap.size ≤ q) [(x0, .inr (4, [.ref x_row, .ref x_tree, .ref x_tally, .ref x_votes, .ref x_otherVotes, .ref x_wins, .ref x_fewest, .int 2, .int 1])), (x_row, .inr (0, [.ref x_cell, .int 0])), (x_cell, .inl (cyI, 160, .inl fc)), (x_tree, .inr (2, [.ref x_row, .ref x_joined, .ref x_from, .ref x_to, .ref x_size, .ref x_lossOf, .ref x_lessBy, .ref x_tvalue, .ref x_tnumber, .int 0, .int 0])), (x_from, .inl (cyI, 319, .inl ff)), (x_to, .inl (cyI, 319, .inl ft)), (x_tally, .inr (1, [.ref x_kind, .ref x_often, .int 0, .int 0])), (m0, .inr (5, [.ref m_row, .int 0, .int 2, .int 0, .ref m_many, .ref m_loss, .ref m_less, .ref m_voteValue, .ref m_voteNumber, .ref m_allValue, .ref m_allNumber, .int 0, .ref m_nodeL, .ref m_nodeR, .int 0, .ref m_part, .int 0, .ref m_wasMany, .ref m_wasLoss, .ref m_wasValue, .ref m_wasNumber, .ref m_path, .int 0, .ref m_heavyValue, .ref m_heavyTimes, .int 0, .ref m_fewest, .ref m_which, .ref m_met, .int 0])), (m_row, .inl (cyI, 160, .inl fm))]) (hS : va_S (fun q : Nat => s.heap.size ≤ q) s.heap H locs) {ls : Array Slot} (hl : lv_has ls 7 [(4, .int 0), (3, .ref q_o), (2, .ref m0), (1, .ref x0), (0, .ref b)]) : W p l e room_1 s m #[Value.ref b] below meth c H locs 60 20000 (lw_Z below #[Value.ref b] s) (F0 m 1959 ls []) := by
  obtain ⟨hx, hb, hr, hml, hown, hts0, hX, hbl, hlocks, hgv⟩ := id C0
  have hts := hts0
  have hA : ∀ q : Nat, s.heap.size ≤ q → (fun q : Nat => s.heap.size ≤ q) q := fun _ h => h
  have hbA : ¬ (fun q : Nat => s.heap.size ≤ q) b := Nat.not_le.mpr hbl
  have hown : s.vm.findClass RL = some m.cls := hown
  have hb : c.code = cL_law := hb
  refine lv_aload_n hx hb dL_law_1959 rfl (lv_at hl 3 rfl) ?_
  refine lv_aload_n hx hb dL_law_1960 rfl (lv_at hl 4 rfl) ?_
  refine lv_iload hx hb dL_law_1961 (lv_at hl 0 rfl) ?_
  refine lv_iconst (v := 1) hx hb dL_law_1963 (by decide) ?_
  refine lv_iadd hx hb dL_law_1964 ?_
  refine W.eq (g2 := F0 m 1965 ls [.int 1, .ref b, .ref x0]) (by first | rfl | (congr 2; decide)) ?_
  refine va_sld hx hb hX hbl hbA hS (i := 1) (ki_inl (by decide)) dL_law_1965 ?_
  refine lv_aload_n hx hb dL_law_1966 rfl (lv_at hl 4 rfl) ?_
  refine lv_iload hx hb dL_law_1967 (lv_at hl 0 rfl) ?_
  refine lv_iconst (v := 2) hx hb dL_law_1969 (by decide) ?_
  refine lv_iadd hx hb dL_law_1970 ?_
  refine W.eq (g2 := F0 m 1971 ls [.int 2, .ref b, .int (xs (1 : Int32).toNatClampNeg), .ref x0]) (by first | rfl | (congr 2; decide)) ?_
  refine va_sld hx hb hX hbl hbA hS (i := 2) (ki_inl (by decide)) dL_law_1971 ?_
  have hPc := hP.sub (ws' := [(x0, .inr (4, [.ref x_row, .ref x_tree, .ref x_tally, .ref x_votes, .ref x_otherVotes, .ref x_wins, .ref x_fewest, .int 2, .int 1])), (x_row, .inr (0, [.ref x_cell, .int 0]))]) [0, 1] rfl
  have hKc := hK.sub (tys' := []) [] rfl
  refine vp_callSi (W.runV (As := [.int (xs (1 : Int32).toNatClampNeg), .int (xs (2 : Int32).toNatClampNeg)]) (rest := []) ⟨hx, hb, hml, hown, (lwC_X4_parted hts0)⟩ (c_X4_parted l dC dI x0 x_row x_tree x_tally x_votes x_otherVotes x_wins x_fewest x_cell (xs (1 : Int32).toNatClampNeg) (xs (2 : Int32).toNatClampNeg)) (cwV 2 (lwC_X4_parted hts0) lwG_X4_parted rfl rfl rfl (by decide +kernel) ⟨Nat.le_of_ble_eq_true rfl, Nat.le_of_ble_eq_true rfl⟩) ⟨fun a U g mk q => by obtain ⟨q0, qP, qK⟩ := q; exact ⟨q0, qP, va_K.moved (u := U) (U := U.calling g mk a) (Vm.Alike.refl U.vm) qK⟩, va_recv hKc hPc (ci := 4) (q0 := 0) rfl rfl, fun U hU hW => ⟨rfl, by rw [hU]; exact hPc, va_K.moved hW.alike hKc⟩⟩ rfl rfl hl.1 rfl (lv_room (Nat.le_of_ble_eq_true rfl)) dL_law_1972 ⟨Nat.le_of_ble_eq_true rfl, Nat.le_of_ble_eq_true rfl⟩) (fun r_1 w_1 => ?_)
  subst w_1
  refine lv_aload_n hx hb dL_law_1975 rfl (lv_at hl 2 rfl) ?_
  refine lv_aload_n hx hb dL_law_1976 rfl (lv_at hl 4 rfl) ?_
  refine lv_iload hx hb dL_law_1977 (lv_at hl 0 rfl) ?_
  refine lv_iconst (v := 1) hx hb dL_law_1979 (by decide) ?_
  refine lv_iadd hx hb dL_law_1980 ?_
  refine W.eq (g2 := F0 m 1981 ls [.int 1, .ref b, .ref m0, .int (-1)]) (by first | rfl | (congr 2; decide)) ?_
  refine va_sld hx hb hX hbl hbA hS (i := 1) (ki_inl (by decide)) dL_law_1981 ?_
  refine lv_aload_n hx hb dL_law_1982 rfl (lv_at hl 4 rfl) ?_
  refine lv_iload hx hb dL_law_1983 (lv_at hl 0 rfl) ?_
  refine lv_iconst (v := 2) hx hb dL_law_1985 (by decide) ?_
  refine lv_iadd hx hb dL_law_1986 ?_
  refine W.eq (g2 := F0 m 1987 ls [.int 2, .ref b, .int (xs (1 : Int32).toNatClampNeg), .ref m0, .int (-1)]) (by first | rfl | (congr 2; decide)) ?_
  refine va_sld hx hb hX hbl hbA hS (i := 2) (ki_inl (by decide)) dL_law_1987 ?_
  have hPc := hP.sub (ws' := [(m0, .inr (5, [.ref m_row, .int 0, .int 2, .int 0, .ref m_many, .ref m_loss, .ref m_less, .ref m_voteValue, .ref m_voteNumber, .ref m_allValue, .ref m_allNumber, .int 0, .ref m_nodeL, .ref m_nodeR, .int 0, .ref m_part, .int 0, .ref m_wasMany, .ref m_wasLoss, .ref m_wasValue, .ref m_wasNumber, .ref m_path, .int 0, .ref m_heavyValue, .ref m_heavyTimes, .int 0, .ref m_fewest, .ref m_which, .ref m_met, .int 0]))]) [7] rfl
  have hKc := hK.sub (tys' := []) [] rfl
  have hDc := hD.sub (ws' := [(m0, .inr (5, [.ref m_row, .int 0, .int 2, .int 0, .ref m_many, .ref m_loss, .ref m_less, .ref m_voteValue, .ref m_voteNumber, .ref m_allValue, .ref m_allNumber, .int 0, .ref m_nodeL, .ref m_nodeR, .int 0, .ref m_part, .int 0, .ref m_wasMany, .ref m_wasLoss, .ref m_wasValue, .ref m_wasNumber, .ref m_path, .int 0, .ref m_heavyValue, .ref m_heavyTimes, .int 0, .ref m_fewest, .ref m_which, .ref m_met, .int 0]))]) [7] (by decide) rfl
  have hFc := va_free (wc := [(m0, .inr (5, [.ref m_row, .int 0, .int 2, .int 0, .ref m_many, .ref m_loss, .ref m_less, .ref m_voteValue, .ref m_voteNumber, .ref m_allValue, .ref m_allNumber, .int 0, .ref m_nodeL, .ref m_nodeR, .int 0, .ref m_part, .int 0, .ref m_wasMany, .ref m_wasLoss, .ref m_wasValue, .ref m_wasNumber, .ref m_path, .int 0, .ref m_heavyValue, .ref m_heavyTimes, .int 0, .ref m_fewest, .ref m_which, .ref m_met, .int 0]))]) hD hS hA [7] rfl
  refine va_calli (va_runV (As := [.int (xs (1 : Int32).toNatClampNeg), .int (xs (2 : Int32).toNatClampNeg)]) (rest := [.int (-1)]) ⟨hx, hb, hml, hown, (lwC_X5_parted hts0)⟩ (c_X5_parted l dC dI m0 m_row m_many m_loss m_less m_voteValue m_voteNumber m_allValue m_allNumber m_nodeL m_nodeR m_part m_wasMany m_wasLoss m_wasValue m_wasNumber m_path m_heavyValue m_heavyTimes m_fewest m_which m_met (xs (1 : Int32).toNatClampNeg) (xs (2 : Int32).toNatClampNeg) H.size) (cwV 2 (lwC_X5_parted hts0) lwG_X5_parted rfl rfl rfl (by decide +kernel) ⟨Nat.le_of_ble_eq_true rfl, Nat.le_of_ble_eq_true rfl⟩) ⟨fun a U g mk q => by obtain ⟨q0, q1, qP, qK, qD⟩ := q; exact ⟨q0, q1, qP, va_K.moved (u := U) (U := U.calling g mk a) (Vm.Alike.refl U.vm) qK, qD⟩, va_recv hKc hPc (ci := 5) (q0 := 0) rfl rfl, fun U hU hW => ⟨rfl, by rw [hU], by rw [hU]; exact hPc, va_K.moved hW.alike hKc, hDc.weaken (fun _ _ _ _ => trivial)⟩⟩ rfl rfl hl.1 rfl (lv_room (Nat.le_of_ble_eq_true rfl)) dL_law_1988 ⟨Nat.le_of_ble_eq_true rfl, Nat.le_of_ble_eq_true rfl⟩) hS (fun q _ h => hFc q h) hFc (fun r_2 u t H1 locs ht hvm w_2 hB hz1 hk1 hS => ?_)
  obtain ⟨hP1, hK1, hD1⟩ := hB
  rw [ht] at hP1
  have hK1 := va_K.moved hvm.symm hK1
  obtain ⟨hP, hD⟩ := va_join (wr := [(x0, .inr (4, [.ref x_row, .ref x_tree, .ref x_tally, .ref x_votes, .ref x_otherVotes, .ref x_wins, .ref x_fewest, .int 2, .int 1])), (x_row, .inr (0, [.ref x_cell, .int 0])), (x_cell, .inl (cyI, 160, .inl fc)), (x_tree, .inr (2, [.ref x_row, .ref x_joined, .ref x_from, .ref x_to, .ref x_size, .ref x_lossOf, .ref x_lessBy, .ref x_tvalue, .ref x_tnumber, .int 0, .int 0])), (x_from, .inl (cyI, 319, .inl ff)), (x_to, .inl (cyI, 319, .inl ft)), (x_tally, .inr (1, [.ref x_kind, .ref x_often, .int 0, .int 0])), (m_row, .inl (cyI, 160, .inl fm))]) (w1 := []) hP hD [7] [0, 1, 2, 3, 4, 5, 6, 8] rfl rfl (by decide) (by decide) hk1 hFc hP1 hD1
  clear hP1 hD1 hK1 hk1 hz1 hFc hDc hPc hKc
  generalize H1 = H at hP hS ⊢
  have hP : va_P (dC, dI) vwCl [(x0, .inr (4, [.ref x_row, .ref x_tree, .ref x_tally, .ref x_votes, .ref x_otherVotes, .ref x_wins, .ref x_fewest, .int 2, .int 1])), (x_row, .inr (0, [.ref x_cell, .int 0])), (x_cell, .inl (cyI, 160, .inl fc)), (x_tree, .inr (2, [.ref x_row, .ref x_joined, .ref x_from, .ref x_to, .ref x_size, .ref x_lossOf, .ref x_lessBy, .ref x_tvalue, .ref x_tnumber, .int 0, .int 0])), (x_from, .inl (cyI, 319, .inl ff)), (x_to, .inl (cyI, 319, .inl ft)), (x_tally, .inr (1, [.ref x_kind, .ref x_often, .int 0, .int 0])), (m_row, .inl (cyI, 160, .inl fm))] H := hP
  have hD : va_D (fun q : Nat => s.heap.size ≤ q) [(x0, .inr (4, [.ref x_row, .ref x_tree, .ref x_tally, .ref x_votes, .ref x_otherVotes, .ref x_wins, .ref x_fewest, .int 2, .int 1])), (x_row, .inr (0, [.ref x_cell, .int 0])), (x_cell, .inl (cyI, 160, .inl fc)), (x_tree, .inr (2, [.ref x_row, .ref x_joined, .ref x_from, .ref x_to, .ref x_size, .ref x_lossOf, .ref x_lessBy, .ref x_tvalue, .ref x_tnumber, .int 0, .int 0])), (x_from, .inl (cyI, 319, .inl ff)), (x_to, .inl (cyI, 319, .inl ft)), (x_tally, .inr (1, [.ref x_kind, .ref x_often, .int 0, .int 0])), (m_row, .inl (cyI, 160, .inl fm))] := hD
  subst w_2
  refine lv_icmp_eq (tgt := 2400) hx hb dL_law_1991 (by decide) (fun c_3 => ?_) (fun c_3 => ?_)
  · refine W.widen (k := 100) (n := 30000) (Nat.le_of_ble_eq_true rfl) (Nat.le_of_ble_eq_true rfl) ?_
    exact lc_end C0 hS (lv_sub hl [0, 4] rfl)
  · exact absurd c_3 (by decide)

set_option maxHeartbeats 4000000 in
set_option maxRecDepth 100000 in
theorem lc_36 {p : Program} {l : Launch} {e : Env} {s : State} {m : MethodId} {below : List Frame} {meth : Method} {c : Code} {dC : Nat → ClassId} {dI : Nat → Nat → Nat} {b : Nat} {xs : Nat → Int32} (hl0 : l.stackTraces = false) (C0 : lw_At p s m meth c b 8 xs) (hth : ki_Th s) {x0 x_row x_tree x_tally x_votes x_otherVotes x_wins x_fewest x_cell x_joined x_from x_to x_size x_lossOf x_lessBy x_tvalue x_tnumber x_kind x_often m0 m_row m_many m_loss m_less m_voteValue m_voteNumber m_allValue m_allNumber m_nodeL m_nodeR m_part m_wasMany m_wasLoss m_wasValue m_wasNumber m_path m_heavyValue m_heavyTimes m_fewest m_which m_met q_o : Nat} {cyI : ClassId} {fc ff ft fm : Nat → Int32} {H : Heap} {locs : List Loc} (hK : va_K (dC, dI) vwCl [(cyI, .int)] s) (hP : va_P (dC, dI) vwCl [(x0, .inr (4, [.ref x_row, .ref x_tree, .ref x_tally, .ref x_votes, .ref x_otherVotes, .ref x_wins, .ref x_fewest, .int 2, .int 1])), (x_row, .inr (0, [.ref x_cell, .int 0])), (x_cell, .inl (cyI, 160, .inl fc)), (x_tree, .inr (2, [.ref x_row, .ref x_joined, .ref x_from, .ref x_to, .ref x_size, .ref x_lossOf, .ref x_lessBy, .ref x_tvalue, .ref x_tnumber, .int 0, .int 0])), (x_from, .inl (cyI, 319, .inl ff)), (x_to, .inl (cyI, 319, .inl ft)), (x_tally, .inr (1, [.ref x_kind, .ref x_often, .int 0, .int 0])), (m0, .inr (5, [.ref m_row, .int 0, .int 2, .int 0, .ref m_many, .ref m_loss, .ref m_less, .ref m_voteValue, .ref m_voteNumber, .ref m_allValue, .ref m_allNumber, .int 0, .ref m_nodeL, .ref m_nodeR, .int 0, .ref m_part, .int 0, .ref m_wasMany, .ref m_wasLoss, .ref m_wasValue, .ref m_wasNumber, .ref m_path, .int 0, .ref m_heavyValue, .ref m_heavyTimes, .int 0, .ref m_fewest, .ref m_which, .ref m_met, .int 0])), (m_row, .inl (cyI, 160, .inl fm))] H) (hD : va_D (fun q : Nat => s.heap.size ≤ q) [(x0, .inr (4, [.ref x_row, .ref x_tree, .ref x_tally, .ref x_votes, .ref x_otherVotes, .ref x_wins, .ref x_fewest, .int 2, .int 1])), (x_row, .inr (0, [.ref x_cell, .int 0])), (x_cell, .inl (cyI, 160, .inl fc)), (x_tree, .inr (2, [.ref x_row, .ref x_joined, .ref x_from, .ref x_to, .ref x_size, .ref x_lossOf, .ref x_lessBy, .ref x_tvalue, .ref x_tnumber, .int 0, .int 0])), (x_from, .inl (cyI, 319, .inl ff)), (x_to, .inl (cyI, 319, .inl ft)), (x_tally, .inr (1, [.ref x_kind, .ref x_often, .int 0, .int 0])), (m0, .inr (5, [.ref m_row, .int 0, .int 2, .int 0, .ref m_many, .ref m_loss, .ref m_less, .ref m_voteValue, .ref m_voteNumber, .ref m_allValue, .ref m_allNumber, .int 0, .ref m_nodeL, .ref m_nodeR, .int 0, .ref m_part, .int 0, .ref m_wasMany, .ref m_wasLoss, .ref m_wasValue, .ref m_wasNumber, .ref m_path, .int 0, .ref m_heavyValue, .ref m_heavyTimes, .int 0, .ref m_fewest, .ref m_which, .ref m_met, .int 0])), (m_row, .inl (cyI, 160, .inl fm))]) (hS : va_S (fun q : Nat => s.heap.size ≤ q) s.heap H locs) {ls : Array Slot} (hl : lv_has ls 7 [(4, .int 0), (3, .ref q_o), (2, .ref m0), (1, .ref x0), (0, .ref b)]) : W p l e room_1 s m #[Value.ref b] below meth c H locs 60 20000 (lw_Z below #[Value.ref b] s) (F0 m 1996 ls []) := by
  obtain ⟨hx, hb, hr, hml, hown, hts0, hX, hbl, hlocks, hgv⟩ := id C0
  have hts := hts0
  have hA : ∀ q : Nat, s.heap.size ≤ q → (fun q : Nat => s.heap.size ≤ q) q := fun _ h => h
  have hbA : ¬ (fun q : Nat => s.heap.size ≤ q) b := Nat.not_le.mpr hbl
  have hown : s.vm.findClass RL = some m.cls := hown
  have hb : c.code = cL_law := hb
  refine lv_aload_n hx hb dL_law_1996 rfl (lv_at hl 3 rfl) ?_
  refine lv_aload_n hx hb dL_law_1997 rfl (lv_at hl 4 rfl) ?_
  refine lv_iload hx hb dL_law_1998 (lv_at hl 0 rfl) ?_
  refine lv_iconst (v := 1) hx hb dL_law_2000 (by decide) ?_
  refine lv_iadd hx hb dL_law_2001 ?_
  refine W.eq (g2 := F0 m 2002 ls [.int 1, .ref b, .ref x0]) (by first | rfl | (congr 2; decide)) ?_
  refine va_sld hx hb hX hbl hbA hS (i := 1) (ki_inl (by decide)) dL_law_2002 ?_
  refine lv_aload_n hx hb dL_law_2003 rfl (lv_at hl 4 rfl) ?_
  refine lv_iload hx hb dL_law_2004 (lv_at hl 0 rfl) ?_
  refine lv_iconst (v := 2) hx hb dL_law_2006 (by decide) ?_
  refine lv_iadd hx hb dL_law_2007 ?_
  refine W.eq (g2 := F0 m 2008 ls [.int 2, .ref b, .int (xs (1 : Int32).toNatClampNeg), .ref x0]) (by first | rfl | (congr 2; decide)) ?_
  refine va_sld hx hb hX hbl hbA hS (i := 2) (ki_inl (by decide)) dL_law_2008 ?_
  have hPc := hP.sub (ws' := [(x0, .inr (4, [.ref x_row, .ref x_tree, .ref x_tally, .ref x_votes, .ref x_otherVotes, .ref x_wins, .ref x_fewest, .int 2, .int 1])), (x_row, .inr (0, [.ref x_cell, .int 0]))]) [0, 1] rfl
  have hKc := hK.sub (tys' := []) [] rfl
  refine vp_callSi (W.runV (As := [.int (xs (1 : Int32).toNatClampNeg), .int (xs (2 : Int32).toNatClampNeg)]) (rest := []) ⟨hx, hb, hml, hown, (lwC_X4_cut hts0)⟩ (c_X4_cut l dC dI x0 x_row x_tree x_tally x_votes x_otherVotes x_wins x_fewest x_cell (xs (1 : Int32).toNatClampNeg) (xs (2 : Int32).toNatClampNeg)) (cwV 2 (lwC_X4_cut hts0) lwG_X4_cut rfl rfl rfl (by decide +kernel) ⟨Nat.le_of_ble_eq_true rfl, Nat.le_of_ble_eq_true rfl⟩) ⟨fun a U g mk q => by obtain ⟨q0, qP, qK⟩ := q; exact ⟨q0, qP, va_K.moved (u := U) (U := U.calling g mk a) (Vm.Alike.refl U.vm) qK⟩, va_recv hKc hPc (ci := 4) (q0 := 0) rfl rfl, fun U hU hW => ⟨rfl, by rw [hU]; exact hPc, va_K.moved hW.alike hKc⟩⟩ rfl rfl hl.1 rfl (lv_room (Nat.le_of_ble_eq_true rfl)) dL_law_2009 ⟨Nat.le_of_ble_eq_true rfl, Nat.le_of_ble_eq_true rfl⟩) (fun r_1 w_1 => ?_)
  subst w_1
  refine lv_aload_n hx hb dL_law_2012 rfl (lv_at hl 2 rfl) ?_
  refine lv_aload_n hx hb dL_law_2013 rfl (lv_at hl 4 rfl) ?_
  refine lv_iload hx hb dL_law_2014 (lv_at hl 0 rfl) ?_
  refine lv_iconst (v := 1) hx hb dL_law_2016 (by decide) ?_
  refine lv_iadd hx hb dL_law_2017 ?_
  refine W.eq (g2 := F0 m 2018 ls [.int 1, .ref b, .ref m0, .int (-1)]) (by first | rfl | (congr 2; decide)) ?_
  refine va_sld hx hb hX hbl hbA hS (i := 1) (ki_inl (by decide)) dL_law_2018 ?_
  refine lv_aload_n hx hb dL_law_2019 rfl (lv_at hl 4 rfl) ?_
  refine lv_iload hx hb dL_law_2020 (lv_at hl 0 rfl) ?_
  refine lv_iconst (v := 2) hx hb dL_law_2022 (by decide) ?_
  refine lv_iadd hx hb dL_law_2023 ?_
  refine W.eq (g2 := F0 m 2024 ls [.int 2, .ref b, .int (xs (1 : Int32).toNatClampNeg), .ref m0, .int (-1)]) (by first | rfl | (congr 2; decide)) ?_
  refine va_sld hx hb hX hbl hbA hS (i := 2) (ki_inl (by decide)) dL_law_2024 ?_
  have hPc := hP.sub (ws' := [(m0, .inr (5, [.ref m_row, .int 0, .int 2, .int 0, .ref m_many, .ref m_loss, .ref m_less, .ref m_voteValue, .ref m_voteNumber, .ref m_allValue, .ref m_allNumber, .int 0, .ref m_nodeL, .ref m_nodeR, .int 0, .ref m_part, .int 0, .ref m_wasMany, .ref m_wasLoss, .ref m_wasValue, .ref m_wasNumber, .ref m_path, .int 0, .ref m_heavyValue, .ref m_heavyTimes, .int 0, .ref m_fewest, .ref m_which, .ref m_met, .int 0]))]) [7] rfl
  have hKc := hK.sub (tys' := []) [] rfl
  have hDc := hD.sub (ws' := [(m0, .inr (5, [.ref m_row, .int 0, .int 2, .int 0, .ref m_many, .ref m_loss, .ref m_less, .ref m_voteValue, .ref m_voteNumber, .ref m_allValue, .ref m_allNumber, .int 0, .ref m_nodeL, .ref m_nodeR, .int 0, .ref m_part, .int 0, .ref m_wasMany, .ref m_wasLoss, .ref m_wasValue, .ref m_wasNumber, .ref m_path, .int 0, .ref m_heavyValue, .ref m_heavyTimes, .int 0, .ref m_fewest, .ref m_which, .ref m_met, .int 0]))]) [7] (by decide) rfl
  have hFc := va_free (wc := [(m0, .inr (5, [.ref m_row, .int 0, .int 2, .int 0, .ref m_many, .ref m_loss, .ref m_less, .ref m_voteValue, .ref m_voteNumber, .ref m_allValue, .ref m_allNumber, .int 0, .ref m_nodeL, .ref m_nodeR, .int 0, .ref m_part, .int 0, .ref m_wasMany, .ref m_wasLoss, .ref m_wasValue, .ref m_wasNumber, .ref m_path, .int 0, .ref m_heavyValue, .ref m_heavyTimes, .int 0, .ref m_fewest, .ref m_which, .ref m_met, .int 0]))]) hD hS hA [7] rfl
  refine va_calli (va_runV (As := [.int (xs (1 : Int32).toNatClampNeg), .int (xs (2 : Int32).toNatClampNeg)]) (rest := [.int (-1)]) ⟨hx, hb, hml, hown, (lwC_X5_cut hts0)⟩ (c_X5_cut l dC dI m0 m_row m_many m_loss m_less m_voteValue m_voteNumber m_allValue m_allNumber m_nodeL m_nodeR m_part m_wasMany m_wasLoss m_wasValue m_wasNumber m_path m_heavyValue m_heavyTimes m_fewest m_which m_met (xs (1 : Int32).toNatClampNeg) (xs (2 : Int32).toNatClampNeg) H.size) (cwV 2 (lwC_X5_cut hts0) lwG_X5_cut rfl rfl rfl (by decide +kernel) ⟨Nat.le_of_ble_eq_true rfl, Nat.le_of_ble_eq_true rfl⟩) ⟨fun a U g mk q => by obtain ⟨q0, q1, qP, qK, qD⟩ := q; exact ⟨q0, q1, qP, va_K.moved (u := U) (U := U.calling g mk a) (Vm.Alike.refl U.vm) qK, qD⟩, va_recv hKc hPc (ci := 5) (q0 := 0) rfl rfl, fun U hU hW => ⟨rfl, by rw [hU], by rw [hU]; exact hPc, va_K.moved hW.alike hKc, hDc.weaken (fun _ _ _ _ => trivial)⟩⟩ rfl rfl hl.1 rfl (lv_room (Nat.le_of_ble_eq_true rfl)) dL_law_2025 ⟨Nat.le_of_ble_eq_true rfl, Nat.le_of_ble_eq_true rfl⟩) hS (fun q _ h => hFc q h) hFc (fun r_2 u t H1 locs ht hvm w_2 hB hz1 hk1 hS => ?_)
  obtain ⟨hP1, hK1, hD1⟩ := hB
  rw [ht] at hP1
  have hK1 := va_K.moved hvm.symm hK1
  obtain ⟨hP, hD⟩ := va_join (wr := [(x0, .inr (4, [.ref x_row, .ref x_tree, .ref x_tally, .ref x_votes, .ref x_otherVotes, .ref x_wins, .ref x_fewest, .int 2, .int 1])), (x_row, .inr (0, [.ref x_cell, .int 0])), (x_cell, .inl (cyI, 160, .inl fc)), (x_tree, .inr (2, [.ref x_row, .ref x_joined, .ref x_from, .ref x_to, .ref x_size, .ref x_lossOf, .ref x_lessBy, .ref x_tvalue, .ref x_tnumber, .int 0, .int 0])), (x_from, .inl (cyI, 319, .inl ff)), (x_to, .inl (cyI, 319, .inl ft)), (x_tally, .inr (1, [.ref x_kind, .ref x_often, .int 0, .int 0])), (m_row, .inl (cyI, 160, .inl fm))]) (w1 := []) hP hD [7] [0, 1, 2, 3, 4, 5, 6, 8] rfl rfl (by decide) (by decide) hk1 hFc hP1 hD1
  clear hP1 hD1 hK1 hk1 hz1 hFc hDc hPc hKc
  generalize H1 = H at hP hS ⊢
  have hP : va_P (dC, dI) vwCl [(x0, .inr (4, [.ref x_row, .ref x_tree, .ref x_tally, .ref x_votes, .ref x_otherVotes, .ref x_wins, .ref x_fewest, .int 2, .int 1])), (x_row, .inr (0, [.ref x_cell, .int 0])), (x_cell, .inl (cyI, 160, .inl fc)), (x_tree, .inr (2, [.ref x_row, .ref x_joined, .ref x_from, .ref x_to, .ref x_size, .ref x_lossOf, .ref x_lessBy, .ref x_tvalue, .ref x_tnumber, .int 0, .int 0])), (x_from, .inl (cyI, 319, .inl ff)), (x_to, .inl (cyI, 319, .inl ft)), (x_tally, .inr (1, [.ref x_kind, .ref x_often, .int 0, .int 0])), (m_row, .inl (cyI, 160, .inl fm))] H := hP
  have hD : va_D (fun q : Nat => s.heap.size ≤ q) [(x0, .inr (4, [.ref x_row, .ref x_tree, .ref x_tally, .ref x_votes, .ref x_otherVotes, .ref x_wins, .ref x_fewest, .int 2, .int 1])), (x_row, .inr (0, [.ref x_cell, .int 0])), (x_cell, .inl (cyI, 160, .inl fc)), (x_tree, .inr (2, [.ref x_row, .ref x_joined, .ref x_from, .ref x_to, .ref x_size, .ref x_lossOf, .ref x_lessBy, .ref x_tvalue, .ref x_tnumber, .int 0, .int 0])), (x_from, .inl (cyI, 319, .inl ff)), (x_to, .inl (cyI, 319, .inl ft)), (x_tally, .inr (1, [.ref x_kind, .ref x_often, .int 0, .int 0])), (m_row, .inl (cyI, 160, .inl fm))] := hD
  subst w_2
  refine lv_icmp_eq (tgt := 2400) hx hb dL_law_2028 (by decide) (fun c_3 => ?_) (fun c_3 => ?_)
  · refine W.widen (k := 100) (n := 30000) (Nat.le_of_ble_eq_true rfl) (Nat.le_of_ble_eq_true rfl) ?_
    exact lc_end C0 hS (lv_sub hl [0, 4] rfl)
  · exact absurd c_3 (by decide)

set_option maxHeartbeats 4000000 in
set_option maxRecDepth 100000 in
theorem lc_37 {p : Program} {l : Launch} {e : Env} {s : State} {m : MethodId} {below : List Frame} {meth : Method} {c : Code} {dC : Nat → ClassId} {dI : Nat → Nat → Nat} {b : Nat} {xs : Nat → Int32} (hl0 : l.stackTraces = false) (C0 : lw_At p s m meth c b 8 xs) (hth : ki_Th s) {x0 x_row x_tree x_tally x_votes x_otherVotes x_wins x_fewest x_cell x_joined x_from x_to x_size x_lossOf x_lessBy x_tvalue x_tnumber x_kind x_often m0 m_row m_many m_loss m_less m_voteValue m_voteNumber m_allValue m_allNumber m_nodeL m_nodeR m_part m_wasMany m_wasLoss m_wasValue m_wasNumber m_path m_heavyValue m_heavyTimes m_fewest m_which m_met q_o : Nat} {cyI : ClassId} {fc ff ft fm : Nat → Int32} {H : Heap} {locs : List Loc} (hK : va_K (dC, dI) vwCl [(cyI, .int)] s) (hP : va_P (dC, dI) vwCl [(x0, .inr (4, [.ref x_row, .ref x_tree, .ref x_tally, .ref x_votes, .ref x_otherVotes, .ref x_wins, .ref x_fewest, .int 2, .int 1])), (x_row, .inr (0, [.ref x_cell, .int 0])), (x_cell, .inl (cyI, 160, .inl fc)), (x_tree, .inr (2, [.ref x_row, .ref x_joined, .ref x_from, .ref x_to, .ref x_size, .ref x_lossOf, .ref x_lessBy, .ref x_tvalue, .ref x_tnumber, .int 0, .int 0])), (x_from, .inl (cyI, 319, .inl ff)), (x_to, .inl (cyI, 319, .inl ft)), (x_tally, .inr (1, [.ref x_kind, .ref x_often, .int 0, .int 0])), (m0, .inr (5, [.ref m_row, .int 0, .int 2, .int 0, .ref m_many, .ref m_loss, .ref m_less, .ref m_voteValue, .ref m_voteNumber, .ref m_allValue, .ref m_allNumber, .int 0, .ref m_nodeL, .ref m_nodeR, .int 0, .ref m_part, .int 0, .ref m_wasMany, .ref m_wasLoss, .ref m_wasValue, .ref m_wasNumber, .ref m_path, .int 0, .ref m_heavyValue, .ref m_heavyTimes, .int 0, .ref m_fewest, .ref m_which, .ref m_met, .int 0])), (m_row, .inl (cyI, 160, .inl fm))] H) (hD : va_D (fun q : Nat => s.heap.size ≤ q) [(x0, .inr (4, [.ref x_row, .ref x_tree, .ref x_tally, .ref x_votes, .ref x_otherVotes, .ref x_wins, .ref x_fewest, .int 2, .int 1])), (x_row, .inr (0, [.ref x_cell, .int 0])), (x_cell, .inl (cyI, 160, .inl fc)), (x_tree, .inr (2, [.ref x_row, .ref x_joined, .ref x_from, .ref x_to, .ref x_size, .ref x_lossOf, .ref x_lessBy, .ref x_tvalue, .ref x_tnumber, .int 0, .int 0])), (x_from, .inl (cyI, 319, .inl ff)), (x_to, .inl (cyI, 319, .inl ft)), (x_tally, .inr (1, [.ref x_kind, .ref x_often, .int 0, .int 0])), (m0, .inr (5, [.ref m_row, .int 0, .int 2, .int 0, .ref m_many, .ref m_loss, .ref m_less, .ref m_voteValue, .ref m_voteNumber, .ref m_allValue, .ref m_allNumber, .int 0, .ref m_nodeL, .ref m_nodeR, .int 0, .ref m_part, .int 0, .ref m_wasMany, .ref m_wasLoss, .ref m_wasValue, .ref m_wasNumber, .ref m_path, .int 0, .ref m_heavyValue, .ref m_heavyTimes, .int 0, .ref m_fewest, .ref m_which, .ref m_met, .int 0])), (m_row, .inl (cyI, 160, .inl fm))]) (hS : va_S (fun q : Nat => s.heap.size ≤ q) s.heap H locs) {ls : Array Slot} (hl : lv_has ls 7 [(4, .int 0), (3, .ref q_o), (2, .ref m0), (1, .ref x0), (0, .ref b)]) : W p l e room_1 s m #[Value.ref b] below meth c H locs 60 20000 (lw_Z below #[Value.ref b] s) (F0 m 2033 ls []) := by
  obtain ⟨hx, hb, hr, hml, hown, hts0, hX, hbl, hlocks, hgv⟩ := id C0
  have hts := hts0
  have hA : ∀ q : Nat, s.heap.size ≤ q → (fun q : Nat => s.heap.size ≤ q) q := fun _ h => h
  have hbA : ¬ (fun q : Nat => s.heap.size ≤ q) b := Nat.not_le.mpr hbl
  have hown : s.vm.findClass RL = some m.cls := hown
  have hb : c.code = cL_law := hb
  refine lv_aload_n hx hb dL_law_2033 rfl (lv_at hl 3 rfl) ?_
  have hPc := hP.sub (ws' := [(x0, .inr (4, [.ref x_row, .ref x_tree, .ref x_tally, .ref x_votes, .ref x_otherVotes, .ref x_wins, .ref x_fewest, .int 2, .int 1])), (x_row, .inr (0, [.ref x_cell, .int 0])), (x_tally, .inr (1, [.ref x_kind, .ref x_often, .int 0, .int 0]))]) [0, 1, 6] rfl
  have hKc := hK.sub (tys' := []) [] rfl
  refine vp_callSi (W.runV (As := []) (rest := []) ⟨hx, hb, hml, hown, (lwC_X4_majorities hts0)⟩ (c_X4_majorities l dC dI x0 x_row x_tree x_tally x_votes x_otherVotes x_wins x_fewest x_cell x_kind x_often 0 0) (cwV 0 (lwC_X4_majorities hts0) lwG_X4_majorities rfl rfl rfl (by decide +kernel) ⟨Nat.le_of_ble_eq_true rfl, Nat.le_of_ble_eq_true rfl⟩) ⟨fun a U g mk q => by obtain ⟨q0, qP, qK⟩ := q; exact ⟨q0, qP, va_K.moved (u := U) (U := U.calling g mk a) (Vm.Alike.refl U.vm) qK⟩, va_recv hKc hPc (ci := 4) (q0 := 0) rfl rfl, fun U hU hW => ⟨rfl, by rw [hU]; exact hPc, va_K.moved hW.alike hKc⟩⟩ rfl rfl hl.1 rfl (lv_room (Nat.le_of_ble_eq_true rfl)) dL_law_2034 ⟨Nat.le_of_ble_eq_true rfl, Nat.le_of_ble_eq_true rfl⟩) (fun r_1 w_1 => ?_)
  subst w_1
  refine lv_aload_n hx hb dL_law_2037 rfl (lv_at hl 2 rfl) ?_
  have hPc := hP.sub (ws' := [(m0, .inr (5, [.ref m_row, .int 0, .int 2, .int 0, .ref m_many, .ref m_loss, .ref m_less, .ref m_voteValue, .ref m_voteNumber, .ref m_allValue, .ref m_allNumber, .int 0, .ref m_nodeL, .ref m_nodeR, .int 0, .ref m_part, .int 0, .ref m_wasMany, .ref m_wasLoss, .ref m_wasValue, .ref m_wasNumber, .ref m_path, .int 0, .ref m_heavyValue, .ref m_heavyTimes, .int 0, .ref m_fewest, .ref m_which, .ref m_met, .int 0]))]) [7] rfl
  have hKc := hK.sub (tys' := []) [] rfl
  have hDc := hD.sub (ws' := [(m0, .inr (5, [.ref m_row, .int 0, .int 2, .int 0, .ref m_many, .ref m_loss, .ref m_less, .ref m_voteValue, .ref m_voteNumber, .ref m_allValue, .ref m_allNumber, .int 0, .ref m_nodeL, .ref m_nodeR, .int 0, .ref m_part, .int 0, .ref m_wasMany, .ref m_wasLoss, .ref m_wasValue, .ref m_wasNumber, .ref m_path, .int 0, .ref m_heavyValue, .ref m_heavyTimes, .int 0, .ref m_fewest, .ref m_which, .ref m_met, .int 0]))]) [7] (by decide) rfl
  have hFc := va_free (wc := [(m0, .inr (5, [.ref m_row, .int 0, .int 2, .int 0, .ref m_many, .ref m_loss, .ref m_less, .ref m_voteValue, .ref m_voteNumber, .ref m_allValue, .ref m_allNumber, .int 0, .ref m_nodeL, .ref m_nodeR, .int 0, .ref m_part, .int 0, .ref m_wasMany, .ref m_wasLoss, .ref m_wasValue, .ref m_wasNumber, .ref m_path, .int 0, .ref m_heavyValue, .ref m_heavyTimes, .int 0, .ref m_fewest, .ref m_which, .ref m_met, .int 0]))]) hD hS hA [7] rfl
  refine va_calli (va_runV (As := []) (rest := [.int 0]) ⟨hx, hb, hml, hown, (lwC_X5_majorities hts0)⟩ (c_X5_majorities l dC dI m0 m_row m_many m_loss m_less m_voteValue m_voteNumber m_allValue m_allNumber m_nodeL m_nodeR m_part m_wasMany m_wasLoss m_wasValue m_wasNumber m_path m_heavyValue m_heavyTimes m_fewest m_which m_met H.size) (cwV 0 (lwC_X5_majorities hts0) lwG_X5_majorities rfl rfl rfl (by decide +kernel) ⟨Nat.le_of_ble_eq_true rfl, Nat.le_of_ble_eq_true rfl⟩) ⟨fun a U g mk q => by obtain ⟨q0, q1, qP, qK, qD⟩ := q; exact ⟨q0, q1, qP, va_K.moved (u := U) (U := U.calling g mk a) (Vm.Alike.refl U.vm) qK, qD⟩, va_recv hKc hPc (ci := 5) (q0 := 0) rfl rfl, fun U hU hW => ⟨rfl, by rw [hU], by rw [hU]; exact hPc, va_K.moved hW.alike hKc, hDc.weaken (fun _ _ _ _ => trivial)⟩⟩ rfl rfl hl.1 rfl (lv_room (Nat.le_of_ble_eq_true rfl)) dL_law_2038 ⟨Nat.le_of_ble_eq_true rfl, Nat.le_of_ble_eq_true rfl⟩) hS (fun q _ h => hFc q h) hFc (fun r_2 u t H1 locs ht hvm w_2 hB hz1 hk1 hS => ?_)
  obtain ⟨hP1, hK1, hD1⟩ := hB
  rw [ht] at hP1
  have hK1 := va_K.moved hvm.symm hK1
  obtain ⟨hP, hD⟩ := va_join (wr := [(x0, .inr (4, [.ref x_row, .ref x_tree, .ref x_tally, .ref x_votes, .ref x_otherVotes, .ref x_wins, .ref x_fewest, .int 2, .int 1])), (x_row, .inr (0, [.ref x_cell, .int 0])), (x_cell, .inl (cyI, 160, .inl fc)), (x_tree, .inr (2, [.ref x_row, .ref x_joined, .ref x_from, .ref x_to, .ref x_size, .ref x_lossOf, .ref x_lessBy, .ref x_tvalue, .ref x_tnumber, .int 0, .int 0])), (x_from, .inl (cyI, 319, .inl ff)), (x_to, .inl (cyI, 319, .inl ft)), (x_tally, .inr (1, [.ref x_kind, .ref x_often, .int 0, .int 0])), (m_row, .inl (cyI, 160, .inl fm))]) (w1 := []) hP hD [7] [0, 1, 2, 3, 4, 5, 6, 8] rfl rfl (by decide) (by decide) hk1 hFc hP1 hD1
  clear hP1 hD1 hK1 hk1 hz1 hFc hDc hPc hKc
  generalize H1 = H at hP hS ⊢
  have hP : va_P (dC, dI) vwCl [(x0, .inr (4, [.ref x_row, .ref x_tree, .ref x_tally, .ref x_votes, .ref x_otherVotes, .ref x_wins, .ref x_fewest, .int 2, .int 1])), (x_row, .inr (0, [.ref x_cell, .int 0])), (x_cell, .inl (cyI, 160, .inl fc)), (x_tree, .inr (2, [.ref x_row, .ref x_joined, .ref x_from, .ref x_to, .ref x_size, .ref x_lossOf, .ref x_lessBy, .ref x_tvalue, .ref x_tnumber, .int 0, .int 0])), (x_from, .inl (cyI, 319, .inl ff)), (x_to, .inl (cyI, 319, .inl ft)), (x_tally, .inr (1, [.ref x_kind, .ref x_often, .int 0, .int 0])), (m_row, .inl (cyI, 160, .inl fm))] H := hP
  have hD : va_D (fun q : Nat => s.heap.size ≤ q) [(x0, .inr (4, [.ref x_row, .ref x_tree, .ref x_tally, .ref x_votes, .ref x_otherVotes, .ref x_wins, .ref x_fewest, .int 2, .int 1])), (x_row, .inr (0, [.ref x_cell, .int 0])), (x_cell, .inl (cyI, 160, .inl fc)), (x_tree, .inr (2, [.ref x_row, .ref x_joined, .ref x_from, .ref x_to, .ref x_size, .ref x_lossOf, .ref x_lessBy, .ref x_tvalue, .ref x_tnumber, .int 0, .int 0])), (x_from, .inl (cyI, 319, .inl ff)), (x_to, .inl (cyI, 319, .inl ft)), (x_tally, .inr (1, [.ref x_kind, .ref x_often, .int 0, .int 0])), (m_row, .inl (cyI, 160, .inl fm))] := hD
  subst w_2
  refine lv_icmp_eq (tgt := 2400) hx hb dL_law_2041 (by decide) (fun c_3 => ?_) (fun c_3 => ?_)
  · refine W.widen (k := 100) (n := 30000) (Nat.le_of_ble_eq_true rfl) (Nat.le_of_ble_eq_true rfl) ?_
    exact lc_end C0 hS (lv_sub hl [0, 4] rfl)
  · exact absurd c_3 (by decide)

set_option maxHeartbeats 4000000 in
set_option maxRecDepth 100000 in
theorem lc_38 {p : Program} {l : Launch} {e : Env} {s : State} {m : MethodId} {below : List Frame} {meth : Method} {c : Code} {dC : Nat → ClassId} {dI : Nat → Nat → Nat} {b : Nat} {xs : Nat → Int32} (hl0 : l.stackTraces = false) (C0 : lw_At p s m meth c b 8 xs) (hth : ki_Th s) {x0 x_row x_tree x_tally x_votes x_otherVotes x_wins x_fewest x_cell x_joined x_from x_to x_size x_lossOf x_lessBy x_tvalue x_tnumber x_kind x_often m0 m_row m_many m_loss m_less m_voteValue m_voteNumber m_allValue m_allNumber m_nodeL m_nodeR m_part m_wasMany m_wasLoss m_wasValue m_wasNumber m_path m_heavyValue m_heavyTimes m_fewest m_which m_met q_o : Nat} {cyI : ClassId} {fc ff ft fm : Nat → Int32} {H : Heap} {locs : List Loc} (hK : va_K (dC, dI) vwCl [(cyI, .int)] s) (hP : va_P (dC, dI) vwCl [(x0, .inr (4, [.ref x_row, .ref x_tree, .ref x_tally, .ref x_votes, .ref x_otherVotes, .ref x_wins, .ref x_fewest, .int 2, .int 1])), (x_row, .inr (0, [.ref x_cell, .int 0])), (x_cell, .inl (cyI, 160, .inl fc)), (x_tree, .inr (2, [.ref x_row, .ref x_joined, .ref x_from, .ref x_to, .ref x_size, .ref x_lossOf, .ref x_lessBy, .ref x_tvalue, .ref x_tnumber, .int 0, .int 0])), (x_from, .inl (cyI, 319, .inl ff)), (x_to, .inl (cyI, 319, .inl ft)), (x_tally, .inr (1, [.ref x_kind, .ref x_often, .int 0, .int 0])), (m0, .inr (5, [.ref m_row, .int 0, .int 2, .int 0, .ref m_many, .ref m_loss, .ref m_less, .ref m_voteValue, .ref m_voteNumber, .ref m_allValue, .ref m_allNumber, .int 0, .ref m_nodeL, .ref m_nodeR, .int 0, .ref m_part, .int 0, .ref m_wasMany, .ref m_wasLoss, .ref m_wasValue, .ref m_wasNumber, .ref m_path, .int 0, .ref m_heavyValue, .ref m_heavyTimes, .int 0, .ref m_fewest, .ref m_which, .ref m_met, .int 0])), (m_row, .inl (cyI, 160, .inl fm))] H) (hD : va_D (fun q : Nat => s.heap.size ≤ q) [(x0, .inr (4, [.ref x_row, .ref x_tree, .ref x_tally, .ref x_votes, .ref x_otherVotes, .ref x_wins, .ref x_fewest, .int 2, .int 1])), (x_row, .inr (0, [.ref x_cell, .int 0])), (x_cell, .inl (cyI, 160, .inl fc)), (x_tree, .inr (2, [.ref x_row, .ref x_joined, .ref x_from, .ref x_to, .ref x_size, .ref x_lossOf, .ref x_lessBy, .ref x_tvalue, .ref x_tnumber, .int 0, .int 0])), (x_from, .inl (cyI, 319, .inl ff)), (x_to, .inl (cyI, 319, .inl ft)), (x_tally, .inr (1, [.ref x_kind, .ref x_often, .int 0, .int 0])), (m0, .inr (5, [.ref m_row, .int 0, .int 2, .int 0, .ref m_many, .ref m_loss, .ref m_less, .ref m_voteValue, .ref m_voteNumber, .ref m_allValue, .ref m_allNumber, .int 0, .ref m_nodeL, .ref m_nodeR, .int 0, .ref m_part, .int 0, .ref m_wasMany, .ref m_wasLoss, .ref m_wasValue, .ref m_wasNumber, .ref m_path, .int 0, .ref m_heavyValue, .ref m_heavyTimes, .int 0, .ref m_fewest, .ref m_which, .ref m_met, .int 0])), (m_row, .inl (cyI, 160, .inl fm))]) (hS : va_S (fun q : Nat => s.heap.size ≤ q) s.heap H locs) {ls : Array Slot} (hl : lv_has ls 7 [(4, .int 0), (3, .ref q_o), (2, .ref m0), (1, .ref x0), (0, .ref b)]) : W p l e room_1 s m #[Value.ref b] below meth c H locs 60 20000 (lw_Z below #[Value.ref b] s) (F0 m 2046 ls []) := by
  obtain ⟨hx, hb, hr, hml, hown, hts0, hX, hbl, hlocks, hgv⟩ := id C0
  have hts := hts0
  have hA : ∀ q : Nat, s.heap.size ≤ q → (fun q : Nat => s.heap.size ≤ q) q := fun _ h => h
  have hbA : ¬ (fun q : Nat => s.heap.size ≤ q) b := Nat.not_le.mpr hbl
  have hown : s.vm.findClass RL = some m.cls := hown
  have hb : c.code = cL_law := hb
  refine lv_aload_n hx hb dL_law_2046 rfl (lv_at hl 3 rfl) ?_
  refine lv_aload_n hx hb dL_law_2047 rfl (lv_at hl 4 rfl) ?_
  refine lv_iload hx hb dL_law_2048 (lv_at hl 0 rfl) ?_
  refine lv_iconst (v := 1) hx hb dL_law_2050 (by decide) ?_
  refine lv_iadd hx hb dL_law_2051 ?_
  refine W.eq (g2 := F0 m 2052 ls [.int 1, .ref b, .ref x0]) (by first | rfl | (congr 2; decide)) ?_
  refine va_sld hx hb hX hbl hbA hS (i := 1) (ki_inl (by decide)) dL_law_2052 ?_
  refine lv_aload_n hx hb dL_law_2053 rfl (lv_at hl 4 rfl) ?_
  refine lv_iload hx hb dL_law_2054 (lv_at hl 0 rfl) ?_
  refine lv_iconst (v := 2) hx hb dL_law_2056 (by decide) ?_
  refine lv_iadd hx hb dL_law_2057 ?_
  refine W.eq (g2 := F0 m 2058 ls [.int 2, .ref b, .int (xs (1 : Int32).toNatClampNeg), .ref x0]) (by first | rfl | (congr 2; decide)) ?_
  refine va_sld hx hb hX hbl hbA hS (i := 2) (ki_inl (by decide)) dL_law_2058 ?_
  refine lv_aload_n hx hb dL_law_2059 rfl (lv_at hl 4 rfl) ?_
  refine lv_iload hx hb dL_law_2060 (lv_at hl 0 rfl) ?_
  refine lv_iconst (v := 3) hx hb dL_law_2062 (by decide) ?_
  refine lv_iadd hx hb dL_law_2063 ?_
  refine W.eq (g2 := F0 m 2064 ls [.int 3, .ref b, .int (xs (2 : Int32).toNatClampNeg), .int (xs (1 : Int32).toNatClampNeg), .ref x0]) (by first | rfl | (congr 2; decide)) ?_
  refine va_sld hx hb hX hbl hbA hS (i := 3) (ki_inl (by decide)) dL_law_2064 ?_
  refine lv_aload_n hx hb dL_law_2065 rfl (lv_at hl 4 rfl) ?_
  refine lv_iload hx hb dL_law_2066 (lv_at hl 0 rfl) ?_
  refine lv_iconst (v := 4) hx hb dL_law_2068 (by decide) ?_
  refine lv_iadd hx hb dL_law_2069 ?_
  refine W.eq (g2 := F0 m 2070 ls [.int 4, .ref b, .int (xs (3 : Int32).toNatClampNeg), .int (xs (2 : Int32).toNatClampNeg), .int (xs (1 : Int32).toNatClampNeg), .ref x0]) (by first | rfl | (congr 2; decide)) ?_
  refine va_sld hx hb hX hbl hbA hS (i := 4) (ki_inl (by decide)) dL_law_2070 ?_
  have hPc := hP.sub (ws' := [(x0, .inr (4, [.ref x_row, .ref x_tree, .ref x_tally, .ref x_votes, .ref x_otherVotes, .ref x_wins, .ref x_fewest, .int 2, .int 1])), (x_row, .inr (0, [.ref x_cell, .int 0]))]) [0, 1] rfl
  have hKc := hK.sub (tys' := []) [] rfl
  refine vp_callSi (W.runV (As := [.int (xs (1 : Int32).toNatClampNeg), .int (xs (2 : Int32).toNatClampNeg), .int (xs (3 : Int32).toNatClampNeg), .int (xs (4 : Int32).toNatClampNeg)]) (rest := []) ⟨hx, hb, hml, hown, (lwC_X4_windows hts0)⟩ (c_X4_windows l dC dI x0 x_row x_tree x_tally x_votes x_otherVotes x_wins x_fewest x_cell (xs (1 : Int32).toNatClampNeg) (xs (2 : Int32).toNatClampNeg) (xs (3 : Int32).toNatClampNeg) (xs (4 : Int32).toNatClampNeg)) (cwV 4 (lwC_X4_windows hts0) lwG_X4_windows rfl rfl rfl (by decide +kernel) ⟨Nat.le_of_ble_eq_true rfl, Nat.le_of_ble_eq_true rfl⟩) ⟨fun a U g mk q => by obtain ⟨q0, qP, qK⟩ := q; exact ⟨q0, qP, va_K.moved (u := U) (U := U.calling g mk a) (Vm.Alike.refl U.vm) qK⟩, va_recv hKc hPc (ci := 4) (q0 := 0) rfl rfl, fun U hU hW => ⟨rfl, by rw [hU]; exact hPc, va_K.moved hW.alike hKc⟩⟩ rfl rfl hl.1 rfl (lv_room (Nat.le_of_ble_eq_true rfl)) dL_law_2071 ⟨Nat.le_of_ble_eq_true rfl, Nat.le_of_ble_eq_true rfl⟩) (fun r_1 w_1 => ?_)
  rcases w_1 with ⟨rfl, w_1⟩ | ⟨rfl, w_1⟩
  · have w_1 : (xs (4 : Int32).toNatClampNeg).toInt = 1 := w_1
    refine lv_aload_n hx hb dL_law_2074 rfl (lv_at hl 2 rfl) ?_
    refine lv_aload_n hx hb dL_law_2075 rfl (lv_at hl 4 rfl) ?_
    refine lv_iload hx hb dL_law_2076 (lv_at hl 0 rfl) ?_
    refine lv_iconst (v := 1) hx hb dL_law_2078 (by decide) ?_
    refine lv_iadd hx hb dL_law_2079 ?_
    refine W.eq (g2 := F0 m 2080 ls [.int 1, .ref b, .ref m0, .int (-40000)]) (by first | rfl | (congr 2; decide)) ?_
    refine va_sld hx hb hX hbl hbA hS (i := 1) (ki_inl (by decide)) dL_law_2080 ?_
    refine lv_aload_n hx hb dL_law_2081 rfl (lv_at hl 4 rfl) ?_
    refine lv_iload hx hb dL_law_2082 (lv_at hl 0 rfl) ?_
    refine lv_iconst (v := 2) hx hb dL_law_2084 (by decide) ?_
    refine lv_iadd hx hb dL_law_2085 ?_
    refine W.eq (g2 := F0 m 2086 ls [.int 2, .ref b, .int (xs (1 : Int32).toNatClampNeg), .ref m0, .int (-40000)]) (by first | rfl | (congr 2; decide)) ?_
    refine va_sld hx hb hX hbl hbA hS (i := 2) (ki_inl (by decide)) dL_law_2086 ?_
    refine lv_aload_n hx hb dL_law_2087 rfl (lv_at hl 4 rfl) ?_
    refine lv_iload hx hb dL_law_2088 (lv_at hl 0 rfl) ?_
    refine lv_iconst (v := 3) hx hb dL_law_2090 (by decide) ?_
    refine lv_iadd hx hb dL_law_2091 ?_
    refine W.eq (g2 := F0 m 2092 ls [.int 3, .ref b, .int (xs (2 : Int32).toNatClampNeg), .int (xs (1 : Int32).toNatClampNeg), .ref m0, .int (-40000)]) (by first | rfl | (congr 2; decide)) ?_
    refine va_sld hx hb hX hbl hbA hS (i := 3) (ki_inl (by decide)) dL_law_2092 ?_
    refine lv_aload_n hx hb dL_law_2093 rfl (lv_at hl 4 rfl) ?_
    refine lv_iload hx hb dL_law_2094 (lv_at hl 0 rfl) ?_
    refine lv_iconst (v := 4) hx hb dL_law_2096 (by decide) ?_
    refine lv_iadd hx hb dL_law_2097 ?_
    refine W.eq (g2 := F0 m 2098 ls [.int 4, .ref b, .int (xs (3 : Int32).toNatClampNeg), .int (xs (2 : Int32).toNatClampNeg), .int (xs (1 : Int32).toNatClampNeg), .ref m0, .int (-40000)]) (by first | rfl | (congr 2; decide)) ?_
    refine va_sld hx hb hX hbl hbA hS (i := 4) (ki_inl (by decide)) dL_law_2098 ?_
    have hPc := hP.sub (ws' := [(m0, .inr (5, [.ref m_row, .int 0, .int 2, .int 0, .ref m_many, .ref m_loss, .ref m_less, .ref m_voteValue, .ref m_voteNumber, .ref m_allValue, .ref m_allNumber, .int 0, .ref m_nodeL, .ref m_nodeR, .int 0, .ref m_part, .int 0, .ref m_wasMany, .ref m_wasLoss, .ref m_wasValue, .ref m_wasNumber, .ref m_path, .int 0, .ref m_heavyValue, .ref m_heavyTimes, .int 0, .ref m_fewest, .ref m_which, .ref m_met, .int 0]))]) [7] rfl
    have hKc := hK.sub (tys' := []) [] rfl
    have hDc := hD.sub (ws' := [(m0, .inr (5, [.ref m_row, .int 0, .int 2, .int 0, .ref m_many, .ref m_loss, .ref m_less, .ref m_voteValue, .ref m_voteNumber, .ref m_allValue, .ref m_allNumber, .int 0, .ref m_nodeL, .ref m_nodeR, .int 0, .ref m_part, .int 0, .ref m_wasMany, .ref m_wasLoss, .ref m_wasValue, .ref m_wasNumber, .ref m_path, .int 0, .ref m_heavyValue, .ref m_heavyTimes, .int 0, .ref m_fewest, .ref m_which, .ref m_met, .int 0]))]) [7] (by decide) rfl
    have hFc := va_free (wc := [(m0, .inr (5, [.ref m_row, .int 0, .int 2, .int 0, .ref m_many, .ref m_loss, .ref m_less, .ref m_voteValue, .ref m_voteNumber, .ref m_allValue, .ref m_allNumber, .int 0, .ref m_nodeL, .ref m_nodeR, .int 0, .ref m_part, .int 0, .ref m_wasMany, .ref m_wasLoss, .ref m_wasValue, .ref m_wasNumber, .ref m_path, .int 0, .ref m_heavyValue, .ref m_heavyTimes, .int 0, .ref m_fewest, .ref m_which, .ref m_met, .int 0]))]) hD hS hA [7] rfl
    refine va_calli (va_runV (As := [.int (xs (1 : Int32).toNatClampNeg), .int (xs (2 : Int32).toNatClampNeg), .int (xs (3 : Int32).toNatClampNeg), .int (xs (4 : Int32).toNatClampNeg)]) (rest := [.int (-40000)]) ⟨hx, hb, hml, hown, (lwC_X5_windows hts0)⟩ (c_X5_windows l dC dI m0 m_row m_many m_loss m_less m_voteValue m_voteNumber m_allValue m_allNumber m_nodeL m_nodeR m_part m_wasMany m_wasLoss m_wasValue m_wasNumber m_path m_heavyValue m_heavyTimes m_fewest m_which m_met (xs (1 : Int32).toNatClampNeg) (xs (2 : Int32).toNatClampNeg) (xs (3 : Int32).toNatClampNeg) (xs (4 : Int32).toNatClampNeg) H.size) (cwV 4 (lwC_X5_windows hts0) lwG_X5_windows rfl rfl rfl (by decide +kernel) ⟨Nat.le_of_ble_eq_true rfl, Nat.le_of_ble_eq_true rfl⟩) ⟨fun a U g mk q => by obtain ⟨q0, q1, qP, qK, qD⟩ := q; exact ⟨q0, q1, qP, va_K.moved (u := U) (U := U.calling g mk a) (Vm.Alike.refl U.vm) qK, qD⟩, va_recv hKc hPc (ci := 5) (q0 := 0) rfl rfl, fun U hU hW => ⟨rfl, by rw [hU], by rw [hU]; exact hPc, va_K.moved hW.alike hKc, hDc.weaken (fun _ _ _ _ => trivial)⟩⟩ rfl rfl hl.1 rfl (lv_room (Nat.le_of_ble_eq_true rfl)) dL_law_2099 ⟨Nat.le_of_ble_eq_true rfl, Nat.le_of_ble_eq_true rfl⟩) hS (fun q _ h => hFc q h) hFc (fun r_2 u t H1 locs ht hvm w_2 hB hz1 hk1 hS => ?_)
    obtain ⟨hP1, hK1, hD1⟩ := hB
    rw [ht] at hP1
    have hK1 := va_K.moved hvm.symm hK1
    obtain ⟨hP, hD⟩ := va_join (wr := [(x0, .inr (4, [.ref x_row, .ref x_tree, .ref x_tally, .ref x_votes, .ref x_otherVotes, .ref x_wins, .ref x_fewest, .int 2, .int 1])), (x_row, .inr (0, [.ref x_cell, .int 0])), (x_cell, .inl (cyI, 160, .inl fc)), (x_tree, .inr (2, [.ref x_row, .ref x_joined, .ref x_from, .ref x_to, .ref x_size, .ref x_lossOf, .ref x_lessBy, .ref x_tvalue, .ref x_tnumber, .int 0, .int 0])), (x_from, .inl (cyI, 319, .inl ff)), (x_to, .inl (cyI, 319, .inl ft)), (x_tally, .inr (1, [.ref x_kind, .ref x_often, .int 0, .int 0])), (m_row, .inl (cyI, 160, .inl fm))]) (w1 := []) hP hD [7] [0, 1, 2, 3, 4, 5, 6, 8] rfl rfl (by decide) (by decide) hk1 hFc hP1 hD1
    clear hP1 hD1 hK1 hk1 hz1 hFc hDc hPc hKc
    generalize H1 = H at hP hS ⊢
    have hP : va_P (dC, dI) vwCl [(x0, .inr (4, [.ref x_row, .ref x_tree, .ref x_tally, .ref x_votes, .ref x_otherVotes, .ref x_wins, .ref x_fewest, .int 2, .int 1])), (x_row, .inr (0, [.ref x_cell, .int 0])), (x_cell, .inl (cyI, 160, .inl fc)), (x_tree, .inr (2, [.ref x_row, .ref x_joined, .ref x_from, .ref x_to, .ref x_size, .ref x_lossOf, .ref x_lessBy, .ref x_tvalue, .ref x_tnumber, .int 0, .int 0])), (x_from, .inl (cyI, 319, .inl ff)), (x_to, .inl (cyI, 319, .inl ft)), (x_tally, .inr (1, [.ref x_kind, .ref x_often, .int 0, .int 0])), (m_row, .inl (cyI, 160, .inl fm))] H := hP
    have hD : va_D (fun q : Nat => s.heap.size ≤ q) [(x0, .inr (4, [.ref x_row, .ref x_tree, .ref x_tally, .ref x_votes, .ref x_otherVotes, .ref x_wins, .ref x_fewest, .int 2, .int 1])), (x_row, .inr (0, [.ref x_cell, .int 0])), (x_cell, .inl (cyI, 160, .inl fc)), (x_tree, .inr (2, [.ref x_row, .ref x_joined, .ref x_from, .ref x_to, .ref x_size, .ref x_lossOf, .ref x_lessBy, .ref x_tvalue, .ref x_tnumber, .int 0, .int 0])), (x_from, .inl (cyI, 319, .inl ff)), (x_to, .inl (cyI, 319, .inl ft)), (x_tally, .inr (1, [.ref x_kind, .ref x_often, .int 0, .int 0])), (m_row, .inl (cyI, 160, .inl fm))] := hD
    rcases w_2 with ⟨rfl, w_2⟩ | ⟨rfl, w_2⟩
    · have w_2 : (xs (4 : Int32).toNatClampNeg).toInt = 1 := w_2
      refine lv_icmp_eq (tgt := 2400) hx hb dL_law_2102 (by decide) (fun c_3 => ?_) (fun c_3 => ?_)
      · refine W.widen (k := 100) (n := 30000) (Nat.le_of_ble_eq_true rfl) (Nat.le_of_ble_eq_true rfl) ?_
        exact lc_end C0 hS (lv_sub hl [0, 4] rfl)
      · exact absurd c_3 (by decide)
    · have w_2 : ¬ (xs (4 : Int32).toNatClampNeg).toInt = 1 := w_2
      refine lv_icmp_eq (tgt := 2400) hx hb dL_law_2102 (by decide) (fun c_4 => ?_) (fun c_4 => ?_)
      · exact absurd c_4 (by decide)
      · refine lv_iconst (v := 0) hx hb dL_law_2105 (by decide) ?_
        exfalso; omega
  · have w_1 : ¬ (xs (4 : Int32).toNatClampNeg).toInt = 1 := w_1
    refine lv_aload_n hx hb dL_law_2074 rfl (lv_at hl 2 rfl) ?_
    refine lv_aload_n hx hb dL_law_2075 rfl (lv_at hl 4 rfl) ?_
    refine lv_iload hx hb dL_law_2076 (lv_at hl 0 rfl) ?_
    refine lv_iconst (v := 1) hx hb dL_law_2078 (by decide) ?_
    refine lv_iadd hx hb dL_law_2079 ?_
    refine W.eq (g2 := F0 m 2080 ls [.int 1, .ref b, .ref m0, .int (-1)]) (by first | rfl | (congr 2; decide)) ?_
    refine va_sld hx hb hX hbl hbA hS (i := 1) (ki_inl (by decide)) dL_law_2080 ?_
    refine lv_aload_n hx hb dL_law_2081 rfl (lv_at hl 4 rfl) ?_
    refine lv_iload hx hb dL_law_2082 (lv_at hl 0 rfl) ?_
    refine lv_iconst (v := 2) hx hb dL_law_2084 (by decide) ?_
    refine lv_iadd hx hb dL_law_2085 ?_
    refine W.eq (g2 := F0 m 2086 ls [.int 2, .ref b, .int (xs (1 : Int32).toNatClampNeg), .ref m0, .int (-1)]) (by first | rfl | (congr 2; decide)) ?_
    refine va_sld hx hb hX hbl hbA hS (i := 2) (ki_inl (by decide)) dL_law_2086 ?_
    refine lv_aload_n hx hb dL_law_2087 rfl (lv_at hl 4 rfl) ?_
    refine lv_iload hx hb dL_law_2088 (lv_at hl 0 rfl) ?_
    refine lv_iconst (v := 3) hx hb dL_law_2090 (by decide) ?_
    refine lv_iadd hx hb dL_law_2091 ?_
    refine W.eq (g2 := F0 m 2092 ls [.int 3, .ref b, .int (xs (2 : Int32).toNatClampNeg), .int (xs (1 : Int32).toNatClampNeg), .ref m0, .int (-1)]) (by first | rfl | (congr 2; decide)) ?_
    refine va_sld hx hb hX hbl hbA hS (i := 3) (ki_inl (by decide)) dL_law_2092 ?_
    refine lv_aload_n hx hb dL_law_2093 rfl (lv_at hl 4 rfl) ?_
    refine lv_iload hx hb dL_law_2094 (lv_at hl 0 rfl) ?_
    refine lv_iconst (v := 4) hx hb dL_law_2096 (by decide) ?_
    refine lv_iadd hx hb dL_law_2097 ?_
    refine W.eq (g2 := F0 m 2098 ls [.int 4, .ref b, .int (xs (3 : Int32).toNatClampNeg), .int (xs (2 : Int32).toNatClampNeg), .int (xs (1 : Int32).toNatClampNeg), .ref m0, .int (-1)]) (by first | rfl | (congr 2; decide)) ?_
    refine va_sld hx hb hX hbl hbA hS (i := 4) (ki_inl (by decide)) dL_law_2098 ?_
    have hPc := hP.sub (ws' := [(m0, .inr (5, [.ref m_row, .int 0, .int 2, .int 0, .ref m_many, .ref m_loss, .ref m_less, .ref m_voteValue, .ref m_voteNumber, .ref m_allValue, .ref m_allNumber, .int 0, .ref m_nodeL, .ref m_nodeR, .int 0, .ref m_part, .int 0, .ref m_wasMany, .ref m_wasLoss, .ref m_wasValue, .ref m_wasNumber, .ref m_path, .int 0, .ref m_heavyValue, .ref m_heavyTimes, .int 0, .ref m_fewest, .ref m_which, .ref m_met, .int 0]))]) [7] rfl
    have hKc := hK.sub (tys' := []) [] rfl
    have hDc := hD.sub (ws' := [(m0, .inr (5, [.ref m_row, .int 0, .int 2, .int 0, .ref m_many, .ref m_loss, .ref m_less, .ref m_voteValue, .ref m_voteNumber, .ref m_allValue, .ref m_allNumber, .int 0, .ref m_nodeL, .ref m_nodeR, .int 0, .ref m_part, .int 0, .ref m_wasMany, .ref m_wasLoss, .ref m_wasValue, .ref m_wasNumber, .ref m_path, .int 0, .ref m_heavyValue, .ref m_heavyTimes, .int 0, .ref m_fewest, .ref m_which, .ref m_met, .int 0]))]) [7] (by decide) rfl
    have hFc := va_free (wc := [(m0, .inr (5, [.ref m_row, .int 0, .int 2, .int 0, .ref m_many, .ref m_loss, .ref m_less, .ref m_voteValue, .ref m_voteNumber, .ref m_allValue, .ref m_allNumber, .int 0, .ref m_nodeL, .ref m_nodeR, .int 0, .ref m_part, .int 0, .ref m_wasMany, .ref m_wasLoss, .ref m_wasValue, .ref m_wasNumber, .ref m_path, .int 0, .ref m_heavyValue, .ref m_heavyTimes, .int 0, .ref m_fewest, .ref m_which, .ref m_met, .int 0]))]) hD hS hA [7] rfl
    refine va_calli (va_runV (As := [.int (xs (1 : Int32).toNatClampNeg), .int (xs (2 : Int32).toNatClampNeg), .int (xs (3 : Int32).toNatClampNeg), .int (xs (4 : Int32).toNatClampNeg)]) (rest := [.int (-1)]) ⟨hx, hb, hml, hown, (lwC_X5_windows hts0)⟩ (c_X5_windows l dC dI m0 m_row m_many m_loss m_less m_voteValue m_voteNumber m_allValue m_allNumber m_nodeL m_nodeR m_part m_wasMany m_wasLoss m_wasValue m_wasNumber m_path m_heavyValue m_heavyTimes m_fewest m_which m_met (xs (1 : Int32).toNatClampNeg) (xs (2 : Int32).toNatClampNeg) (xs (3 : Int32).toNatClampNeg) (xs (4 : Int32).toNatClampNeg) H.size) (cwV 4 (lwC_X5_windows hts0) lwG_X5_windows rfl rfl rfl (by decide +kernel) ⟨Nat.le_of_ble_eq_true rfl, Nat.le_of_ble_eq_true rfl⟩) ⟨fun a U g mk q => by obtain ⟨q0, q1, qP, qK, qD⟩ := q; exact ⟨q0, q1, qP, va_K.moved (u := U) (U := U.calling g mk a) (Vm.Alike.refl U.vm) qK, qD⟩, va_recv hKc hPc (ci := 5) (q0 := 0) rfl rfl, fun U hU hW => ⟨rfl, by rw [hU], by rw [hU]; exact hPc, va_K.moved hW.alike hKc, hDc.weaken (fun _ _ _ _ => trivial)⟩⟩ rfl rfl hl.1 rfl (lv_room (Nat.le_of_ble_eq_true rfl)) dL_law_2099 ⟨Nat.le_of_ble_eq_true rfl, Nat.le_of_ble_eq_true rfl⟩) hS (fun q _ h => hFc q h) hFc (fun r_5 u t H1 locs ht hvm w_5 hB hz1 hk1 hS => ?_)
    obtain ⟨hP1, hK1, hD1⟩ := hB
    rw [ht] at hP1
    have hK1 := va_K.moved hvm.symm hK1
    obtain ⟨hP, hD⟩ := va_join (wr := [(x0, .inr (4, [.ref x_row, .ref x_tree, .ref x_tally, .ref x_votes, .ref x_otherVotes, .ref x_wins, .ref x_fewest, .int 2, .int 1])), (x_row, .inr (0, [.ref x_cell, .int 0])), (x_cell, .inl (cyI, 160, .inl fc)), (x_tree, .inr (2, [.ref x_row, .ref x_joined, .ref x_from, .ref x_to, .ref x_size, .ref x_lossOf, .ref x_lessBy, .ref x_tvalue, .ref x_tnumber, .int 0, .int 0])), (x_from, .inl (cyI, 319, .inl ff)), (x_to, .inl (cyI, 319, .inl ft)), (x_tally, .inr (1, [.ref x_kind, .ref x_often, .int 0, .int 0])), (m_row, .inl (cyI, 160, .inl fm))]) (w1 := []) hP hD [7] [0, 1, 2, 3, 4, 5, 6, 8] rfl rfl (by decide) (by decide) hk1 hFc hP1 hD1
    clear hP1 hD1 hK1 hk1 hz1 hFc hDc hPc hKc
    generalize H1 = H at hP hS ⊢
    have hP : va_P (dC, dI) vwCl [(x0, .inr (4, [.ref x_row, .ref x_tree, .ref x_tally, .ref x_votes, .ref x_otherVotes, .ref x_wins, .ref x_fewest, .int 2, .int 1])), (x_row, .inr (0, [.ref x_cell, .int 0])), (x_cell, .inl (cyI, 160, .inl fc)), (x_tree, .inr (2, [.ref x_row, .ref x_joined, .ref x_from, .ref x_to, .ref x_size, .ref x_lossOf, .ref x_lessBy, .ref x_tvalue, .ref x_tnumber, .int 0, .int 0])), (x_from, .inl (cyI, 319, .inl ff)), (x_to, .inl (cyI, 319, .inl ft)), (x_tally, .inr (1, [.ref x_kind, .ref x_often, .int 0, .int 0])), (m_row, .inl (cyI, 160, .inl fm))] H := hP
    have hD : va_D (fun q : Nat => s.heap.size ≤ q) [(x0, .inr (4, [.ref x_row, .ref x_tree, .ref x_tally, .ref x_votes, .ref x_otherVotes, .ref x_wins, .ref x_fewest, .int 2, .int 1])), (x_row, .inr (0, [.ref x_cell, .int 0])), (x_cell, .inl (cyI, 160, .inl fc)), (x_tree, .inr (2, [.ref x_row, .ref x_joined, .ref x_from, .ref x_to, .ref x_size, .ref x_lossOf, .ref x_lessBy, .ref x_tvalue, .ref x_tnumber, .int 0, .int 0])), (x_from, .inl (cyI, 319, .inl ff)), (x_to, .inl (cyI, 319, .inl ft)), (x_tally, .inr (1, [.ref x_kind, .ref x_often, .int 0, .int 0])), (m_row, .inl (cyI, 160, .inl fm))] := hD
    rcases w_5 with ⟨rfl, w_5⟩ | ⟨rfl, w_5⟩
    · have w_5 : (xs (4 : Int32).toNatClampNeg).toInt = 1 := w_5
      refine lv_icmp_eq (tgt := 2400) hx hb dL_law_2102 (by decide) (fun c_6 => ?_) (fun c_6 => ?_)
      · exact absurd c_6 (by decide)
      · refine lv_iconst (v := 0) hx hb dL_law_2105 (by decide) ?_
        exfalso; omega
    · have w_5 : ¬ (xs (4 : Int32).toNatClampNeg).toInt = 1 := w_5
      refine lv_icmp_eq (tgt := 2400) hx hb dL_law_2102 (by decide) (fun c_7 => ?_) (fun c_7 => ?_)
      · refine W.widen (k := 100) (n := 30000) (Nat.le_of_ble_eq_true rfl) (Nat.le_of_ble_eq_true rfl) ?_
        exact lc_end C0 hS (lv_sub hl [0, 4] rfl)
      · exact absurd c_7 (by decide)

set_option maxHeartbeats 4000000 in
set_option maxRecDepth 100000 in
theorem lc_39 {p : Program} {l : Launch} {e : Env} {s : State} {m : MethodId} {below : List Frame} {meth : Method} {c : Code} {dC : Nat → ClassId} {dI : Nat → Nat → Nat} {b : Nat} {xs : Nat → Int32} (hl0 : l.stackTraces = false) (C0 : lw_At p s m meth c b 8 xs) (hth : ki_Th s) {x0 x_row x_tree x_tally x_votes x_otherVotes x_wins x_fewest x_cell x_joined x_from x_to x_size x_lossOf x_lessBy x_tvalue x_tnumber x_kind x_often m0 m_row m_many m_loss m_less m_voteValue m_voteNumber m_allValue m_allNumber m_nodeL m_nodeR m_part m_wasMany m_wasLoss m_wasValue m_wasNumber m_path m_heavyValue m_heavyTimes m_fewest m_which m_met q_o : Nat} {cyI : ClassId} {fc ff ft fm : Nat → Int32} {H : Heap} {locs : List Loc} (hK : va_K (dC, dI) vwCl [(cyI, .int)] s) (hP : va_P (dC, dI) vwCl [(x0, .inr (4, [.ref x_row, .ref x_tree, .ref x_tally, .ref x_votes, .ref x_otherVotes, .ref x_wins, .ref x_fewest, .int 2, .int 1])), (x_row, .inr (0, [.ref x_cell, .int 0])), (x_cell, .inl (cyI, 160, .inl fc)), (x_tree, .inr (2, [.ref x_row, .ref x_joined, .ref x_from, .ref x_to, .ref x_size, .ref x_lossOf, .ref x_lessBy, .ref x_tvalue, .ref x_tnumber, .int 0, .int 0])), (x_from, .inl (cyI, 319, .inl ff)), (x_to, .inl (cyI, 319, .inl ft)), (x_tally, .inr (1, [.ref x_kind, .ref x_often, .int 0, .int 0])), (m0, .inr (5, [.ref m_row, .int 0, .int 2, .int 0, .ref m_many, .ref m_loss, .ref m_less, .ref m_voteValue, .ref m_voteNumber, .ref m_allValue, .ref m_allNumber, .int 0, .ref m_nodeL, .ref m_nodeR, .int 0, .ref m_part, .int 0, .ref m_wasMany, .ref m_wasLoss, .ref m_wasValue, .ref m_wasNumber, .ref m_path, .int 0, .ref m_heavyValue, .ref m_heavyTimes, .int 0, .ref m_fewest, .ref m_which, .ref m_met, .int 0])), (m_row, .inl (cyI, 160, .inl fm))] H) (hD : va_D (fun q : Nat => s.heap.size ≤ q) [(x0, .inr (4, [.ref x_row, .ref x_tree, .ref x_tally, .ref x_votes, .ref x_otherVotes, .ref x_wins, .ref x_fewest, .int 2, .int 1])), (x_row, .inr (0, [.ref x_cell, .int 0])), (x_cell, .inl (cyI, 160, .inl fc)), (x_tree, .inr (2, [.ref x_row, .ref x_joined, .ref x_from, .ref x_to, .ref x_size, .ref x_lossOf, .ref x_lessBy, .ref x_tvalue, .ref x_tnumber, .int 0, .int 0])), (x_from, .inl (cyI, 319, .inl ff)), (x_to, .inl (cyI, 319, .inl ft)), (x_tally, .inr (1, [.ref x_kind, .ref x_often, .int 0, .int 0])), (m0, .inr (5, [.ref m_row, .int 0, .int 2, .int 0, .ref m_many, .ref m_loss, .ref m_less, .ref m_voteValue, .ref m_voteNumber, .ref m_allValue, .ref m_allNumber, .int 0, .ref m_nodeL, .ref m_nodeR, .int 0, .ref m_part, .int 0, .ref m_wasMany, .ref m_wasLoss, .ref m_wasValue, .ref m_wasNumber, .ref m_path, .int 0, .ref m_heavyValue, .ref m_heavyTimes, .int 0, .ref m_fewest, .ref m_which, .ref m_met, .int 0])), (m_row, .inl (cyI, 160, .inl fm))]) (hS : va_S (fun q : Nat => s.heap.size ≤ q) s.heap H locs) {ls : Array Slot} (hl : lv_has ls 7 [(4, .int 0), (3, .ref q_o), (2, .ref m0), (1, .ref x0), (0, .ref b)]) : W p l e room_1 s m #[Value.ref b] below meth c H locs 60 20000 (lw_Z below #[Value.ref b] s) (F0 m 2107 ls []) := by
  obtain ⟨hx, hb, hr, hml, hown, hts0, hX, hbl, hlocks, hgv⟩ := id C0
  have hts := hts0
  have hA : ∀ q : Nat, s.heap.size ≤ q → (fun q : Nat => s.heap.size ≤ q) q := fun _ h => h
  have hbA : ¬ (fun q : Nat => s.heap.size ≤ q) b := Nat.not_le.mpr hbl
  have hown : s.vm.findClass RL = some m.cls := hown
  have hb : c.code = cL_law := hb
  refine lv_aload_n hx hb dL_law_2107 rfl (lv_at hl 3 rfl) ?_
  refine lv_aload_n hx hb dL_law_2108 rfl (lv_at hl 4 rfl) ?_
  refine lv_iload hx hb dL_law_2109 (lv_at hl 0 rfl) ?_
  refine lv_iconst (v := 1) hx hb dL_law_2111 (by decide) ?_
  refine lv_iadd hx hb dL_law_2112 ?_
  refine W.eq (g2 := F0 m 2113 ls [.int 1, .ref b, .ref x0]) (by first | rfl | (congr 2; decide)) ?_
  refine va_sld hx hb hX hbl hbA hS (i := 1) (ki_inl (by decide)) dL_law_2113 ?_
  refine lv_aload_n hx hb dL_law_2114 rfl (lv_at hl 4 rfl) ?_
  refine lv_iload hx hb dL_law_2115 (lv_at hl 0 rfl) ?_
  refine lv_iconst (v := 2) hx hb dL_law_2117 (by decide) ?_
  refine lv_iadd hx hb dL_law_2118 ?_
  refine W.eq (g2 := F0 m 2119 ls [.int 2, .ref b, .int (xs (1 : Int32).toNatClampNeg), .ref x0]) (by first | rfl | (congr 2; decide)) ?_
  refine va_sld hx hb hX hbl hbA hS (i := 2) (ki_inl (by decide)) dL_law_2119 ?_
  refine lv_aload_n hx hb dL_law_2120 rfl (lv_at hl 4 rfl) ?_
  refine lv_iload hx hb dL_law_2121 (lv_at hl 0 rfl) ?_
  refine lv_iconst (v := 3) hx hb dL_law_2123 (by decide) ?_
  refine lv_iadd hx hb dL_law_2124 ?_
  refine W.eq (g2 := F0 m 2125 ls [.int 3, .ref b, .int (xs (2 : Int32).toNatClampNeg), .int (xs (1 : Int32).toNatClampNeg), .ref x0]) (by first | rfl | (congr 2; decide)) ?_
  refine va_sld hx hb hX hbl hbA hS (i := 3) (ki_inl (by decide)) dL_law_2125 ?_
  refine lv_aload_n hx hb dL_law_2126 rfl (lv_at hl 4 rfl) ?_
  refine lv_iload hx hb dL_law_2127 (lv_at hl 0 rfl) ?_
  refine lv_iconst (v := 4) hx hb dL_law_2129 (by decide) ?_
  refine lv_iadd hx hb dL_law_2130 ?_
  refine W.eq (g2 := F0 m 2131 ls [.int 4, .ref b, .int (xs (3 : Int32).toNatClampNeg), .int (xs (2 : Int32).toNatClampNeg), .int (xs (1 : Int32).toNatClampNeg), .ref x0]) (by first | rfl | (congr 2; decide)) ?_
  refine va_sld hx hb hX hbl hbA hS (i := 4) (ki_inl (by decide)) dL_law_2131 ?_
  refine lv_aload_n hx hb dL_law_2132 rfl (lv_at hl 4 rfl) ?_
  refine lv_iload hx hb dL_law_2133 (lv_at hl 0 rfl) ?_
  refine lv_iconst (v := 5) hx hb dL_law_2135 (by decide) ?_
  refine lv_iadd hx hb dL_law_2136 ?_
  refine W.eq (g2 := F0 m 2137 ls [.int 5, .ref b, .int (xs (4 : Int32).toNatClampNeg), .int (xs (3 : Int32).toNatClampNeg), .int (xs (2 : Int32).toNatClampNeg), .int (xs (1 : Int32).toNatClampNeg), .ref x0]) (by first | rfl | (congr 2; decide)) ?_
  refine va_sld hx hb hX hbl hbA hS (i := 5) (ki_inl (by decide)) dL_law_2137 ?_
  have hPc := hP.sub (ws' := [(x0, .inr (4, [.ref x_row, .ref x_tree, .ref x_tally, .ref x_votes, .ref x_otherVotes, .ref x_wins, .ref x_fewest, .int 2, .int 1])), (x_row, .inr (0, [.ref x_cell, .int 0]))]) [0, 1] rfl
  have hKc := hK.sub (tys' := []) [] rfl
  refine vp_callSi (W.runV (As := [.int (xs (1 : Int32).toNatClampNeg), .int (xs (2 : Int32).toNatClampNeg), .int (xs (3 : Int32).toNatClampNeg), .int (xs (4 : Int32).toNatClampNeg), .int (xs (5 : Int32).toNatClampNeg)]) (rest := []) ⟨hx, hb, hml, hown, (lwC_X4_needs hts0)⟩ (c_X4_needs l dC dI x0 x_row x_tree x_tally x_votes x_otherVotes x_wins x_fewest x_cell (xs (1 : Int32).toNatClampNeg) (xs (2 : Int32).toNatClampNeg) (xs (3 : Int32).toNatClampNeg) (xs (4 : Int32).toNatClampNeg) (xs (5 : Int32).toNatClampNeg)) (cwV 5 (lwC_X4_needs hts0) lwG_X4_needs rfl rfl rfl (by decide +kernel) ⟨Nat.le_of_ble_eq_true rfl, Nat.le_of_ble_eq_true rfl⟩) ⟨fun a U g mk q => by obtain ⟨q0, qP, qK⟩ := q; exact ⟨q0, qP, va_K.moved (u := U) (U := U.calling g mk a) (Vm.Alike.refl U.vm) qK⟩, va_recv hKc hPc (ci := 4) (q0 := 0) rfl rfl, fun U hU hW => ⟨rfl, by rw [hU]; exact hPc, va_K.moved hW.alike hKc⟩⟩ rfl rfl hl.1 rfl (lv_room (Nat.le_of_ble_eq_true rfl)) dL_law_2138 ⟨Nat.le_of_ble_eq_true rfl, Nat.le_of_ble_eq_true rfl⟩) (fun r_1 w_1 => ?_)
  subst w_1
  refine lv_aload_n hx hb dL_law_2141 rfl (lv_at hl 2 rfl) ?_
  refine lv_aload_n hx hb dL_law_2142 rfl (lv_at hl 4 rfl) ?_
  refine lv_iload hx hb dL_law_2143 (lv_at hl 0 rfl) ?_
  refine lv_iconst (v := 1) hx hb dL_law_2145 (by decide) ?_
  refine lv_iadd hx hb dL_law_2146 ?_
  refine W.eq (g2 := F0 m 2147 ls [.int 1, .ref b, .ref m0, .int (-1)]) (by first | rfl | (congr 2; decide)) ?_
  refine va_sld hx hb hX hbl hbA hS (i := 1) (ki_inl (by decide)) dL_law_2147 ?_
  refine lv_aload_n hx hb dL_law_2148 rfl (lv_at hl 4 rfl) ?_
  refine lv_iload hx hb dL_law_2149 (lv_at hl 0 rfl) ?_
  refine lv_iconst (v := 2) hx hb dL_law_2151 (by decide) ?_
  refine lv_iadd hx hb dL_law_2152 ?_
  refine W.eq (g2 := F0 m 2153 ls [.int 2, .ref b, .int (xs (1 : Int32).toNatClampNeg), .ref m0, .int (-1)]) (by first | rfl | (congr 2; decide)) ?_
  refine va_sld hx hb hX hbl hbA hS (i := 2) (ki_inl (by decide)) dL_law_2153 ?_
  refine lv_aload_n hx hb dL_law_2154 rfl (lv_at hl 4 rfl) ?_
  refine lv_iload hx hb dL_law_2155 (lv_at hl 0 rfl) ?_
  refine lv_iconst (v := 3) hx hb dL_law_2157 (by decide) ?_
  refine lv_iadd hx hb dL_law_2158 ?_
  refine W.eq (g2 := F0 m 2159 ls [.int 3, .ref b, .int (xs (2 : Int32).toNatClampNeg), .int (xs (1 : Int32).toNatClampNeg), .ref m0, .int (-1)]) (by first | rfl | (congr 2; decide)) ?_
  refine va_sld hx hb hX hbl hbA hS (i := 3) (ki_inl (by decide)) dL_law_2159 ?_
  refine lv_aload_n hx hb dL_law_2160 rfl (lv_at hl 4 rfl) ?_
  refine lv_iload hx hb dL_law_2161 (lv_at hl 0 rfl) ?_
  refine lv_iconst (v := 4) hx hb dL_law_2163 (by decide) ?_
  refine lv_iadd hx hb dL_law_2164 ?_
  refine W.eq (g2 := F0 m 2165 ls [.int 4, .ref b, .int (xs (3 : Int32).toNatClampNeg), .int (xs (2 : Int32).toNatClampNeg), .int (xs (1 : Int32).toNatClampNeg), .ref m0, .int (-1)]) (by first | rfl | (congr 2; decide)) ?_
  refine va_sld hx hb hX hbl hbA hS (i := 4) (ki_inl (by decide)) dL_law_2165 ?_
  refine lv_aload_n hx hb dL_law_2166 rfl (lv_at hl 4 rfl) ?_
  refine lv_iload hx hb dL_law_2167 (lv_at hl 0 rfl) ?_
  refine lv_iconst (v := 5) hx hb dL_law_2169 (by decide) ?_
  refine lv_iadd hx hb dL_law_2170 ?_
  refine W.eq (g2 := F0 m 2171 ls [.int 5, .ref b, .int (xs (4 : Int32).toNatClampNeg), .int (xs (3 : Int32).toNatClampNeg), .int (xs (2 : Int32).toNatClampNeg), .int (xs (1 : Int32).toNatClampNeg), .ref m0, .int (-1)]) (by first | rfl | (congr 2; decide)) ?_
  refine va_sld hx hb hX hbl hbA hS (i := 5) (ki_inl (by decide)) dL_law_2171 ?_
  have hPc := hP.sub (ws' := [(m0, .inr (5, [.ref m_row, .int 0, .int 2, .int 0, .ref m_many, .ref m_loss, .ref m_less, .ref m_voteValue, .ref m_voteNumber, .ref m_allValue, .ref m_allNumber, .int 0, .ref m_nodeL, .ref m_nodeR, .int 0, .ref m_part, .int 0, .ref m_wasMany, .ref m_wasLoss, .ref m_wasValue, .ref m_wasNumber, .ref m_path, .int 0, .ref m_heavyValue, .ref m_heavyTimes, .int 0, .ref m_fewest, .ref m_which, .ref m_met, .int 0]))]) [7] rfl
  have hKc := hK.sub (tys' := []) [] rfl
  have hDc := hD.sub (ws' := [(m0, .inr (5, [.ref m_row, .int 0, .int 2, .int 0, .ref m_many, .ref m_loss, .ref m_less, .ref m_voteValue, .ref m_voteNumber, .ref m_allValue, .ref m_allNumber, .int 0, .ref m_nodeL, .ref m_nodeR, .int 0, .ref m_part, .int 0, .ref m_wasMany, .ref m_wasLoss, .ref m_wasValue, .ref m_wasNumber, .ref m_path, .int 0, .ref m_heavyValue, .ref m_heavyTimes, .int 0, .ref m_fewest, .ref m_which, .ref m_met, .int 0]))]) [7] (by decide) rfl
  have hFc := va_free (wc := [(m0, .inr (5, [.ref m_row, .int 0, .int 2, .int 0, .ref m_many, .ref m_loss, .ref m_less, .ref m_voteValue, .ref m_voteNumber, .ref m_allValue, .ref m_allNumber, .int 0, .ref m_nodeL, .ref m_nodeR, .int 0, .ref m_part, .int 0, .ref m_wasMany, .ref m_wasLoss, .ref m_wasValue, .ref m_wasNumber, .ref m_path, .int 0, .ref m_heavyValue, .ref m_heavyTimes, .int 0, .ref m_fewest, .ref m_which, .ref m_met, .int 0]))]) hD hS hA [7] rfl
  refine va_calli (va_runV (As := [.int (xs (1 : Int32).toNatClampNeg), .int (xs (2 : Int32).toNatClampNeg), .int (xs (3 : Int32).toNatClampNeg), .int (xs (4 : Int32).toNatClampNeg), .int (xs (5 : Int32).toNatClampNeg)]) (rest := [.int (-1)]) ⟨hx, hb, hml, hown, (lwC_X5_needs hts0)⟩ (c_X5_needs l dC dI m0 m_row m_many m_loss m_less m_voteValue m_voteNumber m_allValue m_allNumber m_nodeL m_nodeR m_part m_wasMany m_wasLoss m_wasValue m_wasNumber m_path m_heavyValue m_heavyTimes m_fewest m_which m_met (xs (1 : Int32).toNatClampNeg) (xs (2 : Int32).toNatClampNeg) (xs (3 : Int32).toNatClampNeg) (xs (4 : Int32).toNatClampNeg) (xs (5 : Int32).toNatClampNeg) H.size) (cwV 5 (lwC_X5_needs hts0) lwG_X5_needs rfl rfl rfl (by decide +kernel) ⟨Nat.le_of_ble_eq_true rfl, Nat.le_of_ble_eq_true rfl⟩) ⟨fun a U g mk q => by obtain ⟨q0, q1, qP, qK, qD⟩ := q; exact ⟨q0, q1, qP, va_K.moved (u := U) (U := U.calling g mk a) (Vm.Alike.refl U.vm) qK, qD⟩, va_recv hKc hPc (ci := 5) (q0 := 0) rfl rfl, fun U hU hW => ⟨rfl, by rw [hU], by rw [hU]; exact hPc, va_K.moved hW.alike hKc, hDc.weaken (fun _ _ _ _ => trivial)⟩⟩ rfl rfl hl.1 rfl (lv_room (Nat.le_of_ble_eq_true rfl)) dL_law_2172 ⟨Nat.le_of_ble_eq_true rfl, Nat.le_of_ble_eq_true rfl⟩) hS (fun q _ h => hFc q h) hFc (fun r_2 u t H1 locs ht hvm w_2 hB hz1 hk1 hS => ?_)
  obtain ⟨hP1, hK1, hD1⟩ := hB
  rw [ht] at hP1
  have hK1 := va_K.moved hvm.symm hK1
  obtain ⟨hP, hD⟩ := va_join (wr := [(x0, .inr (4, [.ref x_row, .ref x_tree, .ref x_tally, .ref x_votes, .ref x_otherVotes, .ref x_wins, .ref x_fewest, .int 2, .int 1])), (x_row, .inr (0, [.ref x_cell, .int 0])), (x_cell, .inl (cyI, 160, .inl fc)), (x_tree, .inr (2, [.ref x_row, .ref x_joined, .ref x_from, .ref x_to, .ref x_size, .ref x_lossOf, .ref x_lessBy, .ref x_tvalue, .ref x_tnumber, .int 0, .int 0])), (x_from, .inl (cyI, 319, .inl ff)), (x_to, .inl (cyI, 319, .inl ft)), (x_tally, .inr (1, [.ref x_kind, .ref x_often, .int 0, .int 0])), (m_row, .inl (cyI, 160, .inl fm))]) (w1 := []) hP hD [7] [0, 1, 2, 3, 4, 5, 6, 8] rfl rfl (by decide) (by decide) hk1 hFc hP1 hD1
  clear hP1 hD1 hK1 hk1 hz1 hFc hDc hPc hKc
  generalize H1 = H at hP hS ⊢
  have hP : va_P (dC, dI) vwCl [(x0, .inr (4, [.ref x_row, .ref x_tree, .ref x_tally, .ref x_votes, .ref x_otherVotes, .ref x_wins, .ref x_fewest, .int 2, .int 1])), (x_row, .inr (0, [.ref x_cell, .int 0])), (x_cell, .inl (cyI, 160, .inl fc)), (x_tree, .inr (2, [.ref x_row, .ref x_joined, .ref x_from, .ref x_to, .ref x_size, .ref x_lossOf, .ref x_lessBy, .ref x_tvalue, .ref x_tnumber, .int 0, .int 0])), (x_from, .inl (cyI, 319, .inl ff)), (x_to, .inl (cyI, 319, .inl ft)), (x_tally, .inr (1, [.ref x_kind, .ref x_often, .int 0, .int 0])), (m_row, .inl (cyI, 160, .inl fm))] H := hP
  have hD : va_D (fun q : Nat => s.heap.size ≤ q) [(x0, .inr (4, [.ref x_row, .ref x_tree, .ref x_tally, .ref x_votes, .ref x_otherVotes, .ref x_wins, .ref x_fewest, .int 2, .int 1])), (x_row, .inr (0, [.ref x_cell, .int 0])), (x_cell, .inl (cyI, 160, .inl fc)), (x_tree, .inr (2, [.ref x_row, .ref x_joined, .ref x_from, .ref x_to, .ref x_size, .ref x_lossOf, .ref x_lessBy, .ref x_tvalue, .ref x_tnumber, .int 0, .int 0])), (x_from, .inl (cyI, 319, .inl ff)), (x_to, .inl (cyI, 319, .inl ft)), (x_tally, .inr (1, [.ref x_kind, .ref x_often, .int 0, .int 0])), (m_row, .inl (cyI, 160, .inl fm))] := hD
  subst w_2
  refine lv_icmp_eq (tgt := 2400) hx hb dL_law_2175 (by decide) (fun c_3 => ?_) (fun c_3 => ?_)
  · refine W.widen (k := 100) (n := 30000) (Nat.le_of_ble_eq_true rfl) (Nat.le_of_ble_eq_true rfl) ?_
    exact lc_end C0 hS (lv_sub hl [0, 4] rfl)
  · exact absurd c_3 (by decide)

set_option maxHeartbeats 4000000 in
set_option maxRecDepth 100000 in
theorem lc_40 {p : Program} {l : Launch} {e : Env} {s : State} {m : MethodId} {below : List Frame} {meth : Method} {c : Code} {dC : Nat → ClassId} {dI : Nat → Nat → Nat} {b : Nat} {xs : Nat → Int32} (hl0 : l.stackTraces = false) (C0 : lw_At p s m meth c b 8 xs) (hth : ki_Th s) {x0 x_row x_tree x_tally x_votes x_otherVotes x_wins x_fewest x_cell x_joined x_from x_to x_size x_lossOf x_lessBy x_tvalue x_tnumber x_kind x_often m0 m_row m_many m_loss m_less m_voteValue m_voteNumber m_allValue m_allNumber m_nodeL m_nodeR m_part m_wasMany m_wasLoss m_wasValue m_wasNumber m_path m_heavyValue m_heavyTimes m_fewest m_which m_met q_o : Nat} {cyI : ClassId} {fc ff ft fm : Nat → Int32} {H : Heap} {locs : List Loc} (hK : va_K (dC, dI) vwCl [(cyI, .int)] s) (hP : va_P (dC, dI) vwCl [(x0, .inr (4, [.ref x_row, .ref x_tree, .ref x_tally, .ref x_votes, .ref x_otherVotes, .ref x_wins, .ref x_fewest, .int 2, .int 1])), (x_row, .inr (0, [.ref x_cell, .int 0])), (x_cell, .inl (cyI, 160, .inl fc)), (x_tree, .inr (2, [.ref x_row, .ref x_joined, .ref x_from, .ref x_to, .ref x_size, .ref x_lossOf, .ref x_lessBy, .ref x_tvalue, .ref x_tnumber, .int 0, .int 0])), (x_from, .inl (cyI, 319, .inl ff)), (x_to, .inl (cyI, 319, .inl ft)), (x_tally, .inr (1, [.ref x_kind, .ref x_often, .int 0, .int 0])), (m0, .inr (5, [.ref m_row, .int 0, .int 2, .int 0, .ref m_many, .ref m_loss, .ref m_less, .ref m_voteValue, .ref m_voteNumber, .ref m_allValue, .ref m_allNumber, .int 0, .ref m_nodeL, .ref m_nodeR, .int 0, .ref m_part, .int 0, .ref m_wasMany, .ref m_wasLoss, .ref m_wasValue, .ref m_wasNumber, .ref m_path, .int 0, .ref m_heavyValue, .ref m_heavyTimes, .int 0, .ref m_fewest, .ref m_which, .ref m_met, .int 0])), (m_row, .inl (cyI, 160, .inl fm))] H) (hD : va_D (fun q : Nat => s.heap.size ≤ q) [(x0, .inr (4, [.ref x_row, .ref x_tree, .ref x_tally, .ref x_votes, .ref x_otherVotes, .ref x_wins, .ref x_fewest, .int 2, .int 1])), (x_row, .inr (0, [.ref x_cell, .int 0])), (x_cell, .inl (cyI, 160, .inl fc)), (x_tree, .inr (2, [.ref x_row, .ref x_joined, .ref x_from, .ref x_to, .ref x_size, .ref x_lossOf, .ref x_lessBy, .ref x_tvalue, .ref x_tnumber, .int 0, .int 0])), (x_from, .inl (cyI, 319, .inl ff)), (x_to, .inl (cyI, 319, .inl ft)), (x_tally, .inr (1, [.ref x_kind, .ref x_often, .int 0, .int 0])), (m0, .inr (5, [.ref m_row, .int 0, .int 2, .int 0, .ref m_many, .ref m_loss, .ref m_less, .ref m_voteValue, .ref m_voteNumber, .ref m_allValue, .ref m_allNumber, .int 0, .ref m_nodeL, .ref m_nodeR, .int 0, .ref m_part, .int 0, .ref m_wasMany, .ref m_wasLoss, .ref m_wasValue, .ref m_wasNumber, .ref m_path, .int 0, .ref m_heavyValue, .ref m_heavyTimes, .int 0, .ref m_fewest, .ref m_which, .ref m_met, .int 0])), (m_row, .inl (cyI, 160, .inl fm))]) (hS : va_S (fun q : Nat => s.heap.size ≤ q) s.heap H locs) {ls : Array Slot} (hl : lv_has ls 7 [(4, .int 0), (3, .ref q_o), (2, .ref m0), (1, .ref x0), (0, .ref b)]) : W p l e room_1 s m #[Value.ref b] below meth c H locs 60 20000 (lw_Z below #[Value.ref b] s) (F0 m 2180 ls []) := by
  obtain ⟨hx, hb, hr, hml, hown, hts0, hX, hbl, hlocks, hgv⟩ := id C0
  have hts := hts0
  have hA : ∀ q : Nat, s.heap.size ≤ q → (fun q : Nat => s.heap.size ≤ q) q := fun _ h => h
  have hbA : ¬ (fun q : Nat => s.heap.size ≤ q) b := Nat.not_le.mpr hbl
  have hown : s.vm.findClass RL = some m.cls := hown
  have hb : c.code = cL_law := hb
  refine lv_aload_n hx hb dL_law_2180 rfl (lv_at hl 3 rfl) ?_
  refine lv_aload_n hx hb dL_law_2181 rfl (lv_at hl 4 rfl) ?_
  refine lv_iload hx hb dL_law_2182 (lv_at hl 0 rfl) ?_
  refine lv_iconst (v := 1) hx hb dL_law_2184 (by decide) ?_
  refine lv_iadd hx hb dL_law_2185 ?_
  refine W.eq (g2 := F0 m 2186 ls [.int 1, .ref b, .ref x0]) (by first | rfl | (congr 2; decide)) ?_
  refine va_sld hx hb hX hbl hbA hS (i := 1) (ki_inl (by decide)) dL_law_2186 ?_
  refine lv_aload_n hx hb dL_law_2187 rfl (lv_at hl 4 rfl) ?_
  refine lv_iload hx hb dL_law_2188 (lv_at hl 0 rfl) ?_
  refine lv_iconst (v := 2) hx hb dL_law_2190 (by decide) ?_
  refine lv_iadd hx hb dL_law_2191 ?_
  refine W.eq (g2 := F0 m 2192 ls [.int 2, .ref b, .int (xs (1 : Int32).toNatClampNeg), .ref x0]) (by first | rfl | (congr 2; decide)) ?_
  refine va_sld hx hb hX hbl hbA hS (i := 2) (ki_inl (by decide)) dL_law_2192 ?_
  refine lv_aload_n hx hb dL_law_2193 rfl (lv_at hl 4 rfl) ?_
  refine lv_iload hx hb dL_law_2194 (lv_at hl 0 rfl) ?_
  refine lv_iconst (v := 3) hx hb dL_law_2196 (by decide) ?_
  refine lv_iadd hx hb dL_law_2197 ?_
  refine W.eq (g2 := F0 m 2198 ls [.int 3, .ref b, .int (xs (2 : Int32).toNatClampNeg), .int (xs (1 : Int32).toNatClampNeg), .ref x0]) (by first | rfl | (congr 2; decide)) ?_
  refine va_sld hx hb hX hbl hbA hS (i := 3) (ki_inl (by decide)) dL_law_2198 ?_
  refine lv_aload_n hx hb dL_law_2199 rfl (lv_at hl 4 rfl) ?_
  refine lv_iload hx hb dL_law_2200 (lv_at hl 0 rfl) ?_
  refine lv_iconst (v := 4) hx hb dL_law_2202 (by decide) ?_
  refine lv_iadd hx hb dL_law_2203 ?_
  refine W.eq (g2 := F0 m 2204 ls [.int 4, .ref b, .int (xs (3 : Int32).toNatClampNeg), .int (xs (2 : Int32).toNatClampNeg), .int (xs (1 : Int32).toNatClampNeg), .ref x0]) (by first | rfl | (congr 2; decide)) ?_
  refine va_sld hx hb hX hbl hbA hS (i := 4) (ki_inl (by decide)) dL_law_2204 ?_
  refine lv_aload_n hx hb dL_law_2205 rfl (lv_at hl 4 rfl) ?_
  refine lv_iload hx hb dL_law_2206 (lv_at hl 0 rfl) ?_
  refine lv_iconst (v := 5) hx hb dL_law_2208 (by decide) ?_
  refine lv_iadd hx hb dL_law_2209 ?_
  refine W.eq (g2 := F0 m 2210 ls [.int 5, .ref b, .int (xs (4 : Int32).toNatClampNeg), .int (xs (3 : Int32).toNatClampNeg), .int (xs (2 : Int32).toNatClampNeg), .int (xs (1 : Int32).toNatClampNeg), .ref x0]) (by first | rfl | (congr 2; decide)) ?_
  refine va_sld hx hb hX hbl hbA hS (i := 5) (ki_inl (by decide)) dL_law_2210 ?_
  have hPc := hP.sub (ws' := [(x0, .inr (4, [.ref x_row, .ref x_tree, .ref x_tally, .ref x_votes, .ref x_otherVotes, .ref x_wins, .ref x_fewest, .int 2, .int 1])), (x_row, .inr (0, [.ref x_cell, .int 0]))]) [0, 1] rfl
  have hKc := hK.sub (tys' := []) [] rfl
  refine vp_callSi (W.runV (As := [.int (xs (1 : Int32).toNatClampNeg), .int (xs (2 : Int32).toNatClampNeg), .int (xs (3 : Int32).toNatClampNeg), .int (xs (4 : Int32).toNatClampNeg), .int (xs (5 : Int32).toNatClampNeg)]) (rest := []) ⟨hx, hb, hml, hown, (lwC_X4_spares hts0)⟩ (c_X4_spares l dC dI x0 x_row x_tree x_tally x_votes x_otherVotes x_wins x_fewest x_cell (xs (1 : Int32).toNatClampNeg) (xs (2 : Int32).toNatClampNeg) (xs (3 : Int32).toNatClampNeg) (xs (4 : Int32).toNatClampNeg) (xs (5 : Int32).toNatClampNeg)) (cwV 5 (lwC_X4_spares hts0) lwG_X4_spares rfl rfl rfl (by decide +kernel) ⟨Nat.le_of_ble_eq_true rfl, Nat.le_of_ble_eq_true rfl⟩) ⟨fun a U g mk q => by obtain ⟨q0, qP, qK⟩ := q; exact ⟨q0, qP, va_K.moved (u := U) (U := U.calling g mk a) (Vm.Alike.refl U.vm) qK⟩, va_recv hKc hPc (ci := 4) (q0 := 0) rfl rfl, fun U hU hW => ⟨rfl, by rw [hU]; exact hPc, va_K.moved hW.alike hKc⟩⟩ rfl rfl hl.1 rfl (lv_room (Nat.le_of_ble_eq_true rfl)) dL_law_2211 ⟨Nat.le_of_ble_eq_true rfl, Nat.le_of_ble_eq_true rfl⟩) (fun r_1 w_1 => ?_)
  subst w_1
  refine lv_aload_n hx hb dL_law_2214 rfl (lv_at hl 2 rfl) ?_
  refine lv_aload_n hx hb dL_law_2215 rfl (lv_at hl 4 rfl) ?_
  refine lv_iload hx hb dL_law_2216 (lv_at hl 0 rfl) ?_
  refine lv_iconst (v := 1) hx hb dL_law_2218 (by decide) ?_
  refine lv_iadd hx hb dL_law_2219 ?_
  refine W.eq (g2 := F0 m 2220 ls [.int 1, .ref b, .ref m0, .int (-1)]) (by first | rfl | (congr 2; decide)) ?_
  refine va_sld hx hb hX hbl hbA hS (i := 1) (ki_inl (by decide)) dL_law_2220 ?_
  refine lv_aload_n hx hb dL_law_2221 rfl (lv_at hl 4 rfl) ?_
  refine lv_iload hx hb dL_law_2222 (lv_at hl 0 rfl) ?_
  refine lv_iconst (v := 2) hx hb dL_law_2224 (by decide) ?_
  refine lv_iadd hx hb dL_law_2225 ?_
  refine W.eq (g2 := F0 m 2226 ls [.int 2, .ref b, .int (xs (1 : Int32).toNatClampNeg), .ref m0, .int (-1)]) (by first | rfl | (congr 2; decide)) ?_
  refine va_sld hx hb hX hbl hbA hS (i := 2) (ki_inl (by decide)) dL_law_2226 ?_
  refine lv_aload_n hx hb dL_law_2227 rfl (lv_at hl 4 rfl) ?_
  refine lv_iload hx hb dL_law_2228 (lv_at hl 0 rfl) ?_
  refine lv_iconst (v := 3) hx hb dL_law_2230 (by decide) ?_
  refine lv_iadd hx hb dL_law_2231 ?_
  refine W.eq (g2 := F0 m 2232 ls [.int 3, .ref b, .int (xs (2 : Int32).toNatClampNeg), .int (xs (1 : Int32).toNatClampNeg), .ref m0, .int (-1)]) (by first | rfl | (congr 2; decide)) ?_
  refine va_sld hx hb hX hbl hbA hS (i := 3) (ki_inl (by decide)) dL_law_2232 ?_
  refine lv_aload_n hx hb dL_law_2233 rfl (lv_at hl 4 rfl) ?_
  refine lv_iload hx hb dL_law_2234 (lv_at hl 0 rfl) ?_
  refine lv_iconst (v := 4) hx hb dL_law_2236 (by decide) ?_
  refine lv_iadd hx hb dL_law_2237 ?_
  refine W.eq (g2 := F0 m 2238 ls [.int 4, .ref b, .int (xs (3 : Int32).toNatClampNeg), .int (xs (2 : Int32).toNatClampNeg), .int (xs (1 : Int32).toNatClampNeg), .ref m0, .int (-1)]) (by first | rfl | (congr 2; decide)) ?_
  refine va_sld hx hb hX hbl hbA hS (i := 4) (ki_inl (by decide)) dL_law_2238 ?_
  refine lv_aload_n hx hb dL_law_2239 rfl (lv_at hl 4 rfl) ?_
  refine lv_iload hx hb dL_law_2240 (lv_at hl 0 rfl) ?_
  refine lv_iconst (v := 5) hx hb dL_law_2242 (by decide) ?_
  refine lv_iadd hx hb dL_law_2243 ?_
  refine W.eq (g2 := F0 m 2244 ls [.int 5, .ref b, .int (xs (4 : Int32).toNatClampNeg), .int (xs (3 : Int32).toNatClampNeg), .int (xs (2 : Int32).toNatClampNeg), .int (xs (1 : Int32).toNatClampNeg), .ref m0, .int (-1)]) (by first | rfl | (congr 2; decide)) ?_
  refine va_sld hx hb hX hbl hbA hS (i := 5) (ki_inl (by decide)) dL_law_2244 ?_
  have hPc := hP.sub (ws' := [(m0, .inr (5, [.ref m_row, .int 0, .int 2, .int 0, .ref m_many, .ref m_loss, .ref m_less, .ref m_voteValue, .ref m_voteNumber, .ref m_allValue, .ref m_allNumber, .int 0, .ref m_nodeL, .ref m_nodeR, .int 0, .ref m_part, .int 0, .ref m_wasMany, .ref m_wasLoss, .ref m_wasValue, .ref m_wasNumber, .ref m_path, .int 0, .ref m_heavyValue, .ref m_heavyTimes, .int 0, .ref m_fewest, .ref m_which, .ref m_met, .int 0]))]) [7] rfl
  have hKc := hK.sub (tys' := []) [] rfl
  have hDc := hD.sub (ws' := [(m0, .inr (5, [.ref m_row, .int 0, .int 2, .int 0, .ref m_many, .ref m_loss, .ref m_less, .ref m_voteValue, .ref m_voteNumber, .ref m_allValue, .ref m_allNumber, .int 0, .ref m_nodeL, .ref m_nodeR, .int 0, .ref m_part, .int 0, .ref m_wasMany, .ref m_wasLoss, .ref m_wasValue, .ref m_wasNumber, .ref m_path, .int 0, .ref m_heavyValue, .ref m_heavyTimes, .int 0, .ref m_fewest, .ref m_which, .ref m_met, .int 0]))]) [7] (by decide) rfl
  have hFc := va_free (wc := [(m0, .inr (5, [.ref m_row, .int 0, .int 2, .int 0, .ref m_many, .ref m_loss, .ref m_less, .ref m_voteValue, .ref m_voteNumber, .ref m_allValue, .ref m_allNumber, .int 0, .ref m_nodeL, .ref m_nodeR, .int 0, .ref m_part, .int 0, .ref m_wasMany, .ref m_wasLoss, .ref m_wasValue, .ref m_wasNumber, .ref m_path, .int 0, .ref m_heavyValue, .ref m_heavyTimes, .int 0, .ref m_fewest, .ref m_which, .ref m_met, .int 0]))]) hD hS hA [7] rfl
  refine va_calli (va_runV (As := [.int (xs (1 : Int32).toNatClampNeg), .int (xs (2 : Int32).toNatClampNeg), .int (xs (3 : Int32).toNatClampNeg), .int (xs (4 : Int32).toNatClampNeg), .int (xs (5 : Int32).toNatClampNeg)]) (rest := [.int (-1)]) ⟨hx, hb, hml, hown, (lwC_X5_spares hts0)⟩ (c_X5_spares l dC dI m0 m_row m_many m_loss m_less m_voteValue m_voteNumber m_allValue m_allNumber m_nodeL m_nodeR m_part m_wasMany m_wasLoss m_wasValue m_wasNumber m_path m_heavyValue m_heavyTimes m_fewest m_which m_met (xs (1 : Int32).toNatClampNeg) (xs (2 : Int32).toNatClampNeg) (xs (3 : Int32).toNatClampNeg) (xs (4 : Int32).toNatClampNeg) (xs (5 : Int32).toNatClampNeg) H.size) (cwV 5 (lwC_X5_spares hts0) lwG_X5_spares rfl rfl rfl (by decide +kernel) ⟨Nat.le_of_ble_eq_true rfl, Nat.le_of_ble_eq_true rfl⟩) ⟨fun a U g mk q => by obtain ⟨q0, q1, qP, qK, qD⟩ := q; exact ⟨q0, q1, qP, va_K.moved (u := U) (U := U.calling g mk a) (Vm.Alike.refl U.vm) qK, qD⟩, va_recv hKc hPc (ci := 5) (q0 := 0) rfl rfl, fun U hU hW => ⟨rfl, by rw [hU], by rw [hU]; exact hPc, va_K.moved hW.alike hKc, hDc.weaken (fun _ _ _ _ => trivial)⟩⟩ rfl rfl hl.1 rfl (lv_room (Nat.le_of_ble_eq_true rfl)) dL_law_2245 ⟨Nat.le_of_ble_eq_true rfl, Nat.le_of_ble_eq_true rfl⟩) hS (fun q _ h => hFc q h) hFc (fun r_2 u t H1 locs ht hvm w_2 hB hz1 hk1 hS => ?_)
  obtain ⟨hP1, hK1, hD1⟩ := hB
  rw [ht] at hP1
  have hK1 := va_K.moved hvm.symm hK1
  obtain ⟨hP, hD⟩ := va_join (wr := [(x0, .inr (4, [.ref x_row, .ref x_tree, .ref x_tally, .ref x_votes, .ref x_otherVotes, .ref x_wins, .ref x_fewest, .int 2, .int 1])), (x_row, .inr (0, [.ref x_cell, .int 0])), (x_cell, .inl (cyI, 160, .inl fc)), (x_tree, .inr (2, [.ref x_row, .ref x_joined, .ref x_from, .ref x_to, .ref x_size, .ref x_lossOf, .ref x_lessBy, .ref x_tvalue, .ref x_tnumber, .int 0, .int 0])), (x_from, .inl (cyI, 319, .inl ff)), (x_to, .inl (cyI, 319, .inl ft)), (x_tally, .inr (1, [.ref x_kind, .ref x_often, .int 0, .int 0])), (m_row, .inl (cyI, 160, .inl fm))]) (w1 := []) hP hD [7] [0, 1, 2, 3, 4, 5, 6, 8] rfl rfl (by decide) (by decide) hk1 hFc hP1 hD1
  clear hP1 hD1 hK1 hk1 hz1 hFc hDc hPc hKc
  generalize H1 = H at hP hS ⊢
  have hP : va_P (dC, dI) vwCl [(x0, .inr (4, [.ref x_row, .ref x_tree, .ref x_tally, .ref x_votes, .ref x_otherVotes, .ref x_wins, .ref x_fewest, .int 2, .int 1])), (x_row, .inr (0, [.ref x_cell, .int 0])), (x_cell, .inl (cyI, 160, .inl fc)), (x_tree, .inr (2, [.ref x_row, .ref x_joined, .ref x_from, .ref x_to, .ref x_size, .ref x_lossOf, .ref x_lessBy, .ref x_tvalue, .ref x_tnumber, .int 0, .int 0])), (x_from, .inl (cyI, 319, .inl ff)), (x_to, .inl (cyI, 319, .inl ft)), (x_tally, .inr (1, [.ref x_kind, .ref x_often, .int 0, .int 0])), (m_row, .inl (cyI, 160, .inl fm))] H := hP
  have hD : va_D (fun q : Nat => s.heap.size ≤ q) [(x0, .inr (4, [.ref x_row, .ref x_tree, .ref x_tally, .ref x_votes, .ref x_otherVotes, .ref x_wins, .ref x_fewest, .int 2, .int 1])), (x_row, .inr (0, [.ref x_cell, .int 0])), (x_cell, .inl (cyI, 160, .inl fc)), (x_tree, .inr (2, [.ref x_row, .ref x_joined, .ref x_from, .ref x_to, .ref x_size, .ref x_lossOf, .ref x_lessBy, .ref x_tvalue, .ref x_tnumber, .int 0, .int 0])), (x_from, .inl (cyI, 319, .inl ff)), (x_to, .inl (cyI, 319, .inl ft)), (x_tally, .inr (1, [.ref x_kind, .ref x_often, .int 0, .int 0])), (m_row, .inl (cyI, 160, .inl fm))] := hD
  subst w_2
  refine lv_icmp_eq (tgt := 2400) hx hb dL_law_2248 (by decide) (fun c_3 => ?_) (fun c_3 => ?_)
  · refine W.widen (k := 100) (n := 30000) (Nat.le_of_ble_eq_true rfl) (Nat.le_of_ble_eq_true rfl) ?_
    exact lc_end C0 hS (lv_sub hl [0, 4] rfl)
  · exact absurd c_3 (by decide)

set_option maxHeartbeats 4000000 in
set_option maxRecDepth 100000 in
theorem lc_41 {p : Program} {l : Launch} {e : Env} {s : State} {m : MethodId} {below : List Frame} {meth : Method} {c : Code} {dC : Nat → ClassId} {dI : Nat → Nat → Nat} {b : Nat} {xs : Nat → Int32} (hl0 : l.stackTraces = false) (C0 : lw_At p s m meth c b 8 xs) (hth : ki_Th s) {x0 x_row x_tree x_tally x_votes x_otherVotes x_wins x_fewest x_cell x_joined x_from x_to x_size x_lossOf x_lessBy x_tvalue x_tnumber x_kind x_often m0 m_row m_many m_loss m_less m_voteValue m_voteNumber m_allValue m_allNumber m_nodeL m_nodeR m_part m_wasMany m_wasLoss m_wasValue m_wasNumber m_path m_heavyValue m_heavyTimes m_fewest m_which m_met q_o : Nat} {cyI : ClassId} {fc ff ft fm : Nat → Int32} {H : Heap} {locs : List Loc} (hK : va_K (dC, dI) vwCl [(cyI, .int)] s) (hP : va_P (dC, dI) vwCl [(x0, .inr (4, [.ref x_row, .ref x_tree, .ref x_tally, .ref x_votes, .ref x_otherVotes, .ref x_wins, .ref x_fewest, .int 2, .int 1])), (x_row, .inr (0, [.ref x_cell, .int 0])), (x_cell, .inl (cyI, 160, .inl fc)), (x_tree, .inr (2, [.ref x_row, .ref x_joined, .ref x_from, .ref x_to, .ref x_size, .ref x_lossOf, .ref x_lessBy, .ref x_tvalue, .ref x_tnumber, .int 0, .int 0])), (x_from, .inl (cyI, 319, .inl ff)), (x_to, .inl (cyI, 319, .inl ft)), (x_tally, .inr (1, [.ref x_kind, .ref x_often, .int 0, .int 0])), (m0, .inr (5, [.ref m_row, .int 0, .int 2, .int 0, .ref m_many, .ref m_loss, .ref m_less, .ref m_voteValue, .ref m_voteNumber, .ref m_allValue, .ref m_allNumber, .int 0, .ref m_nodeL, .ref m_nodeR, .int 0, .ref m_part, .int 0, .ref m_wasMany, .ref m_wasLoss, .ref m_wasValue, .ref m_wasNumber, .ref m_path, .int 0, .ref m_heavyValue, .ref m_heavyTimes, .int 0, .ref m_fewest, .ref m_which, .ref m_met, .int 0])), (m_row, .inl (cyI, 160, .inl fm))] H) (hD : va_D (fun q : Nat => s.heap.size ≤ q) [(x0, .inr (4, [.ref x_row, .ref x_tree, .ref x_tally, .ref x_votes, .ref x_otherVotes, .ref x_wins, .ref x_fewest, .int 2, .int 1])), (x_row, .inr (0, [.ref x_cell, .int 0])), (x_cell, .inl (cyI, 160, .inl fc)), (x_tree, .inr (2, [.ref x_row, .ref x_joined, .ref x_from, .ref x_to, .ref x_size, .ref x_lossOf, .ref x_lessBy, .ref x_tvalue, .ref x_tnumber, .int 0, .int 0])), (x_from, .inl (cyI, 319, .inl ff)), (x_to, .inl (cyI, 319, .inl ft)), (x_tally, .inr (1, [.ref x_kind, .ref x_often, .int 0, .int 0])), (m0, .inr (5, [.ref m_row, .int 0, .int 2, .int 0, .ref m_many, .ref m_loss, .ref m_less, .ref m_voteValue, .ref m_voteNumber, .ref m_allValue, .ref m_allNumber, .int 0, .ref m_nodeL, .ref m_nodeR, .int 0, .ref m_part, .int 0, .ref m_wasMany, .ref m_wasLoss, .ref m_wasValue, .ref m_wasNumber, .ref m_path, .int 0, .ref m_heavyValue, .ref m_heavyTimes, .int 0, .ref m_fewest, .ref m_which, .ref m_met, .int 0])), (m_row, .inl (cyI, 160, .inl fm))]) (hS : va_S (fun q : Nat => s.heap.size ≤ q) s.heap H locs) {ls : Array Slot} (hl : lv_has ls 7 [(4, .int 0), (3, .ref q_o), (2, .ref m0), (1, .ref x0), (0, .ref b)]) : W p l e room_1 s m #[Value.ref b] below meth c H locs 60 20000 (lw_Z below #[Value.ref b] s) (F0 m 2253 ls []) := by
  obtain ⟨hx, hb, hr, hml, hown, hts0, hX, hbl, hlocks, hgv⟩ := id C0
  have hts := hts0
  have hA : ∀ q : Nat, s.heap.size ≤ q → (fun q : Nat => s.heap.size ≤ q) q := fun _ h => h
  have hbA : ¬ (fun q : Nat => s.heap.size ≤ q) b := Nat.not_le.mpr hbl
  have hown : s.vm.findClass RL = some m.cls := hown
  have hb : c.code = cL_law := hb
  refine lv_aload_n hx hb dL_law_2253 rfl (lv_at hl 3 rfl) ?_
  refine lv_aload_n hx hb dL_law_2254 rfl (lv_at hl 4 rfl) ?_
  refine lv_iload hx hb dL_law_2255 (lv_at hl 0 rfl) ?_
  refine lv_iconst (v := 1) hx hb dL_law_2257 (by decide) ?_
  refine lv_iadd hx hb dL_law_2258 ?_
  refine W.eq (g2 := F0 m 2259 ls [.int 1, .ref b, .ref x0]) (by first | rfl | (congr 2; decide)) ?_
  refine va_sld hx hb hX hbl hbA hS (i := 1) (ki_inl (by decide)) dL_law_2259 ?_
  refine lv_aload_n hx hb dL_law_2260 rfl (lv_at hl 4 rfl) ?_
  refine lv_iload hx hb dL_law_2261 (lv_at hl 0 rfl) ?_
  refine lv_iconst (v := 2) hx hb dL_law_2263 (by decide) ?_
  refine lv_iadd hx hb dL_law_2264 ?_
  refine W.eq (g2 := F0 m 2265 ls [.int 2, .ref b, .int (xs (1 : Int32).toNatClampNeg), .ref x0]) (by first | rfl | (congr 2; decide)) ?_
  refine va_sld hx hb hX hbl hbA hS (i := 2) (ki_inl (by decide)) dL_law_2265 ?_
  refine lv_aload_n hx hb dL_law_2266 rfl (lv_at hl 4 rfl) ?_
  refine lv_iload hx hb dL_law_2267 (lv_at hl 0 rfl) ?_
  refine lv_iconst (v := 3) hx hb dL_law_2269 (by decide) ?_
  refine lv_iadd hx hb dL_law_2270 ?_
  refine W.eq (g2 := F0 m 2271 ls [.int 3, .ref b, .int (xs (2 : Int32).toNatClampNeg), .int (xs (1 : Int32).toNatClampNeg), .ref x0]) (by first | rfl | (congr 2; decide)) ?_
  refine va_sld hx hb hX hbl hbA hS (i := 3) (ki_inl (by decide)) dL_law_2271 ?_
  refine lv_aload_n hx hb dL_law_2272 rfl (lv_at hl 4 rfl) ?_
  refine lv_iload hx hb dL_law_2273 (lv_at hl 0 rfl) ?_
  refine lv_iconst (v := 4) hx hb dL_law_2275 (by decide) ?_
  refine lv_iadd hx hb dL_law_2276 ?_
  refine W.eq (g2 := F0 m 2277 ls [.int 4, .ref b, .int (xs (3 : Int32).toNatClampNeg), .int (xs (2 : Int32).toNatClampNeg), .int (xs (1 : Int32).toNatClampNeg), .ref x0]) (by first | rfl | (congr 2; decide)) ?_
  refine va_sld hx hb hX hbl hbA hS (i := 4) (ki_inl (by decide)) dL_law_2277 ?_
  have hPc := hP.sub (ws' := [(x0, .inr (4, [.ref x_row, .ref x_tree, .ref x_tally, .ref x_votes, .ref x_otherVotes, .ref x_wins, .ref x_fewest, .int 2, .int 1])), (x_row, .inr (0, [.ref x_cell, .int 0]))]) [0, 1] rfl
  have hKc := hK.sub (tys' := []) [] rfl
  refine vp_callSi (W.runV (As := [.int (xs (1 : Int32).toNatClampNeg), .int (xs (2 : Int32).toNatClampNeg), .int (xs (3 : Int32).toNatClampNeg), .int (xs (4 : Int32).toNatClampNeg)]) (rest := []) ⟨hx, hb, hml, hown, (lwC_X4_would hts0)⟩ (c_X4_would l dC dI x0 x_row x_tree x_tally x_votes x_otherVotes x_wins x_fewest x_cell (xs (1 : Int32).toNatClampNeg) (xs (2 : Int32).toNatClampNeg) (xs (3 : Int32).toNatClampNeg) (xs (4 : Int32).toNatClampNeg)) (cwV 4 (lwC_X4_would hts0) lwG_X4_would rfl rfl rfl (by decide +kernel) ⟨Nat.le_of_ble_eq_true rfl, Nat.le_of_ble_eq_true rfl⟩) ⟨fun a U g mk q => by obtain ⟨q0, qP, qK⟩ := q; exact ⟨q0, qP, va_K.moved (u := U) (U := U.calling g mk a) (Vm.Alike.refl U.vm) qK⟩, va_recv hKc hPc (ci := 4) (q0 := 0) rfl rfl, fun U hU hW => ⟨rfl, by rw [hU]; exact hPc, va_K.moved hW.alike hKc⟩⟩ rfl rfl hl.1 rfl (lv_room (Nat.le_of_ble_eq_true rfl)) dL_law_2278 ⟨Nat.le_of_ble_eq_true rfl, Nat.le_of_ble_eq_true rfl⟩) (fun r_1 w_1 => ?_)
  subst w_1
  refine lv_aload_n hx hb dL_law_2281 rfl (lv_at hl 2 rfl) ?_
  refine lv_aload_n hx hb dL_law_2282 rfl (lv_at hl 4 rfl) ?_
  refine lv_iload hx hb dL_law_2283 (lv_at hl 0 rfl) ?_
  refine lv_iconst (v := 1) hx hb dL_law_2285 (by decide) ?_
  refine lv_iadd hx hb dL_law_2286 ?_
  refine W.eq (g2 := F0 m 2287 ls [.int 1, .ref b, .ref m0, .int (-40000)]) (by first | rfl | (congr 2; decide)) ?_
  refine va_sld hx hb hX hbl hbA hS (i := 1) (ki_inl (by decide)) dL_law_2287 ?_
  refine lv_aload_n hx hb dL_law_2288 rfl (lv_at hl 4 rfl) ?_
  refine lv_iload hx hb dL_law_2289 (lv_at hl 0 rfl) ?_
  refine lv_iconst (v := 2) hx hb dL_law_2291 (by decide) ?_
  refine lv_iadd hx hb dL_law_2292 ?_
  refine W.eq (g2 := F0 m 2293 ls [.int 2, .ref b, .int (xs (1 : Int32).toNatClampNeg), .ref m0, .int (-40000)]) (by first | rfl | (congr 2; decide)) ?_
  refine va_sld hx hb hX hbl hbA hS (i := 2) (ki_inl (by decide)) dL_law_2293 ?_
  refine lv_aload_n hx hb dL_law_2294 rfl (lv_at hl 4 rfl) ?_
  refine lv_iload hx hb dL_law_2295 (lv_at hl 0 rfl) ?_
  refine lv_iconst (v := 3) hx hb dL_law_2297 (by decide) ?_
  refine lv_iadd hx hb dL_law_2298 ?_
  refine W.eq (g2 := F0 m 2299 ls [.int 3, .ref b, .int (xs (2 : Int32).toNatClampNeg), .int (xs (1 : Int32).toNatClampNeg), .ref m0, .int (-40000)]) (by first | rfl | (congr 2; decide)) ?_
  refine va_sld hx hb hX hbl hbA hS (i := 3) (ki_inl (by decide)) dL_law_2299 ?_
  refine lv_aload_n hx hb dL_law_2300 rfl (lv_at hl 4 rfl) ?_
  refine lv_iload hx hb dL_law_2301 (lv_at hl 0 rfl) ?_
  refine lv_iconst (v := 4) hx hb dL_law_2303 (by decide) ?_
  refine lv_iadd hx hb dL_law_2304 ?_
  refine W.eq (g2 := F0 m 2305 ls [.int 4, .ref b, .int (xs (3 : Int32).toNatClampNeg), .int (xs (2 : Int32).toNatClampNeg), .int (xs (1 : Int32).toNatClampNeg), .ref m0, .int (-40000)]) (by first | rfl | (congr 2; decide)) ?_
  refine va_sld hx hb hX hbl hbA hS (i := 4) (ki_inl (by decide)) dL_law_2305 ?_
  have hPc := hP.sub (ws' := [(m0, .inr (5, [.ref m_row, .int 0, .int 2, .int 0, .ref m_many, .ref m_loss, .ref m_less, .ref m_voteValue, .ref m_voteNumber, .ref m_allValue, .ref m_allNumber, .int 0, .ref m_nodeL, .ref m_nodeR, .int 0, .ref m_part, .int 0, .ref m_wasMany, .ref m_wasLoss, .ref m_wasValue, .ref m_wasNumber, .ref m_path, .int 0, .ref m_heavyValue, .ref m_heavyTimes, .int 0, .ref m_fewest, .ref m_which, .ref m_met, .int 0]))]) [7] rfl
  have hKc := hK.sub (tys' := []) [] rfl
  have hDc := hD.sub (ws' := [(m0, .inr (5, [.ref m_row, .int 0, .int 2, .int 0, .ref m_many, .ref m_loss, .ref m_less, .ref m_voteValue, .ref m_voteNumber, .ref m_allValue, .ref m_allNumber, .int 0, .ref m_nodeL, .ref m_nodeR, .int 0, .ref m_part, .int 0, .ref m_wasMany, .ref m_wasLoss, .ref m_wasValue, .ref m_wasNumber, .ref m_path, .int 0, .ref m_heavyValue, .ref m_heavyTimes, .int 0, .ref m_fewest, .ref m_which, .ref m_met, .int 0]))]) [7] (by decide) rfl
  have hFc := va_free (wc := [(m0, .inr (5, [.ref m_row, .int 0, .int 2, .int 0, .ref m_many, .ref m_loss, .ref m_less, .ref m_voteValue, .ref m_voteNumber, .ref m_allValue, .ref m_allNumber, .int 0, .ref m_nodeL, .ref m_nodeR, .int 0, .ref m_part, .int 0, .ref m_wasMany, .ref m_wasLoss, .ref m_wasValue, .ref m_wasNumber, .ref m_path, .int 0, .ref m_heavyValue, .ref m_heavyTimes, .int 0, .ref m_fewest, .ref m_which, .ref m_met, .int 0]))]) hD hS hA [7] rfl
  refine va_calli (va_runV (As := [.int (xs (1 : Int32).toNatClampNeg), .int (xs (2 : Int32).toNatClampNeg), .int (xs (3 : Int32).toNatClampNeg), .int (xs (4 : Int32).toNatClampNeg)]) (rest := [.int (-40000)]) ⟨hx, hb, hml, hown, (lwC_X5_would hts0)⟩ (c_X5_would l dC dI m0 m_row m_many m_loss m_less m_voteValue m_voteNumber m_allValue m_allNumber m_nodeL m_nodeR m_part m_wasMany m_wasLoss m_wasValue m_wasNumber m_path m_heavyValue m_heavyTimes m_fewest m_which m_met (xs (1 : Int32).toNatClampNeg) (xs (2 : Int32).toNatClampNeg) (xs (3 : Int32).toNatClampNeg) (xs (4 : Int32).toNatClampNeg) H.size) (cwV 4 (lwC_X5_would hts0) lwG_X5_would rfl rfl rfl (by decide +kernel) ⟨Nat.le_of_ble_eq_true rfl, Nat.le_of_ble_eq_true rfl⟩) ⟨fun a U g mk q => by obtain ⟨q0, q1, qP, qK, qD⟩ := q; exact ⟨q0, q1, qP, va_K.moved (u := U) (U := U.calling g mk a) (Vm.Alike.refl U.vm) qK, qD⟩, va_recv hKc hPc (ci := 5) (q0 := 0) rfl rfl, fun U hU hW => ⟨rfl, by rw [hU], by rw [hU]; exact hPc, va_K.moved hW.alike hKc, hDc.weaken (fun _ _ _ _ => trivial)⟩⟩ rfl rfl hl.1 rfl (lv_room (Nat.le_of_ble_eq_true rfl)) dL_law_2306 ⟨Nat.le_of_ble_eq_true rfl, Nat.le_of_ble_eq_true rfl⟩) hS (fun q _ h => hFc q h) hFc (fun r_2 u t H1 locs ht hvm w_2 hB hz1 hk1 hS => ?_)
  obtain ⟨hP1, hK1, hD1⟩ := hB
  rw [ht] at hP1
  have hK1 := va_K.moved hvm.symm hK1
  obtain ⟨hP, hD⟩ := va_join (wr := [(x0, .inr (4, [.ref x_row, .ref x_tree, .ref x_tally, .ref x_votes, .ref x_otherVotes, .ref x_wins, .ref x_fewest, .int 2, .int 1])), (x_row, .inr (0, [.ref x_cell, .int 0])), (x_cell, .inl (cyI, 160, .inl fc)), (x_tree, .inr (2, [.ref x_row, .ref x_joined, .ref x_from, .ref x_to, .ref x_size, .ref x_lossOf, .ref x_lessBy, .ref x_tvalue, .ref x_tnumber, .int 0, .int 0])), (x_from, .inl (cyI, 319, .inl ff)), (x_to, .inl (cyI, 319, .inl ft)), (x_tally, .inr (1, [.ref x_kind, .ref x_often, .int 0, .int 0])), (m_row, .inl (cyI, 160, .inl fm))]) (w1 := []) hP hD [7] [0, 1, 2, 3, 4, 5, 6, 8] rfl rfl (by decide) (by decide) hk1 hFc hP1 hD1
  clear hP1 hD1 hK1 hk1 hz1 hFc hDc hPc hKc
  generalize H1 = H at hP hS ⊢
  have hP : va_P (dC, dI) vwCl [(x0, .inr (4, [.ref x_row, .ref x_tree, .ref x_tally, .ref x_votes, .ref x_otherVotes, .ref x_wins, .ref x_fewest, .int 2, .int 1])), (x_row, .inr (0, [.ref x_cell, .int 0])), (x_cell, .inl (cyI, 160, .inl fc)), (x_tree, .inr (2, [.ref x_row, .ref x_joined, .ref x_from, .ref x_to, .ref x_size, .ref x_lossOf, .ref x_lessBy, .ref x_tvalue, .ref x_tnumber, .int 0, .int 0])), (x_from, .inl (cyI, 319, .inl ff)), (x_to, .inl (cyI, 319, .inl ft)), (x_tally, .inr (1, [.ref x_kind, .ref x_often, .int 0, .int 0])), (m_row, .inl (cyI, 160, .inl fm))] H := hP
  have hD : va_D (fun q : Nat => s.heap.size ≤ q) [(x0, .inr (4, [.ref x_row, .ref x_tree, .ref x_tally, .ref x_votes, .ref x_otherVotes, .ref x_wins, .ref x_fewest, .int 2, .int 1])), (x_row, .inr (0, [.ref x_cell, .int 0])), (x_cell, .inl (cyI, 160, .inl fc)), (x_tree, .inr (2, [.ref x_row, .ref x_joined, .ref x_from, .ref x_to, .ref x_size, .ref x_lossOf, .ref x_lessBy, .ref x_tvalue, .ref x_tnumber, .int 0, .int 0])), (x_from, .inl (cyI, 319, .inl ff)), (x_to, .inl (cyI, 319, .inl ft)), (x_tally, .inr (1, [.ref x_kind, .ref x_often, .int 0, .int 0])), (m_row, .inl (cyI, 160, .inl fm))] := hD
  subst w_2
  refine lv_icmp_eq (tgt := 2400) hx hb dL_law_2309 (by decide) (fun c_3 => ?_) (fun c_3 => ?_)
  · refine W.widen (k := 100) (n := 30000) (Nat.le_of_ble_eq_true rfl) (Nat.le_of_ble_eq_true rfl) ?_
    exact lc_end C0 hS (lv_sub hl [0, 4] rfl)
  · exact absurd c_3 (by decide)

set_option maxHeartbeats 4000000 in
set_option maxRecDepth 100000 in
theorem lc_42 {p : Program} {l : Launch} {e : Env} {s : State} {m : MethodId} {below : List Frame} {meth : Method} {c : Code} {dC : Nat → ClassId} {dI : Nat → Nat → Nat} {b : Nat} {xs : Nat → Int32} (hl0 : l.stackTraces = false) (C0 : lw_At p s m meth c b 8 xs) (hth : ki_Th s) {x0 x_row x_tree x_tally x_votes x_otherVotes x_wins x_fewest x_cell x_joined x_from x_to x_size x_lossOf x_lessBy x_tvalue x_tnumber x_kind x_often m0 m_row m_many m_loss m_less m_voteValue m_voteNumber m_allValue m_allNumber m_nodeL m_nodeR m_part m_wasMany m_wasLoss m_wasValue m_wasNumber m_path m_heavyValue m_heavyTimes m_fewest m_which m_met q_o : Nat} {cyI : ClassId} {fc ff ft fm : Nat → Int32} {H : Heap} {locs : List Loc} (hK : va_K (dC, dI) vwCl [(cyI, .int)] s) (hP : va_P (dC, dI) vwCl [(x0, .inr (4, [.ref x_row, .ref x_tree, .ref x_tally, .ref x_votes, .ref x_otherVotes, .ref x_wins, .ref x_fewest, .int 2, .int 1])), (x_row, .inr (0, [.ref x_cell, .int 0])), (x_cell, .inl (cyI, 160, .inl fc)), (x_tree, .inr (2, [.ref x_row, .ref x_joined, .ref x_from, .ref x_to, .ref x_size, .ref x_lossOf, .ref x_lessBy, .ref x_tvalue, .ref x_tnumber, .int 0, .int 0])), (x_from, .inl (cyI, 319, .inl ff)), (x_to, .inl (cyI, 319, .inl ft)), (x_tally, .inr (1, [.ref x_kind, .ref x_often, .int 0, .int 0])), (m0, .inr (5, [.ref m_row, .int 0, .int 2, .int 0, .ref m_many, .ref m_loss, .ref m_less, .ref m_voteValue, .ref m_voteNumber, .ref m_allValue, .ref m_allNumber, .int 0, .ref m_nodeL, .ref m_nodeR, .int 0, .ref m_part, .int 0, .ref m_wasMany, .ref m_wasLoss, .ref m_wasValue, .ref m_wasNumber, .ref m_path, .int 0, .ref m_heavyValue, .ref m_heavyTimes, .int 0, .ref m_fewest, .ref m_which, .ref m_met, .int 0])), (m_row, .inl (cyI, 160, .inl fm))] H) (hD : va_D (fun q : Nat => s.heap.size ≤ q) [(x0, .inr (4, [.ref x_row, .ref x_tree, .ref x_tally, .ref x_votes, .ref x_otherVotes, .ref x_wins, .ref x_fewest, .int 2, .int 1])), (x_row, .inr (0, [.ref x_cell, .int 0])), (x_cell, .inl (cyI, 160, .inl fc)), (x_tree, .inr (2, [.ref x_row, .ref x_joined, .ref x_from, .ref x_to, .ref x_size, .ref x_lossOf, .ref x_lessBy, .ref x_tvalue, .ref x_tnumber, .int 0, .int 0])), (x_from, .inl (cyI, 319, .inl ff)), (x_to, .inl (cyI, 319, .inl ft)), (x_tally, .inr (1, [.ref x_kind, .ref x_often, .int 0, .int 0])), (m0, .inr (5, [.ref m_row, .int 0, .int 2, .int 0, .ref m_many, .ref m_loss, .ref m_less, .ref m_voteValue, .ref m_voteNumber, .ref m_allValue, .ref m_allNumber, .int 0, .ref m_nodeL, .ref m_nodeR, .int 0, .ref m_part, .int 0, .ref m_wasMany, .ref m_wasLoss, .ref m_wasValue, .ref m_wasNumber, .ref m_path, .int 0, .ref m_heavyValue, .ref m_heavyTimes, .int 0, .ref m_fewest, .ref m_which, .ref m_met, .int 0])), (m_row, .inl (cyI, 160, .inl fm))]) (hS : va_S (fun q : Nat => s.heap.size ≤ q) s.heap H locs) {ls : Array Slot} (hl : lv_has ls 7 [(4, .int 0), (3, .ref q_o), (2, .ref m0), (1, .ref x0), (0, .ref b)]) : W p l e room_1 s m #[Value.ref b] below meth c H locs 60 20000 (lw_Z below #[Value.ref b] s) (F0 m 2314 ls []) := by
  obtain ⟨hx, hb, hr, hml, hown, hts0, hX, hbl, hlocks, hgv⟩ := id C0
  have hts := hts0
  have hA : ∀ q : Nat, s.heap.size ≤ q → (fun q : Nat => s.heap.size ≤ q) q := fun _ h => h
  have hbA : ¬ (fun q : Nat => s.heap.size ≤ q) b := Nat.not_le.mpr hbl
  have hown : s.vm.findClass RL = some m.cls := hown
  have hb : c.code = cL_law := hb
  refine lv_aload_n hx hb dL_law_2314 rfl (lv_at hl 3 rfl) ?_
  refine lv_aload_n hx hb dL_law_2315 rfl (lv_at hl 4 rfl) ?_
  refine lv_iload hx hb dL_law_2316 (lv_at hl 0 rfl) ?_
  refine lv_iconst (v := 1) hx hb dL_law_2318 (by decide) ?_
  refine lv_iadd hx hb dL_law_2319 ?_
  refine W.eq (g2 := F0 m 2320 ls [.int 1, .ref b, .ref x0]) (by first | rfl | (congr 2; decide)) ?_
  refine va_sld hx hb hX hbl hbA hS (i := 1) (ki_inl (by decide)) dL_law_2320 ?_
  refine lv_aload_n hx hb dL_law_2321 rfl (lv_at hl 4 rfl) ?_
  refine lv_iload hx hb dL_law_2322 (lv_at hl 0 rfl) ?_
  refine lv_iconst (v := 2) hx hb dL_law_2324 (by decide) ?_
  refine lv_iadd hx hb dL_law_2325 ?_
  refine W.eq (g2 := F0 m 2326 ls [.int 2, .ref b, .int (xs (1 : Int32).toNatClampNeg), .ref x0]) (by first | rfl | (congr 2; decide)) ?_
  refine va_sld hx hb hX hbl hbA hS (i := 2) (ki_inl (by decide)) dL_law_2326 ?_
  refine lv_aload_n hx hb dL_law_2327 rfl (lv_at hl 4 rfl) ?_
  refine lv_iload hx hb dL_law_2328 (lv_at hl 0 rfl) ?_
  refine lv_iconst (v := 3) hx hb dL_law_2330 (by decide) ?_
  refine lv_iadd hx hb dL_law_2331 ?_
  refine W.eq (g2 := F0 m 2332 ls [.int 3, .ref b, .int (xs (2 : Int32).toNatClampNeg), .int (xs (1 : Int32).toNatClampNeg), .ref x0]) (by first | rfl | (congr 2; decide)) ?_
  refine va_sld hx hb hX hbl hbA hS (i := 3) (ki_inl (by decide)) dL_law_2332 ?_
  refine lv_aload_n hx hb dL_law_2333 rfl (lv_at hl 4 rfl) ?_
  refine lv_iload hx hb dL_law_2334 (lv_at hl 0 rfl) ?_
  refine lv_iconst (v := 4) hx hb dL_law_2336 (by decide) ?_
  refine lv_iadd hx hb dL_law_2337 ?_
  refine W.eq (g2 := F0 m 2338 ls [.int 4, .ref b, .int (xs (3 : Int32).toNatClampNeg), .int (xs (2 : Int32).toNatClampNeg), .int (xs (1 : Int32).toNatClampNeg), .ref x0]) (by first | rfl | (congr 2; decide)) ?_
  refine va_sld hx hb hX hbl hbA hS (i := 4) (ki_inl (by decide)) dL_law_2338 ?_
  have hPc := hP.sub (ws' := [(x0, .inr (4, [.ref x_row, .ref x_tree, .ref x_tally, .ref x_votes, .ref x_otherVotes, .ref x_wins, .ref x_fewest, .int 2, .int 1])), (x_row, .inr (0, [.ref x_cell, .int 0]))]) [0, 1] rfl
  have hKc := hK.sub (tys' := []) [] rfl
  refine vp_callSi (W.runV (As := [.int (xs (1 : Int32).toNatClampNeg), .int (xs (2 : Int32).toNatClampNeg), .int (xs (3 : Int32).toNatClampNeg), .int (xs (4 : Int32).toNatClampNeg)]) (rest := []) ⟨hx, hb, hml, hown, (lwC_X4_swings hts0)⟩ (c_X4_swings l dC dI x0 x_row x_tree x_tally x_votes x_otherVotes x_wins x_fewest x_cell (xs (1 : Int32).toNatClampNeg) (xs (2 : Int32).toNatClampNeg) (xs (3 : Int32).toNatClampNeg) (xs (4 : Int32).toNatClampNeg)) (cwV 4 (lwC_X4_swings hts0) lwG_X4_swings rfl rfl rfl (by decide +kernel) ⟨Nat.le_of_ble_eq_true rfl, Nat.le_of_ble_eq_true rfl⟩) ⟨fun a U g mk q => by obtain ⟨q0, qP, qK⟩ := q; exact ⟨q0, qP, va_K.moved (u := U) (U := U.calling g mk a) (Vm.Alike.refl U.vm) qK⟩, va_recv hKc hPc (ci := 4) (q0 := 0) rfl rfl, fun U hU hW => ⟨rfl, by rw [hU]; exact hPc, va_K.moved hW.alike hKc⟩⟩ rfl rfl hl.1 rfl (lv_room (Nat.le_of_ble_eq_true rfl)) dL_law_2339 ⟨Nat.le_of_ble_eq_true rfl, Nat.le_of_ble_eq_true rfl⟩) (fun r_1 w_1 => ?_)
  subst w_1
  refine lv_aload_n hx hb dL_law_2342 rfl (lv_at hl 2 rfl) ?_
  refine lv_aload_n hx hb dL_law_2343 rfl (lv_at hl 4 rfl) ?_
  refine lv_iload hx hb dL_law_2344 (lv_at hl 0 rfl) ?_
  refine lv_iconst (v := 1) hx hb dL_law_2346 (by decide) ?_
  refine lv_iadd hx hb dL_law_2347 ?_
  refine W.eq (g2 := F0 m 2348 ls [.int 1, .ref b, .ref m0, .int (-1)]) (by first | rfl | (congr 2; decide)) ?_
  refine va_sld hx hb hX hbl hbA hS (i := 1) (ki_inl (by decide)) dL_law_2348 ?_
  refine lv_aload_n hx hb dL_law_2349 rfl (lv_at hl 4 rfl) ?_
  refine lv_iload hx hb dL_law_2350 (lv_at hl 0 rfl) ?_
  refine lv_iconst (v := 2) hx hb dL_law_2352 (by decide) ?_
  refine lv_iadd hx hb dL_law_2353 ?_
  refine W.eq (g2 := F0 m 2354 ls [.int 2, .ref b, .int (xs (1 : Int32).toNatClampNeg), .ref m0, .int (-1)]) (by first | rfl | (congr 2; decide)) ?_
  refine va_sld hx hb hX hbl hbA hS (i := 2) (ki_inl (by decide)) dL_law_2354 ?_
  refine lv_aload_n hx hb dL_law_2355 rfl (lv_at hl 4 rfl) ?_
  refine lv_iload hx hb dL_law_2356 (lv_at hl 0 rfl) ?_
  refine lv_iconst (v := 3) hx hb dL_law_2358 (by decide) ?_
  refine lv_iadd hx hb dL_law_2359 ?_
  refine W.eq (g2 := F0 m 2360 ls [.int 3, .ref b, .int (xs (2 : Int32).toNatClampNeg), .int (xs (1 : Int32).toNatClampNeg), .ref m0, .int (-1)]) (by first | rfl | (congr 2; decide)) ?_
  refine va_sld hx hb hX hbl hbA hS (i := 3) (ki_inl (by decide)) dL_law_2360 ?_
  refine lv_aload_n hx hb dL_law_2361 rfl (lv_at hl 4 rfl) ?_
  refine lv_iload hx hb dL_law_2362 (lv_at hl 0 rfl) ?_
  refine lv_iconst (v := 4) hx hb dL_law_2364 (by decide) ?_
  refine lv_iadd hx hb dL_law_2365 ?_
  refine W.eq (g2 := F0 m 2366 ls [.int 4, .ref b, .int (xs (3 : Int32).toNatClampNeg), .int (xs (2 : Int32).toNatClampNeg), .int (xs (1 : Int32).toNatClampNeg), .ref m0, .int (-1)]) (by first | rfl | (congr 2; decide)) ?_
  refine va_sld hx hb hX hbl hbA hS (i := 4) (ki_inl (by decide)) dL_law_2366 ?_
  have hPc := hP.sub (ws' := [(m0, .inr (5, [.ref m_row, .int 0, .int 2, .int 0, .ref m_many, .ref m_loss, .ref m_less, .ref m_voteValue, .ref m_voteNumber, .ref m_allValue, .ref m_allNumber, .int 0, .ref m_nodeL, .ref m_nodeR, .int 0, .ref m_part, .int 0, .ref m_wasMany, .ref m_wasLoss, .ref m_wasValue, .ref m_wasNumber, .ref m_path, .int 0, .ref m_heavyValue, .ref m_heavyTimes, .int 0, .ref m_fewest, .ref m_which, .ref m_met, .int 0]))]) [7] rfl
  have hKc := hK.sub (tys' := []) [] rfl
  have hDc := hD.sub (ws' := [(m0, .inr (5, [.ref m_row, .int 0, .int 2, .int 0, .ref m_many, .ref m_loss, .ref m_less, .ref m_voteValue, .ref m_voteNumber, .ref m_allValue, .ref m_allNumber, .int 0, .ref m_nodeL, .ref m_nodeR, .int 0, .ref m_part, .int 0, .ref m_wasMany, .ref m_wasLoss, .ref m_wasValue, .ref m_wasNumber, .ref m_path, .int 0, .ref m_heavyValue, .ref m_heavyTimes, .int 0, .ref m_fewest, .ref m_which, .ref m_met, .int 0]))]) [7] (by decide) rfl
  have hFc := va_free (wc := [(m0, .inr (5, [.ref m_row, .int 0, .int 2, .int 0, .ref m_many, .ref m_loss, .ref m_less, .ref m_voteValue, .ref m_voteNumber, .ref m_allValue, .ref m_allNumber, .int 0, .ref m_nodeL, .ref m_nodeR, .int 0, .ref m_part, .int 0, .ref m_wasMany, .ref m_wasLoss, .ref m_wasValue, .ref m_wasNumber, .ref m_path, .int 0, .ref m_heavyValue, .ref m_heavyTimes, .int 0, .ref m_fewest, .ref m_which, .ref m_met, .int 0]))]) hD hS hA [7] rfl
  refine va_calli (va_runV (As := [.int (xs (1 : Int32).toNatClampNeg), .int (xs (2 : Int32).toNatClampNeg), .int (xs (3 : Int32).toNatClampNeg), .int (xs (4 : Int32).toNatClampNeg)]) (rest := [.int (-1)]) ⟨hx, hb, hml, hown, (lwC_X5_swings hts0)⟩ (c_X5_swings l dC dI m0 m_row m_many m_loss m_less m_voteValue m_voteNumber m_allValue m_allNumber m_nodeL m_nodeR m_part m_wasMany m_wasLoss m_wasValue m_wasNumber m_path m_heavyValue m_heavyTimes m_fewest m_which m_met (xs (1 : Int32).toNatClampNeg) (xs (2 : Int32).toNatClampNeg) (xs (3 : Int32).toNatClampNeg) (xs (4 : Int32).toNatClampNeg) H.size) (cwV 4 (lwC_X5_swings hts0) lwG_X5_swings rfl rfl rfl (by decide +kernel) ⟨Nat.le_of_ble_eq_true rfl, Nat.le_of_ble_eq_true rfl⟩) ⟨fun a U g mk q => by obtain ⟨q0, q1, qP, qK, qD⟩ := q; exact ⟨q0, q1, qP, va_K.moved (u := U) (U := U.calling g mk a) (Vm.Alike.refl U.vm) qK, qD⟩, va_recv hKc hPc (ci := 5) (q0 := 0) rfl rfl, fun U hU hW => ⟨rfl, by rw [hU], by rw [hU]; exact hPc, va_K.moved hW.alike hKc, hDc.weaken (fun _ _ _ _ => trivial)⟩⟩ rfl rfl hl.1 rfl (lv_room (Nat.le_of_ble_eq_true rfl)) dL_law_2367 ⟨Nat.le_of_ble_eq_true rfl, Nat.le_of_ble_eq_true rfl⟩) hS (fun q _ h => hFc q h) hFc (fun r_2 u t H1 locs ht hvm w_2 hB hz1 hk1 hS => ?_)
  obtain ⟨hP1, hK1, hD1⟩ := hB
  rw [ht] at hP1
  have hK1 := va_K.moved hvm.symm hK1
  obtain ⟨hP, hD⟩ := va_join (wr := [(x0, .inr (4, [.ref x_row, .ref x_tree, .ref x_tally, .ref x_votes, .ref x_otherVotes, .ref x_wins, .ref x_fewest, .int 2, .int 1])), (x_row, .inr (0, [.ref x_cell, .int 0])), (x_cell, .inl (cyI, 160, .inl fc)), (x_tree, .inr (2, [.ref x_row, .ref x_joined, .ref x_from, .ref x_to, .ref x_size, .ref x_lossOf, .ref x_lessBy, .ref x_tvalue, .ref x_tnumber, .int 0, .int 0])), (x_from, .inl (cyI, 319, .inl ff)), (x_to, .inl (cyI, 319, .inl ft)), (x_tally, .inr (1, [.ref x_kind, .ref x_often, .int 0, .int 0])), (m_row, .inl (cyI, 160, .inl fm))]) (w1 := []) hP hD [7] [0, 1, 2, 3, 4, 5, 6, 8] rfl rfl (by decide) (by decide) hk1 hFc hP1 hD1
  clear hP1 hD1 hK1 hk1 hz1 hFc hDc hPc hKc
  generalize H1 = H at hP hS ⊢
  have hP : va_P (dC, dI) vwCl [(x0, .inr (4, [.ref x_row, .ref x_tree, .ref x_tally, .ref x_votes, .ref x_otherVotes, .ref x_wins, .ref x_fewest, .int 2, .int 1])), (x_row, .inr (0, [.ref x_cell, .int 0])), (x_cell, .inl (cyI, 160, .inl fc)), (x_tree, .inr (2, [.ref x_row, .ref x_joined, .ref x_from, .ref x_to, .ref x_size, .ref x_lossOf, .ref x_lessBy, .ref x_tvalue, .ref x_tnumber, .int 0, .int 0])), (x_from, .inl (cyI, 319, .inl ff)), (x_to, .inl (cyI, 319, .inl ft)), (x_tally, .inr (1, [.ref x_kind, .ref x_often, .int 0, .int 0])), (m_row, .inl (cyI, 160, .inl fm))] H := hP
  have hD : va_D (fun q : Nat => s.heap.size ≤ q) [(x0, .inr (4, [.ref x_row, .ref x_tree, .ref x_tally, .ref x_votes, .ref x_otherVotes, .ref x_wins, .ref x_fewest, .int 2, .int 1])), (x_row, .inr (0, [.ref x_cell, .int 0])), (x_cell, .inl (cyI, 160, .inl fc)), (x_tree, .inr (2, [.ref x_row, .ref x_joined, .ref x_from, .ref x_to, .ref x_size, .ref x_lossOf, .ref x_lessBy, .ref x_tvalue, .ref x_tnumber, .int 0, .int 0])), (x_from, .inl (cyI, 319, .inl ff)), (x_to, .inl (cyI, 319, .inl ft)), (x_tally, .inr (1, [.ref x_kind, .ref x_often, .int 0, .int 0])), (m_row, .inl (cyI, 160, .inl fm))] := hD
  subst w_2
  refine lv_icmp_eq (tgt := 2400) hx hb dL_law_2370 (by decide) (fun c_3 => ?_) (fun c_3 => ?_)
  · refine W.widen (k := 100) (n := 30000) (Nat.le_of_ble_eq_true rfl) (Nat.le_of_ble_eq_true rfl) ?_
    exact lc_end C0 hS (lv_sub hl [0, 4] rfl)
  · exact absurd c_3 (by decide)

set_option maxHeartbeats 4000000 in
set_option maxRecDepth 100000 in
theorem lc_43 {p : Program} {l : Launch} {e : Env} {s : State} {m : MethodId} {below : List Frame} {meth : Method} {c : Code} {dC : Nat → ClassId} {dI : Nat → Nat → Nat} {b : Nat} {xs : Nat → Int32} (hl0 : l.stackTraces = false) (C0 : lw_At p s m meth c b 8 xs) (hth : ki_Th s) {x0 x_row x_tree x_tally x_votes x_otherVotes x_wins x_fewest x_cell x_joined x_from x_to x_size x_lossOf x_lessBy x_tvalue x_tnumber x_kind x_often m0 m_row m_many m_loss m_less m_voteValue m_voteNumber m_allValue m_allNumber m_nodeL m_nodeR m_part m_wasMany m_wasLoss m_wasValue m_wasNumber m_path m_heavyValue m_heavyTimes m_fewest m_which m_met q_o : Nat} {cyI : ClassId} {fc ff ft fm : Nat → Int32} {H : Heap} {locs : List Loc} (hK : va_K (dC, dI) vwCl [(cyI, .int)] s) (hP : va_P (dC, dI) vwCl [(x0, .inr (4, [.ref x_row, .ref x_tree, .ref x_tally, .ref x_votes, .ref x_otherVotes, .ref x_wins, .ref x_fewest, .int 2, .int 1])), (x_row, .inr (0, [.ref x_cell, .int 0])), (x_cell, .inl (cyI, 160, .inl fc)), (x_tree, .inr (2, [.ref x_row, .ref x_joined, .ref x_from, .ref x_to, .ref x_size, .ref x_lossOf, .ref x_lessBy, .ref x_tvalue, .ref x_tnumber, .int 0, .int 0])), (x_from, .inl (cyI, 319, .inl ff)), (x_to, .inl (cyI, 319, .inl ft)), (x_tally, .inr (1, [.ref x_kind, .ref x_often, .int 0, .int 0])), (m0, .inr (5, [.ref m_row, .int 0, .int 2, .int 0, .ref m_many, .ref m_loss, .ref m_less, .ref m_voteValue, .ref m_voteNumber, .ref m_allValue, .ref m_allNumber, .int 0, .ref m_nodeL, .ref m_nodeR, .int 0, .ref m_part, .int 0, .ref m_wasMany, .ref m_wasLoss, .ref m_wasValue, .ref m_wasNumber, .ref m_path, .int 0, .ref m_heavyValue, .ref m_heavyTimes, .int 0, .ref m_fewest, .ref m_which, .ref m_met, .int 0])), (m_row, .inl (cyI, 160, .inl fm))] H) (hD : va_D (fun q : Nat => s.heap.size ≤ q) [(x0, .inr (4, [.ref x_row, .ref x_tree, .ref x_tally, .ref x_votes, .ref x_otherVotes, .ref x_wins, .ref x_fewest, .int 2, .int 1])), (x_row, .inr (0, [.ref x_cell, .int 0])), (x_cell, .inl (cyI, 160, .inl fc)), (x_tree, .inr (2, [.ref x_row, .ref x_joined, .ref x_from, .ref x_to, .ref x_size, .ref x_lossOf, .ref x_lessBy, .ref x_tvalue, .ref x_tnumber, .int 0, .int 0])), (x_from, .inl (cyI, 319, .inl ff)), (x_to, .inl (cyI, 319, .inl ft)), (x_tally, .inr (1, [.ref x_kind, .ref x_often, .int 0, .int 0])), (m0, .inr (5, [.ref m_row, .int 0, .int 2, .int 0, .ref m_many, .ref m_loss, .ref m_less, .ref m_voteValue, .ref m_voteNumber, .ref m_allValue, .ref m_allNumber, .int 0, .ref m_nodeL, .ref m_nodeR, .int 0, .ref m_part, .int 0, .ref m_wasMany, .ref m_wasLoss, .ref m_wasValue, .ref m_wasNumber, .ref m_path, .int 0, .ref m_heavyValue, .ref m_heavyTimes, .int 0, .ref m_fewest, .ref m_which, .ref m_met, .int 0])), (m_row, .inl (cyI, 160, .inl fm))]) (hS : va_S (fun q : Nat => s.heap.size ≤ q) s.heap H locs) {ls : Array Slot} (hl : lv_has ls 7 [(4, .int 0), (3, .ref q_o), (2, .ref m0), (1, .ref x0), (0, .ref b)]) : W p l e room_1 s m #[Value.ref b] below meth c H locs 60 20000 (lw_Z below #[Value.ref b] s) (F0 m 2375 ls []) := by
  obtain ⟨hx, hb, hr, hml, hown, hts0, hX, hbl, hlocks, hgv⟩ := id C0
  have hts := hts0
  have hA : ∀ q : Nat, s.heap.size ≤ q → (fun q : Nat => s.heap.size ≤ q) q := fun _ h => h
  have hbA : ¬ (fun q : Nat => s.heap.size ≤ q) b := Nat.not_le.mpr hbl
  have hown : s.vm.findClass RL = some m.cls := hown
  have hb : c.code = cL_law := hb
  refine lv_aload_n hx hb dL_law_2375 rfl (lv_at hl 3 rfl) ?_
  refine lv_aload_n hx hb dL_law_2376 rfl (lv_at hl 4 rfl) ?_
  refine lv_iload hx hb dL_law_2377 (lv_at hl 0 rfl) ?_
  refine lv_iconst (v := 1) hx hb dL_law_2379 (by decide) ?_
  refine lv_iadd hx hb dL_law_2380 ?_
  refine W.eq (g2 := F0 m 2381 ls [.int 1, .ref b, .ref x0]) (by first | rfl | (congr 2; decide)) ?_
  refine va_sld hx hb hX hbl hbA hS (i := 1) (ki_inl (by decide)) dL_law_2381 ?_
  have hPc := hP.sub (ws' := [(x0, .inr (4, [.ref x_row, .ref x_tree, .ref x_tally, .ref x_votes, .ref x_otherVotes, .ref x_wins, .ref x_fewest, .int 2, .int 1])), (x_row, .inr (0, [.ref x_cell, .int 0])), (x_tree, .inr (2, [.ref x_row, .ref x_joined, .ref x_from, .ref x_to, .ref x_size, .ref x_lossOf, .ref x_lessBy, .ref x_tvalue, .ref x_tnumber, .int 0, .int 0])), (x_from, .inl (cyI, 319, .inl ff)), (x_to, .inl (cyI, 319, .inl ft))]) [0, 1, 3, 4, 5] rfl
  have hKc := hK.sub (tys' := [(cyI, .int)]) [0] rfl
  have hDc := hD.sub (ws' := [(x0, .inr (4, [.ref x_row, .ref x_tree, .ref x_tally, .ref x_votes, .ref x_otherVotes, .ref x_wins, .ref x_fewest, .int 2, .int 1])), (x_row, .inr (0, [.ref x_cell, .int 0])), (x_tree, .inr (2, [.ref x_row, .ref x_joined, .ref x_from, .ref x_to, .ref x_size, .ref x_lossOf, .ref x_lessBy, .ref x_tvalue, .ref x_tnumber, .int 0, .int 0])), (x_from, .inl (cyI, 319, .inl ff)), (x_to, .inl (cyI, 319, .inl ft))]) [0, 1, 3, 4, 5] (by decide) rfl
  have hFc := va_free (wc := [(x0, .inr (4, [.ref x_row, .ref x_tree, .ref x_tally, .ref x_votes, .ref x_otherVotes, .ref x_wins, .ref x_fewest, .int 2, .int 1])), (x_row, .inr (0, [.ref x_cell, .int 0])), (x_tree, .inr (2, [.ref x_row, .ref x_joined, .ref x_from, .ref x_to, .ref x_size, .ref x_lossOf, .ref x_lessBy, .ref x_tvalue, .ref x_tnumber, .int 0, .int 0])), (x_from, .inl (cyI, 319, .inl ff)), (x_to, .inl (cyI, 319, .inl ft))]) hD hS hA [0, 1, 3, 4, 5] rfl
  refine va_calli (va_runV (As := [.int (xs (1 : Int32).toNatClampNeg)]) (rest := []) ⟨hx, hb, hml, hown, (lwC_X4_told hts0)⟩ (c_X4_told l dC dI x0 x_row x_tree x_tally x_votes x_otherVotes x_wins x_fewest x_cell x_joined x_from x_to x_size x_lossOf x_lessBy x_tvalue x_tnumber cyI ff ft (xs (1 : Int32).toNatClampNeg) H.size) (cwV 1 (lwC_X4_told hts0) lwG_X4_told rfl rfl rfl (by decide +kernel) ⟨Nat.le_of_ble_eq_true rfl, Nat.le_of_ble_eq_true rfl⟩) ⟨fun a U g mk q => by obtain ⟨q0, q1, qP, qK, qD⟩ := q; exact ⟨q0, q1, qP, va_K.moved (u := U) (U := U.calling g mk a) (Vm.Alike.refl U.vm) qK, qD⟩, va_recv hKc hPc (ci := 4) (q0 := 0) rfl rfl, fun U hU hW => ⟨rfl, by rw [hU], by rw [hU]; exact hPc, va_K.moved hW.alike hKc, hDc.weaken (fun _ _ _ _ => trivial)⟩⟩ rfl rfl hl.1 rfl (lv_room (Nat.le_of_ble_eq_true rfl)) dL_law_2382 ⟨Nat.le_of_ble_eq_true rfl, Nat.le_of_ble_eq_true rfl⟩) hS (fun q _ h => hFc q h) hFc (fun r_1 u t H1 locs ht hvm w_1 hB hz1 hk1 hS => ?_)
  obtain ⟨hP1, hK1, hD1⟩ := hB
  rw [ht] at hP1
  have hK1 := va_K.moved hvm.symm hK1
  obtain ⟨hP, hD⟩ := va_join (wr := [(x_cell, .inl (cyI, 160, .inl fc)), (x_tally, .inr (1, [.ref x_kind, .ref x_often, .int 0, .int 0])), (m0, .inr (5, [.ref m_row, .int 0, .int 2, .int 0, .ref m_many, .ref m_loss, .ref m_less, .ref m_voteValue, .ref m_voteNumber, .ref m_allValue, .ref m_allNumber, .int 0, .ref m_nodeL, .ref m_nodeR, .int 0, .ref m_part, .int 0, .ref m_wasMany, .ref m_wasLoss, .ref m_wasValue, .ref m_wasNumber, .ref m_path, .int 0, .ref m_heavyValue, .ref m_heavyTimes, .int 0, .ref m_fewest, .ref m_which, .ref m_met, .int 0])), (m_row, .inl (cyI, 160, .inl fm))]) (w1 := []) hP hD [0, 1, 3, 4, 5] [2, 6, 7, 8] rfl rfl (by decide) (by decide) hk1 hFc hP1 hD1
  clear hP1 hD1 hK1 hk1 hz1 hFc hDc hPc hKc
  generalize H1 = H at hP hS ⊢
  have hP : va_P (dC, dI) vwCl [(x_cell, .inl (cyI, 160, .inl fc)), (x_tally, .inr (1, [.ref x_kind, .ref x_often, .int 0, .int 0])), (m0, .inr (5, [.ref m_row, .int 0, .int 2, .int 0, .ref m_many, .ref m_loss, .ref m_less, .ref m_voteValue, .ref m_voteNumber, .ref m_allValue, .ref m_allNumber, .int 0, .ref m_nodeL, .ref m_nodeR, .int 0, .ref m_part, .int 0, .ref m_wasMany, .ref m_wasLoss, .ref m_wasValue, .ref m_wasNumber, .ref m_path, .int 0, .ref m_heavyValue, .ref m_heavyTimes, .int 0, .ref m_fewest, .ref m_which, .ref m_met, .int 0])), (m_row, .inl (cyI, 160, .inl fm))] H := hP
  have hD : va_D (fun q : Nat => s.heap.size ≤ q) [(x_cell, .inl (cyI, 160, .inl fc)), (x_tally, .inr (1, [.ref x_kind, .ref x_often, .int 0, .int 0])), (m0, .inr (5, [.ref m_row, .int 0, .int 2, .int 0, .ref m_many, .ref m_loss, .ref m_less, .ref m_voteValue, .ref m_voteNumber, .ref m_allValue, .ref m_allNumber, .int 0, .ref m_nodeL, .ref m_nodeR, .int 0, .ref m_part, .int 0, .ref m_wasMany, .ref m_wasLoss, .ref m_wasValue, .ref m_wasNumber, .ref m_path, .int 0, .ref m_heavyValue, .ref m_heavyTimes, .int 0, .ref m_fewest, .ref m_which, .ref m_met, .int 0])), (m_row, .inl (cyI, 160, .inl fm))] := hD
  rcases w_1 with ⟨rfl, w_1⟩ | ⟨rfl, w_1⟩ | ⟨rfl, w_1⟩
  · have w_1 : (xs (1 : Int32).toNatClampNeg).toInt = 1 := w_1
    refine lv_aload_n hx hb dL_law_2385 rfl (lv_at hl 2 rfl) ?_
    refine lv_aload_n hx hb dL_law_2386 rfl (lv_at hl 4 rfl) ?_
    refine lv_iload hx hb dL_law_2387 (lv_at hl 0 rfl) ?_
    refine lv_iconst (v := 1) hx hb dL_law_2389 (by decide) ?_
    refine lv_iadd hx hb dL_law_2390 ?_
    refine W.eq (g2 := F0 m 2391 ls [.int 1, .ref b, .ref m0, .int 2]) (by first | rfl | (congr 2; decide)) ?_
    refine va_sld hx hb hX hbl hbA hS (i := 1) (ki_inl (by decide)) dL_law_2391 ?_
    have hPc := hP.sub (ws' := [(m0, .inr (5, [.ref m_row, .int 0, .int 2, .int 0, .ref m_many, .ref m_loss, .ref m_less, .ref m_voteValue, .ref m_voteNumber, .ref m_allValue, .ref m_allNumber, .int 0, .ref m_nodeL, .ref m_nodeR, .int 0, .ref m_part, .int 0, .ref m_wasMany, .ref m_wasLoss, .ref m_wasValue, .ref m_wasNumber, .ref m_path, .int 0, .ref m_heavyValue, .ref m_heavyTimes, .int 0, .ref m_fewest, .ref m_which, .ref m_met, .int 0]))]) [2] rfl
    have hKc := hK.sub (tys' := []) [] rfl
    have hDc := hD.sub (ws' := [(m0, .inr (5, [.ref m_row, .int 0, .int 2, .int 0, .ref m_many, .ref m_loss, .ref m_less, .ref m_voteValue, .ref m_voteNumber, .ref m_allValue, .ref m_allNumber, .int 0, .ref m_nodeL, .ref m_nodeR, .int 0, .ref m_part, .int 0, .ref m_wasMany, .ref m_wasLoss, .ref m_wasValue, .ref m_wasNumber, .ref m_path, .int 0, .ref m_heavyValue, .ref m_heavyTimes, .int 0, .ref m_fewest, .ref m_which, .ref m_met, .int 0]))]) [2] (by decide) rfl
    have hFc := va_free (wc := [(m0, .inr (5, [.ref m_row, .int 0, .int 2, .int 0, .ref m_many, .ref m_loss, .ref m_less, .ref m_voteValue, .ref m_voteNumber, .ref m_allValue, .ref m_allNumber, .int 0, .ref m_nodeL, .ref m_nodeR, .int 0, .ref m_part, .int 0, .ref m_wasMany, .ref m_wasLoss, .ref m_wasValue, .ref m_wasNumber, .ref m_path, .int 0, .ref m_heavyValue, .ref m_heavyTimes, .int 0, .ref m_fewest, .ref m_which, .ref m_met, .int 0]))]) hD hS hA [2] rfl
    refine va_calli (va_runV (As := [.int (xs (1 : Int32).toNatClampNeg)]) (rest := [.int 2]) ⟨hx, hb, hml, hown, (lwC_X5_told hts0)⟩ (c_X5_told l dC dI m0 m_row m_many m_loss m_less m_voteValue m_voteNumber m_allValue m_allNumber m_nodeL m_nodeR m_part m_wasMany m_wasLoss m_wasValue m_wasNumber m_path m_heavyValue m_heavyTimes m_fewest m_which m_met (xs (1 : Int32).toNatClampNeg) H.size) (cwV 1 (lwC_X5_told hts0) lwG_X5_told rfl rfl rfl (by decide +kernel) ⟨Nat.le_of_ble_eq_true rfl, Nat.le_of_ble_eq_true rfl⟩) ⟨fun a U g mk q => by obtain ⟨q0, q1, qP, qK, qD⟩ := q; exact ⟨q0, q1, qP, va_K.moved (u := U) (U := U.calling g mk a) (Vm.Alike.refl U.vm) qK, qD⟩, va_recv hKc hPc (ci := 5) (q0 := 0) rfl rfl, fun U hU hW => ⟨rfl, by rw [hU], by rw [hU]; exact hPc, va_K.moved hW.alike hKc, hDc.weaken (fun _ _ _ _ => trivial)⟩⟩ rfl rfl hl.1 rfl (lv_room (Nat.le_of_ble_eq_true rfl)) dL_law_2392 ⟨Nat.le_of_ble_eq_true rfl, Nat.le_of_ble_eq_true rfl⟩) hS (fun q _ h => hFc q h) hFc (fun r_2 u t H1 locs ht hvm w_2 hB hz1 hk1 hS => ?_)
    obtain ⟨hP1, hK1, hD1⟩ := hB
    rw [ht] at hP1
    have hK1 := va_K.moved hvm.symm hK1
    obtain ⟨hP, hD⟩ := va_join (wr := [(x_cell, .inl (cyI, 160, .inl fc)), (x_tally, .inr (1, [.ref x_kind, .ref x_often, .int 0, .int 0])), (m_row, .inl (cyI, 160, .inl fm))]) (w1 := []) hP hD [2] [0, 1, 3] rfl rfl (by decide) (by decide) hk1 hFc hP1 hD1
    clear hP1 hD1 hK1 hk1 hz1 hFc hDc hPc hKc
    generalize H1 = H at hP hS ⊢
    have hP : va_P (dC, dI) vwCl [(x_cell, .inl (cyI, 160, .inl fc)), (x_tally, .inr (1, [.ref x_kind, .ref x_often, .int 0, .int 0])), (m_row, .inl (cyI, 160, .inl fm))] H := hP
    have hD : va_D (fun q : Nat => s.heap.size ≤ q) [(x_cell, .inl (cyI, 160, .inl fc)), (x_tally, .inr (1, [.ref x_kind, .ref x_often, .int 0, .int 0])), (m_row, .inl (cyI, 160, .inl fm))] := hD
    rcases w_2 with ⟨rfl, w_2⟩ | ⟨rfl, w_2⟩ | ⟨rfl, w_2⟩
    · have w_2 : (xs (1 : Int32).toNatClampNeg).toInt = 1 := w_2
      refine lv_icmp_eq (tgt := 2400) hx hb dL_law_2395 (by decide) (fun c_3 => ?_) (fun c_3 => ?_)
      · refine W.widen (k := 100) (n := 30000) (Nat.le_of_ble_eq_true rfl) (Nat.le_of_ble_eq_true rfl) ?_
        exact lc_end C0 hS (lv_sub hl [0, 4] rfl)
      · exact absurd c_3 (by decide)
    · have w_2 : ((xs (1 : Int32).toNatClampNeg).toInt = 0 ∨ (2 ≤ (xs (1 : Int32).toNatClampNeg).toInt ∧ (xs (1 : Int32).toNatClampNeg).toInt ≤ 6)) := w_2
      refine lv_icmp_eq (tgt := 2400) hx hb dL_law_2395 (by decide) (fun c_4 => ?_) (fun c_4 => ?_)
      · exact absurd c_4 (by decide)
      · refine lv_iconst (v := 0) hx hb dL_law_2398 (by decide) ?_
        exfalso; omega
    · have w_2 : ((xs (1 : Int32).toNatClampNeg).toInt < 0 ∨ 6 < (xs (1 : Int32).toNatClampNeg).toInt) := w_2
      refine lv_icmp_eq (tgt := 2400) hx hb dL_law_2395 (by decide) (fun c_5 => ?_) (fun c_5 => ?_)
      · exact absurd c_5 (by decide)
      · refine lv_iconst (v := 0) hx hb dL_law_2398 (by decide) ?_
        exfalso; omega
  · have w_1 : ((xs (1 : Int32).toNatClampNeg).toInt = 0 ∨ (2 ≤ (xs (1 : Int32).toNatClampNeg).toInt ∧ (xs (1 : Int32).toNatClampNeg).toInt ≤ 6)) := w_1
    refine lv_aload_n hx hb dL_law_2385 rfl (lv_at hl 2 rfl) ?_
    refine lv_aload_n hx hb dL_law_2386 rfl (lv_at hl 4 rfl) ?_
    refine lv_iload hx hb dL_law_2387 (lv_at hl 0 rfl) ?_
    refine lv_iconst (v := 1) hx hb dL_law_2389 (by decide) ?_
    refine lv_iadd hx hb dL_law_2390 ?_
    refine W.eq (g2 := F0 m 2391 ls [.int 1, .ref b, .ref m0, .int 0]) (by first | rfl | (congr 2; decide)) ?_
    refine va_sld hx hb hX hbl hbA hS (i := 1) (ki_inl (by decide)) dL_law_2391 ?_
    have hPc := hP.sub (ws' := [(m0, .inr (5, [.ref m_row, .int 0, .int 2, .int 0, .ref m_many, .ref m_loss, .ref m_less, .ref m_voteValue, .ref m_voteNumber, .ref m_allValue, .ref m_allNumber, .int 0, .ref m_nodeL, .ref m_nodeR, .int 0, .ref m_part, .int 0, .ref m_wasMany, .ref m_wasLoss, .ref m_wasValue, .ref m_wasNumber, .ref m_path, .int 0, .ref m_heavyValue, .ref m_heavyTimes, .int 0, .ref m_fewest, .ref m_which, .ref m_met, .int 0]))]) [2] rfl
    have hKc := hK.sub (tys' := []) [] rfl
    have hDc := hD.sub (ws' := [(m0, .inr (5, [.ref m_row, .int 0, .int 2, .int 0, .ref m_many, .ref m_loss, .ref m_less, .ref m_voteValue, .ref m_voteNumber, .ref m_allValue, .ref m_allNumber, .int 0, .ref m_nodeL, .ref m_nodeR, .int 0, .ref m_part, .int 0, .ref m_wasMany, .ref m_wasLoss, .ref m_wasValue, .ref m_wasNumber, .ref m_path, .int 0, .ref m_heavyValue, .ref m_heavyTimes, .int 0, .ref m_fewest, .ref m_which, .ref m_met, .int 0]))]) [2] (by decide) rfl
    have hFc := va_free (wc := [(m0, .inr (5, [.ref m_row, .int 0, .int 2, .int 0, .ref m_many, .ref m_loss, .ref m_less, .ref m_voteValue, .ref m_voteNumber, .ref m_allValue, .ref m_allNumber, .int 0, .ref m_nodeL, .ref m_nodeR, .int 0, .ref m_part, .int 0, .ref m_wasMany, .ref m_wasLoss, .ref m_wasValue, .ref m_wasNumber, .ref m_path, .int 0, .ref m_heavyValue, .ref m_heavyTimes, .int 0, .ref m_fewest, .ref m_which, .ref m_met, .int 0]))]) hD hS hA [2] rfl
    refine va_calli (va_runV (As := [.int (xs (1 : Int32).toNatClampNeg)]) (rest := [.int 0]) ⟨hx, hb, hml, hown, (lwC_X5_told hts0)⟩ (c_X5_told l dC dI m0 m_row m_many m_loss m_less m_voteValue m_voteNumber m_allValue m_allNumber m_nodeL m_nodeR m_part m_wasMany m_wasLoss m_wasValue m_wasNumber m_path m_heavyValue m_heavyTimes m_fewest m_which m_met (xs (1 : Int32).toNatClampNeg) H.size) (cwV 1 (lwC_X5_told hts0) lwG_X5_told rfl rfl rfl (by decide +kernel) ⟨Nat.le_of_ble_eq_true rfl, Nat.le_of_ble_eq_true rfl⟩) ⟨fun a U g mk q => by obtain ⟨q0, q1, qP, qK, qD⟩ := q; exact ⟨q0, q1, qP, va_K.moved (u := U) (U := U.calling g mk a) (Vm.Alike.refl U.vm) qK, qD⟩, va_recv hKc hPc (ci := 5) (q0 := 0) rfl rfl, fun U hU hW => ⟨rfl, by rw [hU], by rw [hU]; exact hPc, va_K.moved hW.alike hKc, hDc.weaken (fun _ _ _ _ => trivial)⟩⟩ rfl rfl hl.1 rfl (lv_room (Nat.le_of_ble_eq_true rfl)) dL_law_2392 ⟨Nat.le_of_ble_eq_true rfl, Nat.le_of_ble_eq_true rfl⟩) hS (fun q _ h => hFc q h) hFc (fun r_6 u t H1 locs ht hvm w_6 hB hz1 hk1 hS => ?_)
    obtain ⟨hP1, hK1, hD1⟩ := hB
    rw [ht] at hP1
    have hK1 := va_K.moved hvm.symm hK1
    obtain ⟨hP, hD⟩ := va_join (wr := [(x_cell, .inl (cyI, 160, .inl fc)), (x_tally, .inr (1, [.ref x_kind, .ref x_often, .int 0, .int 0])), (m_row, .inl (cyI, 160, .inl fm))]) (w1 := []) hP hD [2] [0, 1, 3] rfl rfl (by decide) (by decide) hk1 hFc hP1 hD1
    clear hP1 hD1 hK1 hk1 hz1 hFc hDc hPc hKc
    generalize H1 = H at hP hS ⊢
    have hP : va_P (dC, dI) vwCl [(x_cell, .inl (cyI, 160, .inl fc)), (x_tally, .inr (1, [.ref x_kind, .ref x_often, .int 0, .int 0])), (m_row, .inl (cyI, 160, .inl fm))] H := hP
    have hD : va_D (fun q : Nat => s.heap.size ≤ q) [(x_cell, .inl (cyI, 160, .inl fc)), (x_tally, .inr (1, [.ref x_kind, .ref x_often, .int 0, .int 0])), (m_row, .inl (cyI, 160, .inl fm))] := hD
    rcases w_6 with ⟨rfl, w_6⟩ | ⟨rfl, w_6⟩ | ⟨rfl, w_6⟩
    · have w_6 : (xs (1 : Int32).toNatClampNeg).toInt = 1 := w_6
      refine lv_icmp_eq (tgt := 2400) hx hb dL_law_2395 (by decide) (fun c_7 => ?_) (fun c_7 => ?_)
      · exact absurd c_7 (by decide)
      · refine lv_iconst (v := 0) hx hb dL_law_2398 (by decide) ?_
        exfalso; omega
    · have w_6 : ((xs (1 : Int32).toNatClampNeg).toInt = 0 ∨ (2 ≤ (xs (1 : Int32).toNatClampNeg).toInt ∧ (xs (1 : Int32).toNatClampNeg).toInt ≤ 6)) := w_6
      refine lv_icmp_eq (tgt := 2400) hx hb dL_law_2395 (by decide) (fun c_8 => ?_) (fun c_8 => ?_)
      · refine W.widen (k := 100) (n := 30000) (Nat.le_of_ble_eq_true rfl) (Nat.le_of_ble_eq_true rfl) ?_
        exact lc_end C0 hS (lv_sub hl [0, 4] rfl)
      · exact absurd c_8 (by decide)
    · have w_6 : ((xs (1 : Int32).toNatClampNeg).toInt < 0 ∨ 6 < (xs (1 : Int32).toNatClampNeg).toInt) := w_6
      refine lv_icmp_eq (tgt := 2400) hx hb dL_law_2395 (by decide) (fun c_9 => ?_) (fun c_9 => ?_)
      · exact absurd c_9 (by decide)
      · refine lv_iconst (v := 0) hx hb dL_law_2398 (by decide) ?_
        exfalso; omega
  · have w_1 : ((xs (1 : Int32).toNatClampNeg).toInt < 0 ∨ 6 < (xs (1 : Int32).toNatClampNeg).toInt) := w_1
    refine lv_aload_n hx hb dL_law_2385 rfl (lv_at hl 2 rfl) ?_
    refine lv_aload_n hx hb dL_law_2386 rfl (lv_at hl 4 rfl) ?_
    refine lv_iload hx hb dL_law_2387 (lv_at hl 0 rfl) ?_
    refine lv_iconst (v := 1) hx hb dL_law_2389 (by decide) ?_
    refine lv_iadd hx hb dL_law_2390 ?_
    refine W.eq (g2 := F0 m 2391 ls [.int 1, .ref b, .ref m0, .int (-1)]) (by first | rfl | (congr 2; decide)) ?_
    refine va_sld hx hb hX hbl hbA hS (i := 1) (ki_inl (by decide)) dL_law_2391 ?_
    have hPc := hP.sub (ws' := [(m0, .inr (5, [.ref m_row, .int 0, .int 2, .int 0, .ref m_many, .ref m_loss, .ref m_less, .ref m_voteValue, .ref m_voteNumber, .ref m_allValue, .ref m_allNumber, .int 0, .ref m_nodeL, .ref m_nodeR, .int 0, .ref m_part, .int 0, .ref m_wasMany, .ref m_wasLoss, .ref m_wasValue, .ref m_wasNumber, .ref m_path, .int 0, .ref m_heavyValue, .ref m_heavyTimes, .int 0, .ref m_fewest, .ref m_which, .ref m_met, .int 0]))]) [2] rfl
    have hKc := hK.sub (tys' := []) [] rfl
    have hDc := hD.sub (ws' := [(m0, .inr (5, [.ref m_row, .int 0, .int 2, .int 0, .ref m_many, .ref m_loss, .ref m_less, .ref m_voteValue, .ref m_voteNumber, .ref m_allValue, .ref m_allNumber, .int 0, .ref m_nodeL, .ref m_nodeR, .int 0, .ref m_part, .int 0, .ref m_wasMany, .ref m_wasLoss, .ref m_wasValue, .ref m_wasNumber, .ref m_path, .int 0, .ref m_heavyValue, .ref m_heavyTimes, .int 0, .ref m_fewest, .ref m_which, .ref m_met, .int 0]))]) [2] (by decide) rfl
    have hFc := va_free (wc := [(m0, .inr (5, [.ref m_row, .int 0, .int 2, .int 0, .ref m_many, .ref m_loss, .ref m_less, .ref m_voteValue, .ref m_voteNumber, .ref m_allValue, .ref m_allNumber, .int 0, .ref m_nodeL, .ref m_nodeR, .int 0, .ref m_part, .int 0, .ref m_wasMany, .ref m_wasLoss, .ref m_wasValue, .ref m_wasNumber, .ref m_path, .int 0, .ref m_heavyValue, .ref m_heavyTimes, .int 0, .ref m_fewest, .ref m_which, .ref m_met, .int 0]))]) hD hS hA [2] rfl
    refine va_calli (va_runV (As := [.int (xs (1 : Int32).toNatClampNeg)]) (rest := [.int (-1)]) ⟨hx, hb, hml, hown, (lwC_X5_told hts0)⟩ (c_X5_told l dC dI m0 m_row m_many m_loss m_less m_voteValue m_voteNumber m_allValue m_allNumber m_nodeL m_nodeR m_part m_wasMany m_wasLoss m_wasValue m_wasNumber m_path m_heavyValue m_heavyTimes m_fewest m_which m_met (xs (1 : Int32).toNatClampNeg) H.size) (cwV 1 (lwC_X5_told hts0) lwG_X5_told rfl rfl rfl (by decide +kernel) ⟨Nat.le_of_ble_eq_true rfl, Nat.le_of_ble_eq_true rfl⟩) ⟨fun a U g mk q => by obtain ⟨q0, q1, qP, qK, qD⟩ := q; exact ⟨q0, q1, qP, va_K.moved (u := U) (U := U.calling g mk a) (Vm.Alike.refl U.vm) qK, qD⟩, va_recv hKc hPc (ci := 5) (q0 := 0) rfl rfl, fun U hU hW => ⟨rfl, by rw [hU], by rw [hU]; exact hPc, va_K.moved hW.alike hKc, hDc.weaken (fun _ _ _ _ => trivial)⟩⟩ rfl rfl hl.1 rfl (lv_room (Nat.le_of_ble_eq_true rfl)) dL_law_2392 ⟨Nat.le_of_ble_eq_true rfl, Nat.le_of_ble_eq_true rfl⟩) hS (fun q _ h => hFc q h) hFc (fun r_10 u t H1 locs ht hvm w_10 hB hz1 hk1 hS => ?_)
    obtain ⟨hP1, hK1, hD1⟩ := hB
    rw [ht] at hP1
    have hK1 := va_K.moved hvm.symm hK1
    obtain ⟨hP, hD⟩ := va_join (wr := [(x_cell, .inl (cyI, 160, .inl fc)), (x_tally, .inr (1, [.ref x_kind, .ref x_often, .int 0, .int 0])), (m_row, .inl (cyI, 160, .inl fm))]) (w1 := []) hP hD [2] [0, 1, 3] rfl rfl (by decide) (by decide) hk1 hFc hP1 hD1
    clear hP1 hD1 hK1 hk1 hz1 hFc hDc hPc hKc
    generalize H1 = H at hP hS ⊢
    have hP : va_P (dC, dI) vwCl [(x_cell, .inl (cyI, 160, .inl fc)), (x_tally, .inr (1, [.ref x_kind, .ref x_often, .int 0, .int 0])), (m_row, .inl (cyI, 160, .inl fm))] H := hP
    have hD : va_D (fun q : Nat => s.heap.size ≤ q) [(x_cell, .inl (cyI, 160, .inl fc)), (x_tally, .inr (1, [.ref x_kind, .ref x_often, .int 0, .int 0])), (m_row, .inl (cyI, 160, .inl fm))] := hD
    rcases w_10 with ⟨rfl, w_10⟩ | ⟨rfl, w_10⟩ | ⟨rfl, w_10⟩
    · have w_10 : (xs (1 : Int32).toNatClampNeg).toInt = 1 := w_10
      refine lv_icmp_eq (tgt := 2400) hx hb dL_law_2395 (by decide) (fun c_11 => ?_) (fun c_11 => ?_)
      · exact absurd c_11 (by decide)
      · refine lv_iconst (v := 0) hx hb dL_law_2398 (by decide) ?_
        exfalso; omega
    · have w_10 : ((xs (1 : Int32).toNatClampNeg).toInt = 0 ∨ (2 ≤ (xs (1 : Int32).toNatClampNeg).toInt ∧ (xs (1 : Int32).toNatClampNeg).toInt ≤ 6)) := w_10
      refine lv_icmp_eq (tgt := 2400) hx hb dL_law_2395 (by decide) (fun c_12 => ?_) (fun c_12 => ?_)
      · exact absurd c_12 (by decide)
      · refine lv_iconst (v := 0) hx hb dL_law_2398 (by decide) ?_
        exfalso; omega
    · have w_10 : ((xs (1 : Int32).toNatClampNeg).toInt < 0 ∨ 6 < (xs (1 : Int32).toNatClampNeg).toInt) := w_10
      refine lv_icmp_eq (tgt := 2400) hx hb dL_law_2395 (by decide) (fun c_13 => ?_) (fun c_13 => ?_)
      · refine W.widen (k := 100) (n := 30000) (Nat.le_of_ble_eq_true rfl) (Nat.le_of_ble_eq_true rfl) ?_
        exact lc_end C0 hS (lv_sub hl [0, 4] rfl)
      · exact absurd c_13 (by decide)
