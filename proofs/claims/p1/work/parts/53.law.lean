set_option maxHeartbeats 4000000 in
set_option maxRecDepth 100000 in
theorem lc_23 {p : Program} {l : Launch} {e : Env} {s : State} {m : MethodId} {below : List Frame} {meth : Method} {c : Code} {dC : Nat → ClassId} {dI : Nat → Nat → Nat} {b : Nat} {xs : Nat → Int32} (hl0 : l.stackTraces = false) (C0 : lw_At p s m meth c b 8 xs) (hth : ki_Th s) {x0 x_row x_tree x_tally x_votes x_otherVotes x_wins x_fewest x_cell x_joined x_from x_to x_size x_lossOf x_lessBy x_tvalue x_tnumber x_kind x_often m0 m_row m_many m_loss m_less m_voteValue m_voteNumber m_allValue m_allNumber m_nodeL m_nodeR m_part m_wasMany m_wasLoss m_wasValue m_wasNumber m_path m_heavyValue m_heavyTimes m_fewest m_which m_met q_o : Nat} {cyI : ClassId} {fc ff ft fm : Nat → Int32} {H : Heap} {locs : List Loc} (hK : va_K (dC, dI) vwCl [(cyI, .int)] s) (hP : va_P (dC, dI) vwCl [(x0, .inr (4, [.ref x_row, .ref x_tree, .ref x_tally, .ref x_votes, .ref x_otherVotes, .ref x_wins, .ref x_fewest, .int 2, .int 1])), (x_row, .inr (0, [.ref x_cell, .int 0])), (x_cell, .inl (cyI, 160, .inl fc)), (x_tree, .inr (2, [.ref x_row, .ref x_joined, .ref x_from, .ref x_to, .ref x_size, .ref x_lossOf, .ref x_lessBy, .ref x_tvalue, .ref x_tnumber, .int 0, .int 0])), (x_from, .inl (cyI, 319, .inl ff)), (x_to, .inl (cyI, 319, .inl ft)), (x_tally, .inr (1, [.ref x_kind, .ref x_often, .int 0, .int 0])), (m0, .inr (5, [.ref m_row, .int 0, .int 2, .int 0, .ref m_many, .ref m_loss, .ref m_less, .ref m_voteValue, .ref m_voteNumber, .ref m_allValue, .ref m_allNumber, .int 0, .ref m_nodeL, .ref m_nodeR, .int 0, .ref m_part, .int 0, .ref m_wasMany, .ref m_wasLoss, .ref m_wasValue, .ref m_wasNumber, .ref m_path, .int 0, .ref m_heavyValue, .ref m_heavyTimes, .int 0, .ref m_fewest, .ref m_which, .ref m_met, .int 0])), (m_row, .inl (cyI, 160, .inl fm))] H) (hD : va_D (fun q : Nat => s.heap.size ≤ q) [(x0, .inr (4, [.ref x_row, .ref x_tree, .ref x_tally, .ref x_votes, .ref x_otherVotes, .ref x_wins, .ref x_fewest, .int 2, .int 1])), (x_row, .inr (0, [.ref x_cell, .int 0])), (x_cell, .inl (cyI, 160, .inl fc)), (x_tree, .inr (2, [.ref x_row, .ref x_joined, .ref x_from, .ref x_to, .ref x_size, .ref x_lossOf, .ref x_lessBy, .ref x_tvalue, .ref x_tnumber, .int 0, .int 0])), (x_from, .inl (cyI, 319, .inl ff)), (x_to, .inl (cyI, 319, .inl ft)), (x_tally, .inr (1, [.ref x_kind, .ref x_often, .int 0, .int 0])), (m0, .inr (5, [.ref m_row, .int 0, .int 2, .int 0, .ref m_many, .ref m_loss, .ref m_less, .ref m_voteValue, .ref m_voteNumber, .ref m_allValue, .ref m_allNumber, .int 0, .ref m_nodeL, .ref m_nodeR, .int 0, .ref m_part, .int 0, .ref m_wasMany, .ref m_wasLoss, .ref m_wasValue, .ref m_wasNumber, .ref m_path, .int 0, .ref m_heavyValue, .ref m_heavyTimes, .int 0, .ref m_fewest, .ref m_which, .ref m_met, .int 0])), (m_row, .inl (cyI, 160, .inl fm))]) (hS : va_S (fun q : Nat => s.heap.size ≤ q) s.heap H locs) {ls : Array Slot} (hl : lv_has ls 7 [(4, .int 0), (3, .ref q_o), (2, .ref m0), (1, .ref x0), (0, .ref b)]) : W p l e room_1 s m #[Value.ref b] below meth c H locs 60 20000 (lw_Z below #[Value.ref b] s) (F0 m 1212 ls []) := by
  obtain ⟨hx, hb, hr, hml, hown, hts0, hX, hbl, hlocks, hgv⟩ := id C0
  have hts := hts0
  have hA : ∀ q : Nat, s.heap.size ≤ q → (fun q : Nat => s.heap.size ≤ q) q := fun _ h => h
  have hbA : ¬ (fun q : Nat => s.heap.size ≤ q) b := Nat.not_le.mpr hbl
  have hown : s.vm.findClass RL = some m.cls := hown
  have hb : c.code = cL_law := hb
  refine lv_aload_n hx hb dL_law_1212 rfl (lv_at hl 3 rfl) ?_
  refine lv_aload_n hx hb dL_law_1213 rfl (lv_at hl 4 rfl) ?_
  refine lv_iload hx hb dL_law_1214 (lv_at hl 0 rfl) ?_
  refine lv_iconst (v := 1) hx hb dL_law_1216 (by decide) ?_
  refine lv_iadd hx hb dL_law_1217 ?_
  refine W.eq (g2 := F0 m 1218 ls [.int 1, .ref b, .ref x0]) (by first | rfl | (congr 2; decide)) ?_
  refine va_sld hx hb hX hbl hbA hS (i := 1) (ki_inl (by decide)) dL_law_1218 ?_
  refine lv_aload_n hx hb dL_law_1219 rfl (lv_at hl 4 rfl) ?_
  refine lv_iload hx hb dL_law_1220 (lv_at hl 0 rfl) ?_
  refine lv_iconst (v := 2) hx hb dL_law_1222 (by decide) ?_
  refine lv_iadd hx hb dL_law_1223 ?_
  refine W.eq (g2 := F0 m 1224 ls [.int 2, .ref b, .int (xs (1 : Int32).toNatClampNeg), .ref x0]) (by first | rfl | (congr 2; decide)) ?_
  refine va_sld hx hb hX hbl hbA hS (i := 2) (ki_inl (by decide)) dL_law_1224 ?_
  refine lv_aload_n hx hb dL_law_1225 rfl (lv_at hl 4 rfl) ?_
  refine lv_iload hx hb dL_law_1226 (lv_at hl 0 rfl) ?_
  refine lv_iconst (v := 3) hx hb dL_law_1228 (by decide) ?_
  refine lv_iadd hx hb dL_law_1229 ?_
  refine W.eq (g2 := F0 m 1230 ls [.int 3, .ref b, .int (xs (2 : Int32).toNatClampNeg), .int (xs (1 : Int32).toNatClampNeg), .ref x0]) (by first | rfl | (congr 2; decide)) ?_
  refine va_sld hx hb hX hbl hbA hS (i := 3) (ki_inl (by decide)) dL_law_1230 ?_
  have hPc := hP.sub (ws' := [(x0, .inr (4, [.ref x_row, .ref x_tree, .ref x_tally, .ref x_votes, .ref x_otherVotes, .ref x_wins, .ref x_fewest, .int 2, .int 1])), (x_row, .inr (0, [.ref x_cell, .int 0]))]) [0, 1] rfl
  have hKc := hK.sub (tys' := []) [] rfl
  refine vp_callSi (W.runV (As := [.int (xs (1 : Int32).toNatClampNeg), .int (xs (2 : Int32).toNatClampNeg), .int (xs (3 : Int32).toNatClampNeg)]) (rest := []) ⟨hx, hb, hml, hown, (lwC_X4_lost hts0)⟩ (c_X4_lost l dC dI x0 x_row x_tree x_tally x_votes x_otherVotes x_wins x_fewest x_cell (xs (1 : Int32).toNatClampNeg) (xs (2 : Int32).toNatClampNeg) (xs (3 : Int32).toNatClampNeg)) (cwV 3 (lwC_X4_lost hts0) lwG_X4_lost rfl rfl rfl (by decide +kernel) ⟨Nat.le_of_ble_eq_true rfl, Nat.le_of_ble_eq_true rfl⟩) ⟨fun a U g mk q => by obtain ⟨q0, qP, qK⟩ := q; exact ⟨q0, qP, va_K.moved (u := U) (U := U.calling g mk a) (Vm.Alike.refl U.vm) qK⟩, va_recv hKc hPc (ci := 4) (q0 := 0) rfl rfl, fun U hU hW => ⟨rfl, by rw [hU]; exact hPc, va_K.moved hW.alike hKc⟩⟩ rfl rfl hl.1 rfl (lv_room (Nat.le_of_ble_eq_true rfl)) dL_law_1231 ⟨Nat.le_of_ble_eq_true rfl, Nat.le_of_ble_eq_true rfl⟩) (fun r_1 w_1 => ?_)
  subst w_1
  refine lv_aload_n hx hb dL_law_1234 rfl (lv_at hl 2 rfl) ?_
  refine lv_aload_n hx hb dL_law_1235 rfl (lv_at hl 4 rfl) ?_
  refine lv_iload hx hb dL_law_1236 (lv_at hl 0 rfl) ?_
  refine lv_iconst (v := 1) hx hb dL_law_1238 (by decide) ?_
  refine lv_iadd hx hb dL_law_1239 ?_
  refine W.eq (g2 := F0 m 1240 ls [.int 1, .ref b, .ref m0, .int (-1)]) (by first | rfl | (congr 2; decide)) ?_
  refine va_sld hx hb hX hbl hbA hS (i := 1) (ki_inl (by decide)) dL_law_1240 ?_
  refine lv_aload_n hx hb dL_law_1241 rfl (lv_at hl 4 rfl) ?_
  refine lv_iload hx hb dL_law_1242 (lv_at hl 0 rfl) ?_
  refine lv_iconst (v := 2) hx hb dL_law_1244 (by decide) ?_
  refine lv_iadd hx hb dL_law_1245 ?_
  refine W.eq (g2 := F0 m 1246 ls [.int 2, .ref b, .int (xs (1 : Int32).toNatClampNeg), .ref m0, .int (-1)]) (by first | rfl | (congr 2; decide)) ?_
  refine va_sld hx hb hX hbl hbA hS (i := 2) (ki_inl (by decide)) dL_law_1246 ?_
  refine lv_aload_n hx hb dL_law_1247 rfl (lv_at hl 4 rfl) ?_
  refine lv_iload hx hb dL_law_1248 (lv_at hl 0 rfl) ?_
  refine lv_iconst (v := 3) hx hb dL_law_1250 (by decide) ?_
  refine lv_iadd hx hb dL_law_1251 ?_
  refine W.eq (g2 := F0 m 1252 ls [.int 3, .ref b, .int (xs (2 : Int32).toNatClampNeg), .int (xs (1 : Int32).toNatClampNeg), .ref m0, .int (-1)]) (by first | rfl | (congr 2; decide)) ?_
  refine va_sld hx hb hX hbl hbA hS (i := 3) (ki_inl (by decide)) dL_law_1252 ?_
  have hPc := hP.sub (ws' := [(m0, .inr (5, [.ref m_row, .int 0, .int 2, .int 0, .ref m_many, .ref m_loss, .ref m_less, .ref m_voteValue, .ref m_voteNumber, .ref m_allValue, .ref m_allNumber, .int 0, .ref m_nodeL, .ref m_nodeR, .int 0, .ref m_part, .int 0, .ref m_wasMany, .ref m_wasLoss, .ref m_wasValue, .ref m_wasNumber, .ref m_path, .int 0, .ref m_heavyValue, .ref m_heavyTimes, .int 0, .ref m_fewest, .ref m_which, .ref m_met, .int 0]))]) [7] rfl
  have hKc := hK.sub (tys' := []) [] rfl
  have hDc := hD.sub (ws' := [(m0, .inr (5, [.ref m_row, .int 0, .int 2, .int 0, .ref m_many, .ref m_loss, .ref m_less, .ref m_voteValue, .ref m_voteNumber, .ref m_allValue, .ref m_allNumber, .int 0, .ref m_nodeL, .ref m_nodeR, .int 0, .ref m_part, .int 0, .ref m_wasMany, .ref m_wasLoss, .ref m_wasValue, .ref m_wasNumber, .ref m_path, .int 0, .ref m_heavyValue, .ref m_heavyTimes, .int 0, .ref m_fewest, .ref m_which, .ref m_met, .int 0]))]) [7] (by decide) rfl
  have hFc := va_free (wc := [(m0, .inr (5, [.ref m_row, .int 0, .int 2, .int 0, .ref m_many, .ref m_loss, .ref m_less, .ref m_voteValue, .ref m_voteNumber, .ref m_allValue, .ref m_allNumber, .int 0, .ref m_nodeL, .ref m_nodeR, .int 0, .ref m_part, .int 0, .ref m_wasMany, .ref m_wasLoss, .ref m_wasValue, .ref m_wasNumber, .ref m_path, .int 0, .ref m_heavyValue, .ref m_heavyTimes, .int 0, .ref m_fewest, .ref m_which, .ref m_met, .int 0]))]) hD hS hA [7] rfl
  refine va_calli (va_runV (As := [.int (xs (1 : Int32).toNatClampNeg), .int (xs (2 : Int32).toNatClampNeg), .int (xs (3 : Int32).toNatClampNeg)]) (rest := [.int (-1)]) ⟨hx, hb, hml, hown, (lwC_X5_lost hts0)⟩ (c_X5_lost l dC dI m0 m_row m_many m_loss m_less m_voteValue m_voteNumber m_allValue m_allNumber m_nodeL m_nodeR m_part m_wasMany m_wasLoss m_wasValue m_wasNumber m_path m_heavyValue m_heavyTimes m_fewest m_which m_met (xs (1 : Int32).toNatClampNeg) (xs (2 : Int32).toNatClampNeg) (xs (3 : Int32).toNatClampNeg) H.size) (cwV 3 (lwC_X5_lost hts0) lwG_X5_lost rfl rfl rfl (by decide +kernel) ⟨Nat.le_of_ble_eq_true rfl, Nat.le_of_ble_eq_true rfl⟩) ⟨fun a U g mk q => by obtain ⟨q0, q1, qP, qK, qD⟩ := q; exact ⟨q0, q1, qP, va_K.moved (u := U) (U := U.calling g mk a) (Vm.Alike.refl U.vm) qK, qD⟩, va_recv hKc hPc (ci := 5) (q0 := 0) rfl rfl, fun U hU hW => ⟨rfl, by rw [hU], by rw [hU]; exact hPc, va_K.moved hW.alike hKc, hDc.weaken (fun _ _ _ _ => trivial)⟩⟩ rfl rfl hl.1 rfl (lv_room (Nat.le_of_ble_eq_true rfl)) dL_law_1253 ⟨Nat.le_of_ble_eq_true rfl, Nat.le_of_ble_eq_true rfl⟩) hS (fun q _ h => hFc q h) hFc (fun r_2 u t H1 locs ht hvm w_2 hB hz1 hk1 hS => ?_)
  obtain ⟨hP1, hK1, hD1⟩ := hB
  rw [ht] at hP1
  have hK1 := va_K.moved hvm.symm hK1
  obtain ⟨hP, hD⟩ := va_join (wr := [(x0, .inr (4, [.ref x_row, .ref x_tree, .ref x_tally, .ref x_votes, .ref x_otherVotes, .ref x_wins, .ref x_fewest, .int 2, .int 1])), (x_row, .inr (0, [.ref x_cell, .int 0])), (x_cell, .inl (cyI, 160, .inl fc)), (x_tree, .inr (2, [.ref x_row, .ref x_joined, .ref x_from, .ref x_to, .ref x_size, .ref x_lossOf, .ref x_lessBy, .ref x_tvalue, .ref x_tnumber, .int 0, .int 0])), (x_from, .inl (cyI, 319, .inl ff)), (x_to, .inl (cyI, 319, .inl ft)), (x_tally, .inr (1, [.ref x_kind, .ref x_often, .int 0, .int 0])), (m_row, .inl (cyI, 160, .inl fm))]) (w1 := []) hP hD [7] [0, 1, 2, 3, 4, 5, 6, 8] rfl rfl (by decide) (by decide) hk1 hFc hP1 hD1
  clear hP1 hD1 hK1 hk1 hz1 hFc hDc hPc hKc
  generalize H1 = H at hP hS ⊢
  have hP : va_P (dC, dI) vwCl [(x0, .inr (4, [.ref x_row, .ref x_tree, .ref x_tally, .ref x_votes, .ref x_otherVotes, .ref x_wins, .ref x_fewest, .int 2, .int 1])), (x_row, .inr (0, [.ref x_cell, .int 0])), (x_cell, .inl (cyI, 160, .inl fc)), (x_tree, .inr (2, [.ref x_row, .ref x_joined, .ref x_from, .ref x_to, .ref x_size, .ref x_lossOf, .ref x_lessBy, .ref x_tvalue, .ref x_tnumber, .int 0, .int 0])), (x_from, .inl (cyI, 319, .inl ff)), (x_to, .inl (cyI, 319, .inl ft)), (x_tally, .inr (1, [.ref x_kind, .ref x_often, .int 0, .int 0])), (m_row, .inl (cyI, 160, .inl fm))] H := hP
  have hD : va_D (fun q : Nat => s.heap.size ≤ q) [(x0, .inr (4, [.ref x_row, .ref x_tree, .ref x_tally, .ref x_votes, .ref x_otherVotes, .ref x_wins, .ref x_fewest, .int 2, .int 1])), (x_row, .inr (0, [.ref x_cell, .int 0])), (x_cell, .inl (cyI, 160, .inl fc)), (x_tree, .inr (2, [.ref x_row, .ref x_joined, .ref x_from, .ref x_to, .ref x_size, .ref x_lossOf, .ref x_lessBy, .ref x_tvalue, .ref x_tnumber, .int 0, .int 0])), (x_from, .inl (cyI, 319, .inl ff)), (x_to, .inl (cyI, 319, .inl ft)), (x_tally, .inr (1, [.ref x_kind, .ref x_often, .int 0, .int 0])), (m_row, .inl (cyI, 160, .inl fm))] := hD
  subst w_2
  refine lv_icmp_eq (tgt := 2400) hx hb dL_law_1256 (by decide) (fun c_3 => ?_) (fun c_3 => ?_)
  · refine W.widen (k := 100) (n := 30000) (Nat.le_of_ble_eq_true rfl) (Nat.le_of_ble_eq_true rfl) ?_
    exact lc_end C0 hS (lv_sub hl [0, 4] rfl)
  · exact absurd c_3 (by decide)

set_option maxHeartbeats 4000000 in
set_option maxRecDepth 100000 in
theorem lc_24 {p : Program} {l : Launch} {e : Env} {s : State} {m : MethodId} {below : List Frame} {meth : Method} {c : Code} {dC : Nat → ClassId} {dI : Nat → Nat → Nat} {b : Nat} {xs : Nat → Int32} (hl0 : l.stackTraces = false) (C0 : lw_At p s m meth c b 8 xs) (hth : ki_Th s) {x0 x_row x_tree x_tally x_votes x_otherVotes x_wins x_fewest x_cell x_joined x_from x_to x_size x_lossOf x_lessBy x_tvalue x_tnumber x_kind x_often m0 m_row m_many m_loss m_less m_voteValue m_voteNumber m_allValue m_allNumber m_nodeL m_nodeR m_part m_wasMany m_wasLoss m_wasValue m_wasNumber m_path m_heavyValue m_heavyTimes m_fewest m_which m_met q_o : Nat} {cyI : ClassId} {fc ff ft fm : Nat → Int32} {H : Heap} {locs : List Loc} (hK : va_K (dC, dI) vwCl [(cyI, .int)] s) (hP : va_P (dC, dI) vwCl [(x0, .inr (4, [.ref x_row, .ref x_tree, .ref x_tally, .ref x_votes, .ref x_otherVotes, .ref x_wins, .ref x_fewest, .int 2, .int 1])), (x_row, .inr (0, [.ref x_cell, .int 0])), (x_cell, .inl (cyI, 160, .inl fc)), (x_tree, .inr (2, [.ref x_row, .ref x_joined, .ref x_from, .ref x_to, .ref x_size, .ref x_lossOf, .ref x_lessBy, .ref x_tvalue, .ref x_tnumber, .int 0, .int 0])), (x_from, .inl (cyI, 319, .inl ff)), (x_to, .inl (cyI, 319, .inl ft)), (x_tally, .inr (1, [.ref x_kind, .ref x_often, .int 0, .int 0])), (m0, .inr (5, [.ref m_row, .int 0, .int 2, .int 0, .ref m_many, .ref m_loss, .ref m_less, .ref m_voteValue, .ref m_voteNumber, .ref m_allValue, .ref m_allNumber, .int 0, .ref m_nodeL, .ref m_nodeR, .int 0, .ref m_part, .int 0, .ref m_wasMany, .ref m_wasLoss, .ref m_wasValue, .ref m_wasNumber, .ref m_path, .int 0, .ref m_heavyValue, .ref m_heavyTimes, .int 0, .ref m_fewest, .ref m_which, .ref m_met, .int 0])), (m_row, .inl (cyI, 160, .inl fm))] H) (hD : va_D (fun q : Nat => s.heap.size ≤ q) [(x0, .inr (4, [.ref x_row, .ref x_tree, .ref x_tally, .ref x_votes, .ref x_otherVotes, .ref x_wins, .ref x_fewest, .int 2, .int 1])), (x_row, .inr (0, [.ref x_cell, .int 0])), (x_cell, .inl (cyI, 160, .inl fc)), (x_tree, .inr (2, [.ref x_row, .ref x_joined, .ref x_from, .ref x_to, .ref x_size, .ref x_lossOf, .ref x_lessBy, .ref x_tvalue, .ref x_tnumber, .int 0, .int 0])), (x_from, .inl (cyI, 319, .inl ff)), (x_to, .inl (cyI, 319, .inl ft)), (x_tally, .inr (1, [.ref x_kind, .ref x_often, .int 0, .int 0])), (m0, .inr (5, [.ref m_row, .int 0, .int 2, .int 0, .ref m_many, .ref m_loss, .ref m_less, .ref m_voteValue, .ref m_voteNumber, .ref m_allValue, .ref m_allNumber, .int 0, .ref m_nodeL, .ref m_nodeR, .int 0, .ref m_part, .int 0, .ref m_wasMany, .ref m_wasLoss, .ref m_wasValue, .ref m_wasNumber, .ref m_path, .int 0, .ref m_heavyValue, .ref m_heavyTimes, .int 0, .ref m_fewest, .ref m_which, .ref m_met, .int 0])), (m_row, .inl (cyI, 160, .inl fm))]) (hS : va_S (fun q : Nat => s.heap.size ≤ q) s.heap H locs) {ls : Array Slot} (hl : lv_has ls 7 [(4, .int 0), (3, .ref q_o), (2, .ref m0), (1, .ref x0), (0, .ref b)]) : W p l e room_1 s m #[Value.ref b] below meth c H locs 60 20000 (lw_Z below #[Value.ref b] s) (F0 m 1261 ls []) := by
  obtain ⟨hx, hb, hr, hml, hown, hts0, hX, hbl, hlocks, hgv⟩ := id C0
  have hts := hts0
  have hA : ∀ q : Nat, s.heap.size ≤ q → (fun q : Nat => s.heap.size ≤ q) q := fun _ h => h
  have hbA : ¬ (fun q : Nat => s.heap.size ≤ q) b := Nat.not_le.mpr hbl
  have hown : s.vm.findClass RL = some m.cls := hown
  have hb : c.code = cL_law := hb
  refine lv_aload_n hx hb dL_law_1261 rfl (lv_at hl 3 rfl) ?_
  refine lv_aload_n hx hb dL_law_1262 rfl (lv_at hl 4 rfl) ?_
  refine lv_iload hx hb dL_law_1263 (lv_at hl 0 rfl) ?_
  refine lv_iconst (v := 1) hx hb dL_law_1265 (by decide) ?_
  refine lv_iadd hx hb dL_law_1266 ?_
  refine W.eq (g2 := F0 m 1267 ls [.int 1, .ref b, .ref x0]) (by first | rfl | (congr 2; decide)) ?_
  refine va_sld hx hb hX hbl hbA hS (i := 1) (ki_inl (by decide)) dL_law_1267 ?_
  refine lv_aload_n hx hb dL_law_1268 rfl (lv_at hl 4 rfl) ?_
  refine lv_iload hx hb dL_law_1269 (lv_at hl 0 rfl) ?_
  refine lv_iconst (v := 2) hx hb dL_law_1271 (by decide) ?_
  refine lv_iadd hx hb dL_law_1272 ?_
  refine W.eq (g2 := F0 m 1273 ls [.int 2, .ref b, .int (xs (1 : Int32).toNatClampNeg), .ref x0]) (by first | rfl | (congr 2; decide)) ?_
  refine va_sld hx hb hX hbl hbA hS (i := 2) (ki_inl (by decide)) dL_law_1273 ?_
  have hPc := hP.sub (ws' := [(x0, .inr (4, [.ref x_row, .ref x_tree, .ref x_tally, .ref x_votes, .ref x_otherVotes, .ref x_wins, .ref x_fewest, .int 2, .int 1])), (x_row, .inr (0, [.ref x_cell, .int 0]))]) [0, 1] rfl
  have hKc := hK.sub (tys' := []) [] rfl
  refine vp_callSi (W.runV (As := [.int (xs (1 : Int32).toNatClampNeg), .int (xs (2 : Int32).toNatClampNeg)]) (rest := []) ⟨hx, hb, hml, hown, (lwC_X4_surely hts0)⟩ (c_X4_surely l dC dI x0 x_row x_tree x_tally x_votes x_otherVotes x_wins x_fewest x_cell (xs (1 : Int32).toNatClampNeg) (xs (2 : Int32).toNatClampNeg)) (cwV 2 (lwC_X4_surely hts0) lwG_X4_surely rfl rfl rfl (by decide +kernel) ⟨Nat.le_of_ble_eq_true rfl, Nat.le_of_ble_eq_true rfl⟩) ⟨fun a U g mk q => by obtain ⟨q0, qP, qK⟩ := q; exact ⟨q0, qP, va_K.moved (u := U) (U := U.calling g mk a) (Vm.Alike.refl U.vm) qK⟩, va_recv hKc hPc (ci := 4) (q0 := 0) rfl rfl, fun U hU hW => ⟨rfl, by rw [hU]; exact hPc, va_K.moved hW.alike hKc⟩⟩ rfl rfl hl.1 rfl (lv_room (Nat.le_of_ble_eq_true rfl)) dL_law_1274 ⟨Nat.le_of_ble_eq_true rfl, Nat.le_of_ble_eq_true rfl⟩) (fun r_1 w_1 => ?_)
  subst w_1
  refine lv_aload_n hx hb dL_law_1277 rfl (lv_at hl 2 rfl) ?_
  refine lv_aload_n hx hb dL_law_1278 rfl (lv_at hl 4 rfl) ?_
  refine lv_iload hx hb dL_law_1279 (lv_at hl 0 rfl) ?_
  refine lv_iconst (v := 1) hx hb dL_law_1281 (by decide) ?_
  refine lv_iadd hx hb dL_law_1282 ?_
  refine W.eq (g2 := F0 m 1283 ls [.int 1, .ref b, .ref m0, .int (-40000)]) (by first | rfl | (congr 2; decide)) ?_
  refine va_sld hx hb hX hbl hbA hS (i := 1) (ki_inl (by decide)) dL_law_1283 ?_
  refine lv_aload_n hx hb dL_law_1284 rfl (lv_at hl 4 rfl) ?_
  refine lv_iload hx hb dL_law_1285 (lv_at hl 0 rfl) ?_
  refine lv_iconst (v := 2) hx hb dL_law_1287 (by decide) ?_
  refine lv_iadd hx hb dL_law_1288 ?_
  refine W.eq (g2 := F0 m 1289 ls [.int 2, .ref b, .int (xs (1 : Int32).toNatClampNeg), .ref m0, .int (-40000)]) (by first | rfl | (congr 2; decide)) ?_
  refine va_sld hx hb hX hbl hbA hS (i := 2) (ki_inl (by decide)) dL_law_1289 ?_
  have hPc := hP.sub (ws' := [(m0, .inr (5, [.ref m_row, .int 0, .int 2, .int 0, .ref m_many, .ref m_loss, .ref m_less, .ref m_voteValue, .ref m_voteNumber, .ref m_allValue, .ref m_allNumber, .int 0, .ref m_nodeL, .ref m_nodeR, .int 0, .ref m_part, .int 0, .ref m_wasMany, .ref m_wasLoss, .ref m_wasValue, .ref m_wasNumber, .ref m_path, .int 0, .ref m_heavyValue, .ref m_heavyTimes, .int 0, .ref m_fewest, .ref m_which, .ref m_met, .int 0]))]) [7] rfl
  have hKc := hK.sub (tys' := []) [] rfl
  have hDc := hD.sub (ws' := [(m0, .inr (5, [.ref m_row, .int 0, .int 2, .int 0, .ref m_many, .ref m_loss, .ref m_less, .ref m_voteValue, .ref m_voteNumber, .ref m_allValue, .ref m_allNumber, .int 0, .ref m_nodeL, .ref m_nodeR, .int 0, .ref m_part, .int 0, .ref m_wasMany, .ref m_wasLoss, .ref m_wasValue, .ref m_wasNumber, .ref m_path, .int 0, .ref m_heavyValue, .ref m_heavyTimes, .int 0, .ref m_fewest, .ref m_which, .ref m_met, .int 0]))]) [7] (by decide) rfl
  have hFc := va_free (wc := [(m0, .inr (5, [.ref m_row, .int 0, .int 2, .int 0, .ref m_many, .ref m_loss, .ref m_less, .ref m_voteValue, .ref m_voteNumber, .ref m_allValue, .ref m_allNumber, .int 0, .ref m_nodeL, .ref m_nodeR, .int 0, .ref m_part, .int 0, .ref m_wasMany, .ref m_wasLoss, .ref m_wasValue, .ref m_wasNumber, .ref m_path, .int 0, .ref m_heavyValue, .ref m_heavyTimes, .int 0, .ref m_fewest, .ref m_which, .ref m_met, .int 0]))]) hD hS hA [7] rfl
  refine va_calli (va_runV (As := [.int (xs (1 : Int32).toNatClampNeg), .int (xs (2 : Int32).toNatClampNeg)]) (rest := [.int (-40000)]) ⟨hx, hb, hml, hown, (lwC_X5_surely hts0)⟩ (c_X5_surely l dC dI m0 m_row m_many m_loss m_less m_voteValue m_voteNumber m_allValue m_allNumber m_nodeL m_nodeR m_part m_wasMany m_wasLoss m_wasValue m_wasNumber m_path m_heavyValue m_heavyTimes m_fewest m_which m_met (xs (1 : Int32).toNatClampNeg) (xs (2 : Int32).toNatClampNeg) H.size) (cwV 2 (lwC_X5_surely hts0) lwG_X5_surely rfl rfl rfl (by decide +kernel) ⟨Nat.le_of_ble_eq_true rfl, Nat.le_of_ble_eq_true rfl⟩) ⟨fun a U g mk q => by obtain ⟨q0, q1, qP, qK, qD⟩ := q; exact ⟨q0, q1, qP, va_K.moved (u := U) (U := U.calling g mk a) (Vm.Alike.refl U.vm) qK, qD⟩, va_recv hKc hPc (ci := 5) (q0 := 0) rfl rfl, fun U hU hW => ⟨rfl, by rw [hU], by rw [hU]; exact hPc, va_K.moved hW.alike hKc, hDc.weaken (fun _ _ _ _ => trivial)⟩⟩ rfl rfl hl.1 rfl (lv_room (Nat.le_of_ble_eq_true rfl)) dL_law_1290 ⟨Nat.le_of_ble_eq_true rfl, Nat.le_of_ble_eq_true rfl⟩) hS (fun q _ h => hFc q h) hFc (fun r_2 u t H1 locs ht hvm w_2 hB hz1 hk1 hS => ?_)
  obtain ⟨hP1, hK1, hD1⟩ := hB
  rw [ht] at hP1
  have hK1 := va_K.moved hvm.symm hK1
  obtain ⟨hP, hD⟩ := va_join (wr := [(x0, .inr (4, [.ref x_row, .ref x_tree, .ref x_tally, .ref x_votes, .ref x_otherVotes, .ref x_wins, .ref x_fewest, .int 2, .int 1])), (x_row, .inr (0, [.ref x_cell, .int 0])), (x_cell, .inl (cyI, 160, .inl fc)), (x_tree, .inr (2, [.ref x_row, .ref x_joined, .ref x_from, .ref x_to, .ref x_size, .ref x_lossOf, .ref x_lessBy, .ref x_tvalue, .ref x_tnumber, .int 0, .int 0])), (x_from, .inl (cyI, 319, .inl ff)), (x_to, .inl (cyI, 319, .inl ft)), (x_tally, .inr (1, [.ref x_kind, .ref x_often, .int 0, .int 0])), (m_row, .inl (cyI, 160, .inl fm))]) (w1 := []) hP hD [7] [0, 1, 2, 3, 4, 5, 6, 8] rfl rfl (by decide) (by decide) hk1 hFc hP1 hD1
  clear hP1 hD1 hK1 hk1 hz1 hFc hDc hPc hKc
  generalize H1 = H at hP hS ⊢
  have hP : va_P (dC, dI) vwCl [(x0, .inr (4, [.ref x_row, .ref x_tree, .ref x_tally, .ref x_votes, .ref x_otherVotes, .ref x_wins, .ref x_fewest, .int 2, .int 1])), (x_row, .inr (0, [.ref x_cell, .int 0])), (x_cell, .inl (cyI, 160, .inl fc)), (x_tree, .inr (2, [.ref x_row, .ref x_joined, .ref x_from, .ref x_to, .ref x_size, .ref x_lossOf, .ref x_lessBy, .ref x_tvalue, .ref x_tnumber, .int 0, .int 0])), (x_from, .inl (cyI, 319, .inl ff)), (x_to, .inl (cyI, 319, .inl ft)), (x_tally, .inr (1, [.ref x_kind, .ref x_often, .int 0, .int 0])), (m_row, .inl (cyI, 160, .inl fm))] H := hP
  have hD : va_D (fun q : Nat => s.heap.size ≤ q) [(x0, .inr (4, [.ref x_row, .ref x_tree, .ref x_tally, .ref x_votes, .ref x_otherVotes, .ref x_wins, .ref x_fewest, .int 2, .int 1])), (x_row, .inr (0, [.ref x_cell, .int 0])), (x_cell, .inl (cyI, 160, .inl fc)), (x_tree, .inr (2, [.ref x_row, .ref x_joined, .ref x_from, .ref x_to, .ref x_size, .ref x_lossOf, .ref x_lessBy, .ref x_tvalue, .ref x_tnumber, .int 0, .int 0])), (x_from, .inl (cyI, 319, .inl ff)), (x_to, .inl (cyI, 319, .inl ft)), (x_tally, .inr (1, [.ref x_kind, .ref x_often, .int 0, .int 0])), (m_row, .inl (cyI, 160, .inl fm))] := hD
  subst w_2
  refine lv_icmp_eq (tgt := 2400) hx hb dL_law_1293 (by decide) (fun c_3 => ?_) (fun c_3 => ?_)
  · refine W.widen (k := 100) (n := 30000) (Nat.le_of_ble_eq_true rfl) (Nat.le_of_ble_eq_true rfl) ?_
    exact lc_end C0 hS (lv_sub hl [0, 4] rfl)
  · exact absurd c_3 (by decide)

set_option maxHeartbeats 4000000 in
set_option maxRecDepth 100000 in
theorem lc_25 {p : Program} {l : Launch} {e : Env} {s : State} {m : MethodId} {below : List Frame} {meth : Method} {c : Code} {dC : Nat → ClassId} {dI : Nat → Nat → Nat} {b : Nat} {xs : Nat → Int32} (hl0 : l.stackTraces = false) (C0 : lw_At p s m meth c b 8 xs) (hth : ki_Th s) {x0 x_row x_tree x_tally x_votes x_otherVotes x_wins x_fewest x_cell x_joined x_from x_to x_size x_lossOf x_lessBy x_tvalue x_tnumber x_kind x_often m0 m_row m_many m_loss m_less m_voteValue m_voteNumber m_allValue m_allNumber m_nodeL m_nodeR m_part m_wasMany m_wasLoss m_wasValue m_wasNumber m_path m_heavyValue m_heavyTimes m_fewest m_which m_met q_o : Nat} {cyI : ClassId} {fc ff ft fm : Nat → Int32} {H : Heap} {locs : List Loc} (hK : va_K (dC, dI) vwCl [(cyI, .int)] s) (hP : va_P (dC, dI) vwCl [(x0, .inr (4, [.ref x_row, .ref x_tree, .ref x_tally, .ref x_votes, .ref x_otherVotes, .ref x_wins, .ref x_fewest, .int 2, .int 1])), (x_row, .inr (0, [.ref x_cell, .int 0])), (x_cell, .inl (cyI, 160, .inl fc)), (x_tree, .inr (2, [.ref x_row, .ref x_joined, .ref x_from, .ref x_to, .ref x_size, .ref x_lossOf, .ref x_lessBy, .ref x_tvalue, .ref x_tnumber, .int 0, .int 0])), (x_from, .inl (cyI, 319, .inl ff)), (x_to, .inl (cyI, 319, .inl ft)), (x_tally, .inr (1, [.ref x_kind, .ref x_often, .int 0, .int 0])), (m0, .inr (5, [.ref m_row, .int 0, .int 2, .int 0, .ref m_many, .ref m_loss, .ref m_less, .ref m_voteValue, .ref m_voteNumber, .ref m_allValue, .ref m_allNumber, .int 0, .ref m_nodeL, .ref m_nodeR, .int 0, .ref m_part, .int 0, .ref m_wasMany, .ref m_wasLoss, .ref m_wasValue, .ref m_wasNumber, .ref m_path, .int 0, .ref m_heavyValue, .ref m_heavyTimes, .int 0, .ref m_fewest, .ref m_which, .ref m_met, .int 0])), (m_row, .inl (cyI, 160, .inl fm))] H) (hD : va_D (fun q : Nat => s.heap.size ≤ q) [(x0, .inr (4, [.ref x_row, .ref x_tree, .ref x_tally, .ref x_votes, .ref x_otherVotes, .ref x_wins, .ref x_fewest, .int 2, .int 1])), (x_row, .inr (0, [.ref x_cell, .int 0])), (x_cell, .inl (cyI, 160, .inl fc)), (x_tree, .inr (2, [.ref x_row, .ref x_joined, .ref x_from, .ref x_to, .ref x_size, .ref x_lossOf, .ref x_lessBy, .ref x_tvalue, .ref x_tnumber, .int 0, .int 0])), (x_from, .inl (cyI, 319, .inl ff)), (x_to, .inl (cyI, 319, .inl ft)), (x_tally, .inr (1, [.ref x_kind, .ref x_often, .int 0, .int 0])), (m0, .inr (5, [.ref m_row, .int 0, .int 2, .int 0, .ref m_many, .ref m_loss, .ref m_less, .ref m_voteValue, .ref m_voteNumber, .ref m_allValue, .ref m_allNumber, .int 0, .ref m_nodeL, .ref m_nodeR, .int 0, .ref m_part, .int 0, .ref m_wasMany, .ref m_wasLoss, .ref m_wasValue, .ref m_wasNumber, .ref m_path, .int 0, .ref m_heavyValue, .ref m_heavyTimes, .int 0, .ref m_fewest, .ref m_which, .ref m_met, .int 0])), (m_row, .inl (cyI, 160, .inl fm))]) (hS : va_S (fun q : Nat => s.heap.size ≤ q) s.heap H locs) {ls : Array Slot} (hl : lv_has ls 7 [(4, .int 0), (3, .ref q_o), (2, .ref m0), (1, .ref x0), (0, .ref b)]) : W p l e room_1 s m #[Value.ref b] below meth c H locs 60 20000 (lw_Z below #[Value.ref b] s) (F0 m 1298 ls []) := by
  obtain ⟨hx, hb, hr, hml, hown, hts0, hX, hbl, hlocks, hgv⟩ := id C0
  have hts := hts0
  have hA : ∀ q : Nat, s.heap.size ≤ q → (fun q : Nat => s.heap.size ≤ q) q := fun _ h => h
  have hbA : ¬ (fun q : Nat => s.heap.size ≤ q) b := Nat.not_le.mpr hbl
  have hown : s.vm.findClass RL = some m.cls := hown
  have hb : c.code = cL_law := hb
  refine lv_aload_n hx hb dL_law_1298 rfl (lv_at hl 3 rfl) ?_
  refine lv_aload_n hx hb dL_law_1299 rfl (lv_at hl 4 rfl) ?_
  refine lv_iload hx hb dL_law_1300 (lv_at hl 0 rfl) ?_
  refine lv_iconst (v := 1) hx hb dL_law_1302 (by decide) ?_
  refine lv_iadd hx hb dL_law_1303 ?_
  refine W.eq (g2 := F0 m 1304 ls [.int 1, .ref b, .ref x0]) (by first | rfl | (congr 2; decide)) ?_
  refine va_sld hx hb hX hbl hbA hS (i := 1) (ki_inl (by decide)) dL_law_1304 ?_
  refine lv_aload_n hx hb dL_law_1305 rfl (lv_at hl 4 rfl) ?_
  refine lv_iload hx hb dL_law_1306 (lv_at hl 0 rfl) ?_
  refine lv_iconst (v := 2) hx hb dL_law_1308 (by decide) ?_
  refine lv_iadd hx hb dL_law_1309 ?_
  refine W.eq (g2 := F0 m 1310 ls [.int 2, .ref b, .int (xs (1 : Int32).toNatClampNeg), .ref x0]) (by first | rfl | (congr 2; decide)) ?_
  refine va_sld hx hb hX hbl hbA hS (i := 2) (ki_inl (by decide)) dL_law_1310 ?_
  refine lv_aload_n hx hb dL_law_1311 rfl (lv_at hl 4 rfl) ?_
  refine lv_iload hx hb dL_law_1312 (lv_at hl 0 rfl) ?_
  refine lv_iconst (v := 3) hx hb dL_law_1314 (by decide) ?_
  refine lv_iadd hx hb dL_law_1315 ?_
  refine W.eq (g2 := F0 m 1316 ls [.int 3, .ref b, .int (xs (2 : Int32).toNatClampNeg), .int (xs (1 : Int32).toNatClampNeg), .ref x0]) (by first | rfl | (congr 2; decide)) ?_
  refine va_sld hx hb hX hbl hbA hS (i := 3) (ki_inl (by decide)) dL_law_1316 ?_
  refine lv_aload_n hx hb dL_law_1317 rfl (lv_at hl 4 rfl) ?_
  refine lv_iload hx hb dL_law_1318 (lv_at hl 0 rfl) ?_
  refine lv_iconst (v := 4) hx hb dL_law_1320 (by decide) ?_
  refine lv_iadd hx hb dL_law_1321 ?_
  refine W.eq (g2 := F0 m 1322 ls [.int 4, .ref b, .int (xs (3 : Int32).toNatClampNeg), .int (xs (2 : Int32).toNatClampNeg), .int (xs (1 : Int32).toNatClampNeg), .ref x0]) (by first | rfl | (congr 2; decide)) ?_
  refine va_sld hx hb hX hbl hbA hS (i := 4) (ki_inl (by decide)) dL_law_1322 ?_
  have hPc := hP.sub (ws' := [(x0, .inr (4, [.ref x_row, .ref x_tree, .ref x_tally, .ref x_votes, .ref x_otherVotes, .ref x_wins, .ref x_fewest, .int 2, .int 1])), (x_row, .inr (0, [.ref x_cell, .int 0]))]) [0, 1] rfl
  have hKc := hK.sub (tys' := []) [] rfl
  refine vp_callSi (W.runV (As := [.int (xs (1 : Int32).toNatClampNeg), .int (xs (2 : Int32).toNatClampNeg), .int (xs (3 : Int32).toNatClampNeg), .int (xs (4 : Int32).toNatClampNeg)]) (rest := []) ⟨hx, hb, hml, hown, (lwC_X4_heavy hts0)⟩ (c_X4_heavy l dC dI x0 x_row x_tree x_tally x_votes x_otherVotes x_wins x_fewest x_cell (xs (1 : Int32).toNatClampNeg) (xs (2 : Int32).toNatClampNeg) (xs (3 : Int32).toNatClampNeg) (xs (4 : Int32).toNatClampNeg)) (cwV 4 (lwC_X4_heavy hts0) lwG_X4_heavy rfl rfl rfl (by decide +kernel) ⟨Nat.le_of_ble_eq_true rfl, Nat.le_of_ble_eq_true rfl⟩) ⟨fun a U g mk q => by obtain ⟨q0, qP, qK⟩ := q; exact ⟨q0, qP, va_K.moved (u := U) (U := U.calling g mk a) (Vm.Alike.refl U.vm) qK⟩, va_recv hKc hPc (ci := 4) (q0 := 0) rfl rfl, fun U hU hW => ⟨rfl, by rw [hU]; exact hPc, va_K.moved hW.alike hKc⟩⟩ rfl rfl hl.1 rfl (lv_room (Nat.le_of_ble_eq_true rfl)) dL_law_1323 ⟨Nat.le_of_ble_eq_true rfl, Nat.le_of_ble_eq_true rfl⟩) (fun r_1 w_1 => ?_)
  subst w_1
  refine lv_aload_n hx hb dL_law_1326 rfl (lv_at hl 2 rfl) ?_
  refine lv_aload_n hx hb dL_law_1327 rfl (lv_at hl 4 rfl) ?_
  refine lv_iload hx hb dL_law_1328 (lv_at hl 0 rfl) ?_
  refine lv_iconst (v := 1) hx hb dL_law_1330 (by decide) ?_
  refine lv_iadd hx hb dL_law_1331 ?_
  refine W.eq (g2 := F0 m 1332 ls [.int 1, .ref b, .ref m0, .int (-1)]) (by first | rfl | (congr 2; decide)) ?_
  refine va_sld hx hb hX hbl hbA hS (i := 1) (ki_inl (by decide)) dL_law_1332 ?_
  refine lv_aload_n hx hb dL_law_1333 rfl (lv_at hl 4 rfl) ?_
  refine lv_iload hx hb dL_law_1334 (lv_at hl 0 rfl) ?_
  refine lv_iconst (v := 2) hx hb dL_law_1336 (by decide) ?_
  refine lv_iadd hx hb dL_law_1337 ?_
  refine W.eq (g2 := F0 m 1338 ls [.int 2, .ref b, .int (xs (1 : Int32).toNatClampNeg), .ref m0, .int (-1)]) (by first | rfl | (congr 2; decide)) ?_
  refine va_sld hx hb hX hbl hbA hS (i := 2) (ki_inl (by decide)) dL_law_1338 ?_
  refine lv_aload_n hx hb dL_law_1339 rfl (lv_at hl 4 rfl) ?_
  refine lv_iload hx hb dL_law_1340 (lv_at hl 0 rfl) ?_
  refine lv_iconst (v := 3) hx hb dL_law_1342 (by decide) ?_
  refine lv_iadd hx hb dL_law_1343 ?_
  refine W.eq (g2 := F0 m 1344 ls [.int 3, .ref b, .int (xs (2 : Int32).toNatClampNeg), .int (xs (1 : Int32).toNatClampNeg), .ref m0, .int (-1)]) (by first | rfl | (congr 2; decide)) ?_
  refine va_sld hx hb hX hbl hbA hS (i := 3) (ki_inl (by decide)) dL_law_1344 ?_
  refine lv_aload_n hx hb dL_law_1345 rfl (lv_at hl 4 rfl) ?_
  refine lv_iload hx hb dL_law_1346 (lv_at hl 0 rfl) ?_
  refine lv_iconst (v := 4) hx hb dL_law_1348 (by decide) ?_
  refine lv_iadd hx hb dL_law_1349 ?_
  refine W.eq (g2 := F0 m 1350 ls [.int 4, .ref b, .int (xs (3 : Int32).toNatClampNeg), .int (xs (2 : Int32).toNatClampNeg), .int (xs (1 : Int32).toNatClampNeg), .ref m0, .int (-1)]) (by first | rfl | (congr 2; decide)) ?_
  refine va_sld hx hb hX hbl hbA hS (i := 4) (ki_inl (by decide)) dL_law_1350 ?_
  have hPc := hP.sub (ws' := [(m0, .inr (5, [.ref m_row, .int 0, .int 2, .int 0, .ref m_many, .ref m_loss, .ref m_less, .ref m_voteValue, .ref m_voteNumber, .ref m_allValue, .ref m_allNumber, .int 0, .ref m_nodeL, .ref m_nodeR, .int 0, .ref m_part, .int 0, .ref m_wasMany, .ref m_wasLoss, .ref m_wasValue, .ref m_wasNumber, .ref m_path, .int 0, .ref m_heavyValue, .ref m_heavyTimes, .int 0, .ref m_fewest, .ref m_which, .ref m_met, .int 0]))]) [7] rfl
  have hKc := hK.sub (tys' := []) [] rfl
  have hDc := hD.sub (ws' := [(m0, .inr (5, [.ref m_row, .int 0, .int 2, .int 0, .ref m_many, .ref m_loss, .ref m_less, .ref m_voteValue, .ref m_voteNumber, .ref m_allValue, .ref m_allNumber, .int 0, .ref m_nodeL, .ref m_nodeR, .int 0, .ref m_part, .int 0, .ref m_wasMany, .ref m_wasLoss, .ref m_wasValue, .ref m_wasNumber, .ref m_path, .int 0, .ref m_heavyValue, .ref m_heavyTimes, .int 0, .ref m_fewest, .ref m_which, .ref m_met, .int 0]))]) [7] (by decide) rfl
  have hFc := va_free (wc := [(m0, .inr (5, [.ref m_row, .int 0, .int 2, .int 0, .ref m_many, .ref m_loss, .ref m_less, .ref m_voteValue, .ref m_voteNumber, .ref m_allValue, .ref m_allNumber, .int 0, .ref m_nodeL, .ref m_nodeR, .int 0, .ref m_part, .int 0, .ref m_wasMany, .ref m_wasLoss, .ref m_wasValue, .ref m_wasNumber, .ref m_path, .int 0, .ref m_heavyValue, .ref m_heavyTimes, .int 0, .ref m_fewest, .ref m_which, .ref m_met, .int 0]))]) hD hS hA [7] rfl
  refine va_calli (va_runV (As := [.int (xs (1 : Int32).toNatClampNeg), .int (xs (2 : Int32).toNatClampNeg), .int (xs (3 : Int32).toNatClampNeg), .int (xs (4 : Int32).toNatClampNeg)]) (rest := [.int (-1)]) ⟨hx, hb, hml, hown, (lwC_X5_heavy hts0)⟩ (c_X5_heavy l dC dI m0 m_row m_many m_loss m_less m_voteValue m_voteNumber m_allValue m_allNumber m_nodeL m_nodeR m_part m_wasMany m_wasLoss m_wasValue m_wasNumber m_path m_heavyValue m_heavyTimes m_fewest m_which m_met (xs (1 : Int32).toNatClampNeg) (xs (2 : Int32).toNatClampNeg) (xs (3 : Int32).toNatClampNeg) (xs (4 : Int32).toNatClampNeg) H.size) (cwV 4 (lwC_X5_heavy hts0) lwG_X5_heavy rfl rfl rfl (by decide +kernel) ⟨Nat.le_of_ble_eq_true rfl, Nat.le_of_ble_eq_true rfl⟩) ⟨fun a U g mk q => by obtain ⟨q0, q1, qP, qK, qD⟩ := q; exact ⟨q0, q1, qP, va_K.moved (u := U) (U := U.calling g mk a) (Vm.Alike.refl U.vm) qK, qD⟩, va_recv hKc hPc (ci := 5) (q0 := 0) rfl rfl, fun U hU hW => ⟨rfl, by rw [hU], by rw [hU]; exact hPc, va_K.moved hW.alike hKc, hDc.weaken (fun _ _ _ _ => trivial)⟩⟩ rfl rfl hl.1 rfl (lv_room (Nat.le_of_ble_eq_true rfl)) dL_law_1351 ⟨Nat.le_of_ble_eq_true rfl, Nat.le_of_ble_eq_true rfl⟩) hS (fun q _ h => hFc q h) hFc (fun r_2 u t H1 locs ht hvm w_2 hB hz1 hk1 hS => ?_)
  obtain ⟨hP1, hK1, hD1⟩ := hB
  rw [ht] at hP1
  have hK1 := va_K.moved hvm.symm hK1
  obtain ⟨hP, hD⟩ := va_join (wr := [(x0, .inr (4, [.ref x_row, .ref x_tree, .ref x_tally, .ref x_votes, .ref x_otherVotes, .ref x_wins, .ref x_fewest, .int 2, .int 1])), (x_row, .inr (0, [.ref x_cell, .int 0])), (x_cell, .inl (cyI, 160, .inl fc)), (x_tree, .inr (2, [.ref x_row, .ref x_joined, .ref x_from, .ref x_to, .ref x_size, .ref x_lossOf, .ref x_lessBy, .ref x_tvalue, .ref x_tnumber, .int 0, .int 0])), (x_from, .inl (cyI, 319, .inl ff)), (x_to, .inl (cyI, 319, .inl ft)), (x_tally, .inr (1, [.ref x_kind, .ref x_often, .int 0, .int 0])), (m_row, .inl (cyI, 160, .inl fm))]) (w1 := []) hP hD [7] [0, 1, 2, 3, 4, 5, 6, 8] rfl rfl (by decide) (by decide) hk1 hFc hP1 hD1
  clear hP1 hD1 hK1 hk1 hz1 hFc hDc hPc hKc
  generalize H1 = H at hP hS ⊢
  have hP : va_P (dC, dI) vwCl [(x0, .inr (4, [.ref x_row, .ref x_tree, .ref x_tally, .ref x_votes, .ref x_otherVotes, .ref x_wins, .ref x_fewest, .int 2, .int 1])), (x_row, .inr (0, [.ref x_cell, .int 0])), (x_cell, .inl (cyI, 160, .inl fc)), (x_tree, .inr (2, [.ref x_row, .ref x_joined, .ref x_from, .ref x_to, .ref x_size, .ref x_lossOf, .ref x_lessBy, .ref x_tvalue, .ref x_tnumber, .int 0, .int 0])), (x_from, .inl (cyI, 319, .inl ff)), (x_to, .inl (cyI, 319, .inl ft)), (x_tally, .inr (1, [.ref x_kind, .ref x_often, .int 0, .int 0])), (m_row, .inl (cyI, 160, .inl fm))] H := hP
  have hD : va_D (fun q : Nat => s.heap.size ≤ q) [(x0, .inr (4, [.ref x_row, .ref x_tree, .ref x_tally, .ref x_votes, .ref x_otherVotes, .ref x_wins, .ref x_fewest, .int 2, .int 1])), (x_row, .inr (0, [.ref x_cell, .int 0])), (x_cell, .inl (cyI, 160, .inl fc)), (x_tree, .inr (2, [.ref x_row, .ref x_joined, .ref x_from, .ref x_to, .ref x_size, .ref x_lossOf, .ref x_lessBy, .ref x_tvalue, .ref x_tnumber, .int 0, .int 0])), (x_from, .inl (cyI, 319, .inl ff)), (x_to, .inl (cyI, 319, .inl ft)), (x_tally, .inr (1, [.ref x_kind, .ref x_often, .int 0, .int 0])), (m_row, .inl (cyI, 160, .inl fm))] := hD
  subst w_2
  refine lv_icmp_eq (tgt := 2400) hx hb dL_law_1354 (by decide) (fun c_3 => ?_) (fun c_3 => ?_)
  · refine W.widen (k := 100) (n := 30000) (Nat.le_of_ble_eq_true rfl) (Nat.le_of_ble_eq_true rfl) ?_
    exact lc_end C0 hS (lv_sub hl [0, 4] rfl)
  · exact absurd c_3 (by decide)

set_option maxHeartbeats 4000000 in
set_option maxRecDepth 100000 in
theorem lc_26 {p : Program} {l : Launch} {e : Env} {s : State} {m : MethodId} {below : List Frame} {meth : Method} {c : Code} {dC : Nat → ClassId} {dI : Nat → Nat → Nat} {b : Nat} {xs : Nat → Int32} (hl0 : l.stackTraces = false) (C0 : lw_At p s m meth c b 8 xs) (hth : ki_Th s) {x0 x_row x_tree x_tally x_votes x_otherVotes x_wins x_fewest x_cell x_joined x_from x_to x_size x_lossOf x_lessBy x_tvalue x_tnumber x_kind x_often m0 m_row m_many m_loss m_less m_voteValue m_voteNumber m_allValue m_allNumber m_nodeL m_nodeR m_part m_wasMany m_wasLoss m_wasValue m_wasNumber m_path m_heavyValue m_heavyTimes m_fewest m_which m_met q_o : Nat} {cyI : ClassId} {fc ff ft fm : Nat → Int32} {H : Heap} {locs : List Loc} (hK : va_K (dC, dI) vwCl [(cyI, .int)] s) (hP : va_P (dC, dI) vwCl [(x0, .inr (4, [.ref x_row, .ref x_tree, .ref x_tally, .ref x_votes, .ref x_otherVotes, .ref x_wins, .ref x_fewest, .int 2, .int 1])), (x_row, .inr (0, [.ref x_cell, .int 0])), (x_cell, .inl (cyI, 160, .inl fc)), (x_tree, .inr (2, [.ref x_row, .ref x_joined, .ref x_from, .ref x_to, .ref x_size, .ref x_lossOf, .ref x_lessBy, .ref x_tvalue, .ref x_tnumber, .int 0, .int 0])), (x_from, .inl (cyI, 319, .inl ff)), (x_to, .inl (cyI, 319, .inl ft)), (x_tally, .inr (1, [.ref x_kind, .ref x_often, .int 0, .int 0])), (m0, .inr (5, [.ref m_row, .int 0, .int 2, .int 0, .ref m_many, .ref m_loss, .ref m_less, .ref m_voteValue, .ref m_voteNumber, .ref m_allValue, .ref m_allNumber, .int 0, .ref m_nodeL, .ref m_nodeR, .int 0, .ref m_part, .int 0, .ref m_wasMany, .ref m_wasLoss, .ref m_wasValue, .ref m_wasNumber, .ref m_path, .int 0, .ref m_heavyValue, .ref m_heavyTimes, .int 0, .ref m_fewest, .ref m_which, .ref m_met, .int 0])), (m_row, .inl (cyI, 160, .inl fm))] H) (hD : va_D (fun q : Nat => s.heap.size ≤ q) [(x0, .inr (4, [.ref x_row, .ref x_tree, .ref x_tally, .ref x_votes, .ref x_otherVotes, .ref x_wins, .ref x_fewest, .int 2, .int 1])), (x_row, .inr (0, [.ref x_cell, .int 0])), (x_cell, .inl (cyI, 160, .inl fc)), (x_tree, .inr (2, [.ref x_row, .ref x_joined, .ref x_from, .ref x_to, .ref x_size, .ref x_lossOf, .ref x_lessBy, .ref x_tvalue, .ref x_tnumber, .int 0, .int 0])), (x_from, .inl (cyI, 319, .inl ff)), (x_to, .inl (cyI, 319, .inl ft)), (x_tally, .inr (1, [.ref x_kind, .ref x_often, .int 0, .int 0])), (m0, .inr (5, [.ref m_row, .int 0, .int 2, .int 0, .ref m_many, .ref m_loss, .ref m_less, .ref m_voteValue, .ref m_voteNumber, .ref m_allValue, .ref m_allNumber, .int 0, .ref m_nodeL, .ref m_nodeR, .int 0, .ref m_part, .int 0, .ref m_wasMany, .ref m_wasLoss, .ref m_wasValue, .ref m_wasNumber, .ref m_path, .int 0, .ref m_heavyValue, .ref m_heavyTimes, .int 0, .ref m_fewest, .ref m_which, .ref m_met, .int 0])), (m_row, .inl (cyI, 160, .inl fm))]) (hS : va_S (fun q : Nat => s.heap.size ≤ q) s.heap H locs) {ls : Array Slot} (hl : lv_has ls 7 [(4, .int 0), (3, .ref q_o), (2, .ref m0), (1, .ref x0), (0, .ref b)]) : W p l e room_1 s m #[Value.ref b] below meth c H locs 60 20000 (lw_Z below #[Value.ref b] s) (F0 m 1359 ls []) := by
  obtain ⟨hx, hb, hr, hml, hown, hts0, hX, hbl, hlocks, hgv⟩ := id C0
  have hts := hts0
  have hA : ∀ q : Nat, s.heap.size ≤ q → (fun q : Nat => s.heap.size ≤ q) q := fun _ h => h
  have hbA : ¬ (fun q : Nat => s.heap.size ≤ q) b := Nat.not_le.mpr hbl
  have hown : s.vm.findClass RL = some m.cls := hown
  have hb : c.code = cL_law := hb
  refine lv_aload_n hx hb dL_law_1359 rfl (lv_at hl 3 rfl) ?_
  refine lv_aload_n hx hb dL_law_1360 rfl (lv_at hl 4 rfl) ?_
  refine lv_iload hx hb dL_law_1361 (lv_at hl 0 rfl) ?_
  refine lv_iconst (v := 1) hx hb dL_law_1363 (by decide) ?_
  refine lv_iadd hx hb dL_law_1364 ?_
  refine W.eq (g2 := F0 m 1365 ls [.int 1, .ref b, .ref x0]) (by first | rfl | (congr 2; decide)) ?_
  refine va_sld hx hb hX hbl hbA hS (i := 1) (ki_inl (by decide)) dL_law_1365 ?_
  refine lv_aload_n hx hb dL_law_1366 rfl (lv_at hl 4 rfl) ?_
  refine lv_iload hx hb dL_law_1367 (lv_at hl 0 rfl) ?_
  refine lv_iconst (v := 2) hx hb dL_law_1369 (by decide) ?_
  refine lv_iadd hx hb dL_law_1370 ?_
  refine W.eq (g2 := F0 m 1371 ls [.int 2, .ref b, .int (xs (1 : Int32).toNatClampNeg), .ref x0]) (by first | rfl | (congr 2; decide)) ?_
  refine va_sld hx hb hX hbl hbA hS (i := 2) (ki_inl (by decide)) dL_law_1371 ?_
  refine lv_aload_n hx hb dL_law_1372 rfl (lv_at hl 4 rfl) ?_
  refine lv_iload hx hb dL_law_1373 (lv_at hl 0 rfl) ?_
  refine lv_iconst (v := 3) hx hb dL_law_1375 (by decide) ?_
  refine lv_iadd hx hb dL_law_1376 ?_
  refine W.eq (g2 := F0 m 1377 ls [.int 3, .ref b, .int (xs (2 : Int32).toNatClampNeg), .int (xs (1 : Int32).toNatClampNeg), .ref x0]) (by first | rfl | (congr 2; decide)) ?_
  refine va_sld hx hb hX hbl hbA hS (i := 3) (ki_inl (by decide)) dL_law_1377 ?_
  refine lv_aload_n hx hb dL_law_1378 rfl (lv_at hl 4 rfl) ?_
  refine lv_iload hx hb dL_law_1379 (lv_at hl 0 rfl) ?_
  refine lv_iconst (v := 4) hx hb dL_law_1381 (by decide) ?_
  refine lv_iadd hx hb dL_law_1382 ?_
  refine W.eq (g2 := F0 m 1383 ls [.int 4, .ref b, .int (xs (3 : Int32).toNatClampNeg), .int (xs (2 : Int32).toNatClampNeg), .int (xs (1 : Int32).toNatClampNeg), .ref x0]) (by first | rfl | (congr 2; decide)) ?_
  refine va_sld hx hb hX hbl hbA hS (i := 4) (ki_inl (by decide)) dL_law_1383 ?_
  refine lv_aload_n hx hb dL_law_1384 rfl (lv_at hl 4 rfl) ?_
  refine lv_iload hx hb dL_law_1385 (lv_at hl 0 rfl) ?_
  refine lv_iconst (v := 5) hx hb dL_law_1387 (by decide) ?_
  refine lv_iadd hx hb dL_law_1388 ?_
  refine W.eq (g2 := F0 m 1389 ls [.int 5, .ref b, .int (xs (4 : Int32).toNatClampNeg), .int (xs (3 : Int32).toNatClampNeg), .int (xs (2 : Int32).toNatClampNeg), .int (xs (1 : Int32).toNatClampNeg), .ref x0]) (by first | rfl | (congr 2; decide)) ?_
  refine va_sld hx hb hX hbl hbA hS (i := 5) (ki_inl (by decide)) dL_law_1389 ?_
  refine lv_aload_n hx hb dL_law_1390 rfl (lv_at hl 4 rfl) ?_
  refine lv_iload hx hb dL_law_1391 (lv_at hl 0 rfl) ?_
  refine lv_bipush (v := 6) hx hb dL_law_1393 (by decide) ?_
  refine lv_iadd hx hb dL_law_1395 ?_
  refine W.eq (g2 := F0 m 1396 ls [.int 6, .ref b, .int (xs (5 : Int32).toNatClampNeg), .int (xs (4 : Int32).toNatClampNeg), .int (xs (3 : Int32).toNatClampNeg), .int (xs (2 : Int32).toNatClampNeg), .int (xs (1 : Int32).toNatClampNeg), .ref x0]) (by first | rfl | (congr 2; decide)) ?_
  refine va_sld hx hb hX hbl hbA hS (i := 6) (ki_inl (by decide)) dL_law_1396 ?_
  refine lv_aload_n hx hb dL_law_1397 rfl (lv_at hl 1 rfl) ?_
  have hPc := hP.sub (ws' := [(x0, .inr (4, [.ref x_row, .ref x_tree, .ref x_tally, .ref x_votes, .ref x_otherVotes, .ref x_wins, .ref x_fewest, .int 2, .int 1])), (x_row, .inr (0, [.ref x_cell, .int 0]))]) [0, 1] rfl
  have hKc := hK.sub (tys' := []) [] rfl
  refine va_calli (vx_runSW (As := [.ref x0, .int (xs (1 : Int32).toNatClampNeg), .int (xs (2 : Int32).toNatClampNeg), .int (xs (3 : Int32).toNatClampNeg), .int (xs (4 : Int32).toNatClampNeg), .int (xs (5 : Int32).toNatClampNeg), .int (xs (6 : Int32).toNatClampNeg), .ref q_o]) (rest := []) ⟨hx, hb, hml, hown, (lwC_L_heavyAt hts0)⟩ (c_L_heavyAt l hl0 dC dI x0 x_row x_tree x_tally x_votes x_otherVotes x_wins x_fewest x_cell (xs (1 : Int32).toNatClampNeg) (xs (2 : Int32).toNatClampNeg) (xs (3 : Int32).toNatClampNeg) (xs (4 : Int32).toNatClampNeg) (xs (5 : Int32).toNatClampNeg) (xs (6 : Int32).toNatClampNeg) q_o) (vx_cwSW 8 (lwC_L_heavyAt hts0) lwG_L_heavyAt rfl rfl rfl (by decide +kernel) ⟨Nat.le_of_ble_eq_true rfl, Nat.le_of_ble_eq_true rfl⟩) ⟨fun a U g mk q => by obtain ⟨q0, qP, qK, qT⟩ := q; exact ⟨q0, qP, va_K.moved (u := U) (U := U.calling g mk a) (Vm.Alike.refl U.vm) qK, qT.call g mk a⟩, fun U hU hW => ⟨rfl, by rw [hU]; exact hPc, va_K.moved hW.alike hKc, hth.from hS hU hW⟩⟩ rfl rfl hl.1 rfl (lv_room (Nat.le_of_ble_eq_true rfl)) dL_law_1398 ⟨Nat.le_of_ble_eq_true rfl, Nat.le_of_ble_eq_true rfl⟩) hS (fun q _ h => h.elim) (fun q h => h.elim) (fun r_1 u t H1 locs ht hvm w_1 hB hz1 hk1 hS => ?_)
  have hP := hP.kept (H1 := H1) (fun k x hx => hk1 x.1 ((hP k x hx).lt) (fun h => h))
  clear hPc hKc hk1 hz1
  generalize H1 = H at hP hS ⊢
  have hP : va_P (dC, dI) vwCl [(x0, .inr (4, [.ref x_row, .ref x_tree, .ref x_tally, .ref x_votes, .ref x_otherVotes, .ref x_wins, .ref x_fewest, .int 2, .int 1])), (x_row, .inr (0, [.ref x_cell, .int 0])), (x_cell, .inl (cyI, 160, .inl fc)), (x_tree, .inr (2, [.ref x_row, .ref x_joined, .ref x_from, .ref x_to, .ref x_size, .ref x_lossOf, .ref x_lessBy, .ref x_tvalue, .ref x_tnumber, .int 0, .int 0])), (x_from, .inl (cyI, 319, .inl ff)), (x_to, .inl (cyI, 319, .inl ft)), (x_tally, .inr (1, [.ref x_kind, .ref x_often, .int 0, .int 0])), (m0, .inr (5, [.ref m_row, .int 0, .int 2, .int 0, .ref m_many, .ref m_loss, .ref m_less, .ref m_voteValue, .ref m_voteNumber, .ref m_allValue, .ref m_allNumber, .int 0, .ref m_nodeL, .ref m_nodeR, .int 0, .ref m_part, .int 0, .ref m_wasMany, .ref m_wasLoss, .ref m_wasValue, .ref m_wasNumber, .ref m_path, .int 0, .ref m_heavyValue, .ref m_heavyTimes, .int 0, .ref m_fewest, .ref m_which, .ref m_met, .int 0])), (m_row, .inl (cyI, 160, .inl fm))] H := hP
  have hD : va_D (fun q : Nat => s.heap.size ≤ q) [(x0, .inr (4, [.ref x_row, .ref x_tree, .ref x_tally, .ref x_votes, .ref x_otherVotes, .ref x_wins, .ref x_fewest, .int 2, .int 1])), (x_row, .inr (0, [.ref x_cell, .int 0])), (x_cell, .inl (cyI, 160, .inl fc)), (x_tree, .inr (2, [.ref x_row, .ref x_joined, .ref x_from, .ref x_to, .ref x_size, .ref x_lossOf, .ref x_lessBy, .ref x_tvalue, .ref x_tnumber, .int 0, .int 0])), (x_from, .inl (cyI, 319, .inl ff)), (x_to, .inl (cyI, 319, .inl ft)), (x_tally, .inr (1, [.ref x_kind, .ref x_often, .int 0, .int 0])), (m0, .inr (5, [.ref m_row, .int 0, .int 2, .int 0, .ref m_many, .ref m_loss, .ref m_less, .ref m_voteValue, .ref m_voteNumber, .ref m_allValue, .ref m_allNumber, .int 0, .ref m_nodeL, .ref m_nodeR, .int 0, .ref m_part, .int 0, .ref m_wasMany, .ref m_wasLoss, .ref m_wasValue, .ref m_wasNumber, .ref m_path, .int 0, .ref m_heavyValue, .ref m_heavyTimes, .int 0, .ref m_fewest, .ref m_which, .ref m_met, .int 0])), (m_row, .inl (cyI, 160, .inl fm))] := hD
  refine W.widen (k := 61) (n := 20006) (Nat.le_of_ble_eq_true rfl) (Nat.le_of_ble_eq_true rfl) ?_
  subst w_1
  refine lv_istore (lv' := [(5, .int 1), (4, .int 0), (3, .ref q_o), (2, .ref m0), (1, .ref x0), (0, .ref b)]) hx hb dL_law_1401 hl (by decide) rfl (fun ls hl => ?_)
  refine lv_aload_n hx hb dL_law_1403 rfl (lv_at hl 3 rfl) ?_
  refine lv_aload_n hx hb dL_law_1404 rfl (lv_at hl 5 rfl) ?_
  refine lv_iload hx hb dL_law_1405 (lv_at hl 1 rfl) ?_
  refine lv_iconst (v := 1) hx hb dL_law_1407 (by decide) ?_
  refine lv_iadd hx hb dL_law_1408 ?_
  refine W.eq (g2 := F0 m 1409 ls [.int 1, .ref b, .ref m0]) (by first | rfl | (congr 2; decide)) ?_
  refine va_sld hx hb hX hbl hbA hS (i := 1) (ki_inl (by decide)) dL_law_1409 ?_
  refine lv_aload_n hx hb dL_law_1410 rfl (lv_at hl 5 rfl) ?_
  refine lv_iload hx hb dL_law_1411 (lv_at hl 1 rfl) ?_
  refine lv_iconst (v := 2) hx hb dL_law_1413 (by decide) ?_
  refine lv_iadd hx hb dL_law_1414 ?_
  refine W.eq (g2 := F0 m 1415 ls [.int 2, .ref b, .int (xs (1 : Int32).toNatClampNeg), .ref m0]) (by first | rfl | (congr 2; decide)) ?_
  refine va_sld hx hb hX hbl hbA hS (i := 2) (ki_inl (by decide)) dL_law_1415 ?_
  refine lv_aload_n hx hb dL_law_1416 rfl (lv_at hl 5 rfl) ?_
  refine lv_iload hx hb dL_law_1417 (lv_at hl 1 rfl) ?_
  refine lv_iconst (v := 3) hx hb dL_law_1419 (by decide) ?_
  refine lv_iadd hx hb dL_law_1420 ?_
  refine W.eq (g2 := F0 m 1421 ls [.int 3, .ref b, .int (xs (2 : Int32).toNatClampNeg), .int (xs (1 : Int32).toNatClampNeg), .ref m0]) (by first | rfl | (congr 2; decide)) ?_
  refine va_sld hx hb hX hbl hbA hS (i := 3) (ki_inl (by decide)) dL_law_1421 ?_
  refine lv_aload_n hx hb dL_law_1422 rfl (lv_at hl 5 rfl) ?_
  refine lv_iload hx hb dL_law_1423 (lv_at hl 1 rfl) ?_
  refine lv_iconst (v := 4) hx hb dL_law_1425 (by decide) ?_
  refine lv_iadd hx hb dL_law_1426 ?_
  refine W.eq (g2 := F0 m 1427 ls [.int 4, .ref b, .int (xs (3 : Int32).toNatClampNeg), .int (xs (2 : Int32).toNatClampNeg), .int (xs (1 : Int32).toNatClampNeg), .ref m0]) (by first | rfl | (congr 2; decide)) ?_
  refine va_sld hx hb hX hbl hbA hS (i := 4) (ki_inl (by decide)) dL_law_1427 ?_
  refine lv_aload_n hx hb dL_law_1428 rfl (lv_at hl 5 rfl) ?_
  refine lv_iload hx hb dL_law_1429 (lv_at hl 1 rfl) ?_
  refine lv_iconst (v := 5) hx hb dL_law_1431 (by decide) ?_
  refine lv_iadd hx hb dL_law_1432 ?_
  refine W.eq (g2 := F0 m 1433 ls [.int 5, .ref b, .int (xs (4 : Int32).toNatClampNeg), .int (xs (3 : Int32).toNatClampNeg), .int (xs (2 : Int32).toNatClampNeg), .int (xs (1 : Int32).toNatClampNeg), .ref m0]) (by first | rfl | (congr 2; decide)) ?_
  refine va_sld hx hb hX hbl hbA hS (i := 5) (ki_inl (by decide)) dL_law_1433 ?_
  refine lv_aload_n hx hb dL_law_1434 rfl (lv_at hl 5 rfl) ?_
  refine lv_iload hx hb dL_law_1435 (lv_at hl 1 rfl) ?_
  refine lv_bipush (v := 6) hx hb dL_law_1437 (by decide) ?_
  refine lv_iadd hx hb dL_law_1439 ?_
  refine W.eq (g2 := F0 m 1440 ls [.int 6, .ref b, .int (xs (5 : Int32).toNatClampNeg), .int (xs (4 : Int32).toNatClampNeg), .int (xs (3 : Int32).toNatClampNeg), .int (xs (2 : Int32).toNatClampNeg), .int (xs (1 : Int32).toNatClampNeg), .ref m0]) (by first | rfl | (congr 2; decide)) ?_
  refine va_sld hx hb hX hbl hbA hS (i := 6) (ki_inl (by decide)) dL_law_1440 ?_
  have hPc := hP.sub (ws' := [(m0, .inr (5, [.ref m_row, .int 0, .int 2, .int 0, .ref m_many, .ref m_loss, .ref m_less, .ref m_voteValue, .ref m_voteNumber, .ref m_allValue, .ref m_allNumber, .int 0, .ref m_nodeL, .ref m_nodeR, .int 0, .ref m_part, .int 0, .ref m_wasMany, .ref m_wasLoss, .ref m_wasValue, .ref m_wasNumber, .ref m_path, .int 0, .ref m_heavyValue, .ref m_heavyTimes, .int 0, .ref m_fewest, .ref m_which, .ref m_met, .int 0]))]) [7] rfl
  have hKc := hK.sub (tys' := []) [] rfl
  have hDc := hD.sub (ws' := [(m0, .inr (5, [.ref m_row, .int 0, .int 2, .int 0, .ref m_many, .ref m_loss, .ref m_less, .ref m_voteValue, .ref m_voteNumber, .ref m_allValue, .ref m_allNumber, .int 0, .ref m_nodeL, .ref m_nodeR, .int 0, .ref m_part, .int 0, .ref m_wasMany, .ref m_wasLoss, .ref m_wasValue, .ref m_wasNumber, .ref m_path, .int 0, .ref m_heavyValue, .ref m_heavyTimes, .int 0, .ref m_fewest, .ref m_which, .ref m_met, .int 0]))]) [7] (by decide) rfl
  have hFc := va_free (wc := [(m0, .inr (5, [.ref m_row, .int 0, .int 2, .int 0, .ref m_many, .ref m_loss, .ref m_less, .ref m_voteValue, .ref m_voteNumber, .ref m_allValue, .ref m_allNumber, .int 0, .ref m_nodeL, .ref m_nodeR, .int 0, .ref m_part, .int 0, .ref m_wasMany, .ref m_wasLoss, .ref m_wasValue, .ref m_wasNumber, .ref m_path, .int 0, .ref m_heavyValue, .ref m_heavyTimes, .int 0, .ref m_fewest, .ref m_which, .ref m_met, .int 0]))]) hD hS hA [7] rfl
  refine va_calli (va_runV (As := [.int (xs (1 : Int32).toNatClampNeg), .int (xs (2 : Int32).toNatClampNeg), .int (xs (3 : Int32).toNatClampNeg), .int (xs (4 : Int32).toNatClampNeg), .int (xs (5 : Int32).toNatClampNeg), .int (xs (6 : Int32).toNatClampNeg)]) (rest := []) ⟨hx, hb, hml, hown, (lwC_X5_heavyAt hts0)⟩ (c_X5_heavyAt l dC dI m0 m_row m_many m_loss m_less m_voteValue m_voteNumber m_allValue m_allNumber m_nodeL m_nodeR m_part m_wasMany m_wasLoss m_wasValue m_wasNumber m_path m_heavyValue m_heavyTimes m_fewest m_which m_met (xs (1 : Int32).toNatClampNeg) (xs (2 : Int32).toNatClampNeg) (xs (3 : Int32).toNatClampNeg) (xs (4 : Int32).toNatClampNeg) (xs (5 : Int32).toNatClampNeg) (xs (6 : Int32).toNatClampNeg) H.size) (cwV 6 (lwC_X5_heavyAt hts0) lwG_X5_heavyAt rfl rfl rfl (by decide +kernel) ⟨Nat.le_of_ble_eq_true rfl, Nat.le_of_ble_eq_true rfl⟩) ⟨fun a U g mk q => by obtain ⟨q0, q1, qP, qK, qD⟩ := q; exact ⟨q0, q1, qP, va_K.moved (u := U) (U := U.calling g mk a) (Vm.Alike.refl U.vm) qK, qD⟩, va_recv hKc hPc (ci := 5) (q0 := 0) rfl rfl, fun U hU hW => ⟨rfl, by rw [hU], by rw [hU]; exact hPc, va_K.moved hW.alike hKc, hDc.weaken (fun _ _ _ _ => trivial)⟩⟩ rfl rfl hl.1 rfl (lv_room (Nat.le_of_ble_eq_true rfl)) dL_law_1441 ⟨Nat.le_of_ble_eq_true rfl, Nat.le_of_ble_eq_true rfl⟩) hS (fun q _ h => hFc q h) hFc (fun r_2 u t H1 locs ht hvm w_2 hB hz1 hk1 hS => ?_)
  obtain ⟨hP1, hK1, hD1⟩ := hB
  rw [ht] at hP1
  have hK1 := va_K.moved hvm.symm hK1
  obtain ⟨hP, hD⟩ := va_join (wr := [(x0, .inr (4, [.ref x_row, .ref x_tree, .ref x_tally, .ref x_votes, .ref x_otherVotes, .ref x_wins, .ref x_fewest, .int 2, .int 1])), (x_row, .inr (0, [.ref x_cell, .int 0])), (x_cell, .inl (cyI, 160, .inl fc)), (x_tree, .inr (2, [.ref x_row, .ref x_joined, .ref x_from, .ref x_to, .ref x_size, .ref x_lossOf, .ref x_lessBy, .ref x_tvalue, .ref x_tnumber, .int 0, .int 0])), (x_from, .inl (cyI, 319, .inl ff)), (x_to, .inl (cyI, 319, .inl ft)), (x_tally, .inr (1, [.ref x_kind, .ref x_often, .int 0, .int 0])), (m_row, .inl (cyI, 160, .inl fm))]) (w1 := [(m0, .inr (5, [.ref m_row, .int 0, .int 2, .int 1, .ref m_many, .ref m_loss, .ref m_less, .ref m_voteValue, .ref m_voteNumber, .ref m_allValue, .ref m_allNumber, .int 0, .ref m_nodeL, .ref m_nodeR, .int 0, .ref m_part, .int 0, .ref m_wasMany, .ref m_wasLoss, .ref m_wasValue, .ref m_wasNumber, .ref m_path, .int 0, .ref m_heavyValue, .ref m_heavyTimes, .int 0, .ref m_fewest, .ref m_which, .ref m_met, .int 0]))]) hP hD [7] [0, 1, 2, 3, 4, 5, 6, 8] rfl rfl (by decide) (by decide) hk1 hFc hP1 hD1
  clear hP1 hD1 hK1 hk1 hz1 hFc hDc hPc hKc
  generalize H1 = H at hP hS ⊢
  have hP : va_P (dC, dI) vwCl [(x0, .inr (4, [.ref x_row, .ref x_tree, .ref x_tally, .ref x_votes, .ref x_otherVotes, .ref x_wins, .ref x_fewest, .int 2, .int 1])), (x_row, .inr (0, [.ref x_cell, .int 0])), (x_cell, .inl (cyI, 160, .inl fc)), (x_tree, .inr (2, [.ref x_row, .ref x_joined, .ref x_from, .ref x_to, .ref x_size, .ref x_lossOf, .ref x_lessBy, .ref x_tvalue, .ref x_tnumber, .int 0, .int 0])), (x_from, .inl (cyI, 319, .inl ff)), (x_to, .inl (cyI, 319, .inl ft)), (x_tally, .inr (1, [.ref x_kind, .ref x_often, .int 0, .int 0])), (m_row, .inl (cyI, 160, .inl fm)), (m0, .inr (5, [.ref m_row, .int 0, .int 2, .int 1, .ref m_many, .ref m_loss, .ref m_less, .ref m_voteValue, .ref m_voteNumber, .ref m_allValue, .ref m_allNumber, .int 0, .ref m_nodeL, .ref m_nodeR, .int 0, .ref m_part, .int 0, .ref m_wasMany, .ref m_wasLoss, .ref m_wasValue, .ref m_wasNumber, .ref m_path, .int 0, .ref m_heavyValue, .ref m_heavyTimes, .int 0, .ref m_fewest, .ref m_which, .ref m_met, .int 0]))] H := hP
  have hD : va_D (fun q : Nat => s.heap.size ≤ q) [(x0, .inr (4, [.ref x_row, .ref x_tree, .ref x_tally, .ref x_votes, .ref x_otherVotes, .ref x_wins, .ref x_fewest, .int 2, .int 1])), (x_row, .inr (0, [.ref x_cell, .int 0])), (x_cell, .inl (cyI, 160, .inl fc)), (x_tree, .inr (2, [.ref x_row, .ref x_joined, .ref x_from, .ref x_to, .ref x_size, .ref x_lossOf, .ref x_lessBy, .ref x_tvalue, .ref x_tnumber, .int 0, .int 0])), (x_from, .inl (cyI, 319, .inl ff)), (x_to, .inl (cyI, 319, .inl ft)), (x_tally, .inr (1, [.ref x_kind, .ref x_often, .int 0, .int 0])), (m_row, .inl (cyI, 160, .inl fm)), (m0, .inr (5, [.ref m_row, .int 0, .int 2, .int 1, .ref m_many, .ref m_loss, .ref m_less, .ref m_voteValue, .ref m_voteNumber, .ref m_allValue, .ref m_allNumber, .int 0, .ref m_nodeL, .ref m_nodeR, .int 0, .ref m_part, .int 0, .ref m_wasMany, .ref m_wasLoss, .ref m_wasValue, .ref m_wasNumber, .ref m_path, .int 0, .ref m_heavyValue, .ref m_heavyTimes, .int 0, .ref m_fewest, .ref m_which, .ref m_met, .int 0]))] := hD
  subst w_2
  refine lv_istore (lv' := [(6, .int 0), (5, .int 1), (4, .int 0), (3, .ref q_o), (2, .ref m0), (1, .ref x0), (0, .ref b)]) hx hb dL_law_1444 hl (by decide) rfl (fun ls hl => ?_)
  refine lv_aload_n hx hb dL_law_1446 rfl (lv_at hl 4 rfl) ?_
  have hPc := hP.sub (ws' := [(m0, .inr (5, [.ref m_row, .int 0, .int 2, .int 1, .ref m_many, .ref m_loss, .ref m_less, .ref m_voteValue, .ref m_voteNumber, .ref m_allValue, .ref m_allNumber, .int 0, .ref m_nodeL, .ref m_nodeR, .int 0, .ref m_part, .int 0, .ref m_wasMany, .ref m_wasLoss, .ref m_wasValue, .ref m_wasNumber, .ref m_path, .int 0, .ref m_heavyValue, .ref m_heavyTimes, .int 0, .ref m_fewest, .ref m_which, .ref m_met, .int 0]))]) [8] rfl
  have hKc := hK.sub (tys' := []) [] rfl
  refine vp_callSi (W.runV (As := []) (rest := []) ⟨hx, hb, hml, hown, (lwC_X5_thrown hts0)⟩ (c_X5_thrown l dC dI m0 m_row m_many m_loss m_less m_voteValue m_voteNumber m_allValue m_allNumber m_nodeL m_nodeR m_part m_wasMany m_wasLoss m_wasValue m_wasNumber m_path m_heavyValue m_heavyTimes m_fewest m_which m_met 1) (cwV 0 (lwC_X5_thrown hts0) lwG_X5_thrown rfl rfl rfl (by decide +kernel) ⟨Nat.le_of_ble_eq_true rfl, Nat.le_of_ble_eq_true rfl⟩) ⟨fun a U g mk q => by obtain ⟨q0, qP, qK⟩ := q; exact ⟨q0, qP, va_K.moved (u := U) (U := U.calling g mk a) (Vm.Alike.refl U.vm) qK⟩, va_recv hKc hPc (ci := 5) (q0 := 0) rfl rfl, fun U hU hW => ⟨rfl, by rw [hU]; exact hPc, va_K.moved hW.alike hKc⟩⟩ rfl rfl hl.1 rfl (lv_room (Nat.le_of_ble_eq_true rfl)) dL_law_1447 ⟨Nat.le_of_ble_eq_true rfl, Nat.le_of_ble_eq_true rfl⟩) (fun r_3 w_3 => ?_)
  subst w_3
  refine lv_iload hx hb dL_law_1450 (lv_at hl 1 rfl) ?_
  refine lv_icmp_eq (tgt := 1457) hx hb dL_law_1452 (by decide) (fun c_4 => ?_) (fun c_4 => ?_)
  · refine lv_iload hx hb dL_law_1457 (lv_at hl 1 rfl) ?_
    refine lv_if_ne (tgt := 1474) hx hb dL_law_1459 (by decide) (fun c_5 => ?_) (fun c_5 => ?_)
    · refine lv_goto (tgt := 2400) hx hb dL_law_1474 (by decide) ?_
      refine W.widen (k := 100) (n := 30000) (Nat.le_of_ble_eq_true rfl) (Nat.le_of_ble_eq_true rfl) ?_
      exact lc_end C0 hS (lv_sub hl [2, 6] rfl)
    · exact absurd c_5 (by decide)
  · exact absurd c_4 (by decide)

set_option maxHeartbeats 4000000 in
set_option maxRecDepth 100000 in
theorem lc_27 {p : Program} {l : Launch} {e : Env} {s : State} {m : MethodId} {below : List Frame} {meth : Method} {c : Code} {dC : Nat → ClassId} {dI : Nat → Nat → Nat} {b : Nat} {xs : Nat → Int32} (hl0 : l.stackTraces = false) (C0 : lw_At p s m meth c b 8 xs) (hth : ki_Th s) {x0 x_row x_tree x_tally x_votes x_otherVotes x_wins x_fewest x_cell x_joined x_from x_to x_size x_lossOf x_lessBy x_tvalue x_tnumber x_kind x_often m0 m_row m_many m_loss m_less m_voteValue m_voteNumber m_allValue m_allNumber m_nodeL m_nodeR m_part m_wasMany m_wasLoss m_wasValue m_wasNumber m_path m_heavyValue m_heavyTimes m_fewest m_which m_met q_o : Nat} {cyI : ClassId} {fc ff ft fm : Nat → Int32} {H : Heap} {locs : List Loc} (hK : va_K (dC, dI) vwCl [(cyI, .int)] s) (hP : va_P (dC, dI) vwCl [(x0, .inr (4, [.ref x_row, .ref x_tree, .ref x_tally, .ref x_votes, .ref x_otherVotes, .ref x_wins, .ref x_fewest, .int 2, .int 1])), (x_row, .inr (0, [.ref x_cell, .int 0])), (x_cell, .inl (cyI, 160, .inl fc)), (x_tree, .inr (2, [.ref x_row, .ref x_joined, .ref x_from, .ref x_to, .ref x_size, .ref x_lossOf, .ref x_lessBy, .ref x_tvalue, .ref x_tnumber, .int 0, .int 0])), (x_from, .inl (cyI, 319, .inl ff)), (x_to, .inl (cyI, 319, .inl ft)), (x_tally, .inr (1, [.ref x_kind, .ref x_often, .int 0, .int 0])), (m0, .inr (5, [.ref m_row, .int 0, .int 2, .int 0, .ref m_many, .ref m_loss, .ref m_less, .ref m_voteValue, .ref m_voteNumber, .ref m_allValue, .ref m_allNumber, .int 0, .ref m_nodeL, .ref m_nodeR, .int 0, .ref m_part, .int 0, .ref m_wasMany, .ref m_wasLoss, .ref m_wasValue, .ref m_wasNumber, .ref m_path, .int 0, .ref m_heavyValue, .ref m_heavyTimes, .int 0, .ref m_fewest, .ref m_which, .ref m_met, .int 0])), (m_row, .inl (cyI, 160, .inl fm))] H) (hD : va_D (fun q : Nat => s.heap.size ≤ q) [(x0, .inr (4, [.ref x_row, .ref x_tree, .ref x_tally, .ref x_votes, .ref x_otherVotes, .ref x_wins, .ref x_fewest, .int 2, .int 1])), (x_row, .inr (0, [.ref x_cell, .int 0])), (x_cell, .inl (cyI, 160, .inl fc)), (x_tree, .inr (2, [.ref x_row, .ref x_joined, .ref x_from, .ref x_to, .ref x_size, .ref x_lossOf, .ref x_lessBy, .ref x_tvalue, .ref x_tnumber, .int 0, .int 0])), (x_from, .inl (cyI, 319, .inl ff)), (x_to, .inl (cyI, 319, .inl ft)), (x_tally, .inr (1, [.ref x_kind, .ref x_often, .int 0, .int 0])), (m0, .inr (5, [.ref m_row, .int 0, .int 2, .int 0, .ref m_many, .ref m_loss, .ref m_less, .ref m_voteValue, .ref m_voteNumber, .ref m_allValue, .ref m_allNumber, .int 0, .ref m_nodeL, .ref m_nodeR, .int 0, .ref m_part, .int 0, .ref m_wasMany, .ref m_wasLoss, .ref m_wasValue, .ref m_wasNumber, .ref m_path, .int 0, .ref m_heavyValue, .ref m_heavyTimes, .int 0, .ref m_fewest, .ref m_which, .ref m_met, .int 0])), (m_row, .inl (cyI, 160, .inl fm))]) (hS : va_S (fun q : Nat => s.heap.size ≤ q) s.heap H locs) {ls : Array Slot} (hl : lv_has ls 7 [(4, .int 0), (3, .ref q_o), (2, .ref m0), (1, .ref x0), (0, .ref b)]) : W p l e room_1 s m #[Value.ref b] below meth c H locs 60 20000 (lw_Z below #[Value.ref b] s) (F0 m 1477 ls []) := by
  obtain ⟨hx, hb, hr, hml, hown, hts0, hX, hbl, hlocks, hgv⟩ := id C0
  have hts := hts0
  have hA : ∀ q : Nat, s.heap.size ≤ q → (fun q : Nat => s.heap.size ≤ q) q := fun _ h => h
  have hbA : ¬ (fun q : Nat => s.heap.size ≤ q) b := Nat.not_le.mpr hbl
  have hown : s.vm.findClass RL = some m.cls := hown
  have hb : c.code = cL_law := hb
  refine lv_aload_n hx hb dL_law_1477 rfl (lv_at hl 3 rfl) ?_
  refine lv_aload_n hx hb dL_law_1478 rfl (lv_at hl 4 rfl) ?_
  refine lv_iload hx hb dL_law_1479 (lv_at hl 0 rfl) ?_
  refine lv_iconst (v := 1) hx hb dL_law_1481 (by decide) ?_
  refine lv_iadd hx hb dL_law_1482 ?_
  refine W.eq (g2 := F0 m 1483 ls [.int 1, .ref b, .ref x0]) (by first | rfl | (congr 2; decide)) ?_
  refine va_sld hx hb hX hbl hbA hS (i := 1) (ki_inl (by decide)) dL_law_1483 ?_
  refine lv_aload_n hx hb dL_law_1484 rfl (lv_at hl 4 rfl) ?_
  refine lv_iload hx hb dL_law_1485 (lv_at hl 0 rfl) ?_
  refine lv_iconst (v := 2) hx hb dL_law_1487 (by decide) ?_
  refine lv_iadd hx hb dL_law_1488 ?_
  refine W.eq (g2 := F0 m 1489 ls [.int 2, .ref b, .int (xs (1 : Int32).toNatClampNeg), .ref x0]) (by first | rfl | (congr 2; decide)) ?_
  refine va_sld hx hb hX hbl hbA hS (i := 2) (ki_inl (by decide)) dL_law_1489 ?_
  refine lv_aload_n hx hb dL_law_1490 rfl (lv_at hl 4 rfl) ?_
  refine lv_iload hx hb dL_law_1491 (lv_at hl 0 rfl) ?_
  refine lv_iconst (v := 3) hx hb dL_law_1493 (by decide) ?_
  refine lv_iadd hx hb dL_law_1494 ?_
  refine W.eq (g2 := F0 m 1495 ls [.int 3, .ref b, .int (xs (2 : Int32).toNatClampNeg), .int (xs (1 : Int32).toNatClampNeg), .ref x0]) (by first | rfl | (congr 2; decide)) ?_
  refine va_sld hx hb hX hbl hbA hS (i := 3) (ki_inl (by decide)) dL_law_1495 ?_
  refine lv_aload_n hx hb dL_law_1496 rfl (lv_at hl 4 rfl) ?_
  refine lv_iload hx hb dL_law_1497 (lv_at hl 0 rfl) ?_
  refine lv_iconst (v := 4) hx hb dL_law_1499 (by decide) ?_
  refine lv_iadd hx hb dL_law_1500 ?_
  refine W.eq (g2 := F0 m 1501 ls [.int 4, .ref b, .int (xs (3 : Int32).toNatClampNeg), .int (xs (2 : Int32).toNatClampNeg), .int (xs (1 : Int32).toNatClampNeg), .ref x0]) (by first | rfl | (congr 2; decide)) ?_
  refine va_sld hx hb hX hbl hbA hS (i := 4) (ki_inl (by decide)) dL_law_1501 ?_
  have hPc := hP.sub (ws' := [(x0, .inr (4, [.ref x_row, .ref x_tree, .ref x_tally, .ref x_votes, .ref x_otherVotes, .ref x_wins, .ref x_fewest, .int 2, .int 1])), (x_row, .inr (0, [.ref x_cell, .int 0]))]) [0, 1] rfl
  have hKc := hK.sub (tys' := []) [] rfl
  refine vp_callSi (W.runV (As := [.int (xs (1 : Int32).toNatClampNeg), .int (xs (2 : Int32).toNatClampNeg), .int (xs (3 : Int32).toNatClampNeg), .int (xs (4 : Int32).toNatClampNeg)]) (rest := []) ⟨hx, hb, hml, hown, (lwC_X4_failed hts0)⟩ (c_X4_failed l dC dI x0 x_row x_tree x_tally x_votes x_otherVotes x_wins x_fewest x_cell (xs (1 : Int32).toNatClampNeg) (xs (2 : Int32).toNatClampNeg) (xs (3 : Int32).toNatClampNeg) (xs (4 : Int32).toNatClampNeg)) (cwV 4 (lwC_X4_failed hts0) lwG_X4_failed rfl rfl rfl (by decide +kernel) ⟨Nat.le_of_ble_eq_true rfl, Nat.le_of_ble_eq_true rfl⟩) ⟨fun a U g mk q => by obtain ⟨q0, qP, qK⟩ := q; exact ⟨q0, qP, va_K.moved (u := U) (U := U.calling g mk a) (Vm.Alike.refl U.vm) qK⟩, va_recv hKc hPc (ci := 4) (q0 := 0) rfl rfl, fun U hU hW => ⟨rfl, by rw [hU]; exact hPc, va_K.moved hW.alike hKc⟩⟩ rfl rfl hl.1 rfl (lv_room (Nat.le_of_ble_eq_true rfl)) dL_law_1502 ⟨Nat.le_of_ble_eq_true rfl, Nat.le_of_ble_eq_true rfl⟩) (fun r_1 w_1 => ?_)
  subst w_1
  refine lv_aload_n hx hb dL_law_1505 rfl (lv_at hl 2 rfl) ?_
  refine lv_aload_n hx hb dL_law_1506 rfl (lv_at hl 4 rfl) ?_
  refine lv_iload hx hb dL_law_1507 (lv_at hl 0 rfl) ?_
  refine lv_iconst (v := 1) hx hb dL_law_1509 (by decide) ?_
  refine lv_iadd hx hb dL_law_1510 ?_
  refine W.eq (g2 := F0 m 1511 ls [.int 1, .ref b, .ref m0, .int (-1)]) (by first | rfl | (congr 2; decide)) ?_
  refine va_sld hx hb hX hbl hbA hS (i := 1) (ki_inl (by decide)) dL_law_1511 ?_
  refine lv_aload_n hx hb dL_law_1512 rfl (lv_at hl 4 rfl) ?_
  refine lv_iload hx hb dL_law_1513 (lv_at hl 0 rfl) ?_
  refine lv_iconst (v := 2) hx hb dL_law_1515 (by decide) ?_
  refine lv_iadd hx hb dL_law_1516 ?_
  refine W.eq (g2 := F0 m 1517 ls [.int 2, .ref b, .int (xs (1 : Int32).toNatClampNeg), .ref m0, .int (-1)]) (by first | rfl | (congr 2; decide)) ?_
  refine va_sld hx hb hX hbl hbA hS (i := 2) (ki_inl (by decide)) dL_law_1517 ?_
  refine lv_aload_n hx hb dL_law_1518 rfl (lv_at hl 4 rfl) ?_
  refine lv_iload hx hb dL_law_1519 (lv_at hl 0 rfl) ?_
  refine lv_iconst (v := 3) hx hb dL_law_1521 (by decide) ?_
  refine lv_iadd hx hb dL_law_1522 ?_
  refine W.eq (g2 := F0 m 1523 ls [.int 3, .ref b, .int (xs (2 : Int32).toNatClampNeg), .int (xs (1 : Int32).toNatClampNeg), .ref m0, .int (-1)]) (by first | rfl | (congr 2; decide)) ?_
  refine va_sld hx hb hX hbl hbA hS (i := 3) (ki_inl (by decide)) dL_law_1523 ?_
  refine lv_aload_n hx hb dL_law_1524 rfl (lv_at hl 4 rfl) ?_
  refine lv_iload hx hb dL_law_1525 (lv_at hl 0 rfl) ?_
  refine lv_iconst (v := 4) hx hb dL_law_1527 (by decide) ?_
  refine lv_iadd hx hb dL_law_1528 ?_
  refine W.eq (g2 := F0 m 1529 ls [.int 4, .ref b, .int (xs (3 : Int32).toNatClampNeg), .int (xs (2 : Int32).toNatClampNeg), .int (xs (1 : Int32).toNatClampNeg), .ref m0, .int (-1)]) (by first | rfl | (congr 2; decide)) ?_
  refine va_sld hx hb hX hbl hbA hS (i := 4) (ki_inl (by decide)) dL_law_1529 ?_
  have hPc := hP.sub (ws' := [(m0, .inr (5, [.ref m_row, .int 0, .int 2, .int 0, .ref m_many, .ref m_loss, .ref m_less, .ref m_voteValue, .ref m_voteNumber, .ref m_allValue, .ref m_allNumber, .int 0, .ref m_nodeL, .ref m_nodeR, .int 0, .ref m_part, .int 0, .ref m_wasMany, .ref m_wasLoss, .ref m_wasValue, .ref m_wasNumber, .ref m_path, .int 0, .ref m_heavyValue, .ref m_heavyTimes, .int 0, .ref m_fewest, .ref m_which, .ref m_met, .int 0]))]) [7] rfl
  have hKc := hK.sub (tys' := []) [] rfl
  have hDc := hD.sub (ws' := [(m0, .inr (5, [.ref m_row, .int 0, .int 2, .int 0, .ref m_many, .ref m_loss, .ref m_less, .ref m_voteValue, .ref m_voteNumber, .ref m_allValue, .ref m_allNumber, .int 0, .ref m_nodeL, .ref m_nodeR, .int 0, .ref m_part, .int 0, .ref m_wasMany, .ref m_wasLoss, .ref m_wasValue, .ref m_wasNumber, .ref m_path, .int 0, .ref m_heavyValue, .ref m_heavyTimes, .int 0, .ref m_fewest, .ref m_which, .ref m_met, .int 0]))]) [7] (by decide) rfl
  have hFc := va_free (wc := [(m0, .inr (5, [.ref m_row, .int 0, .int 2, .int 0, .ref m_many, .ref m_loss, .ref m_less, .ref m_voteValue, .ref m_voteNumber, .ref m_allValue, .ref m_allNumber, .int 0, .ref m_nodeL, .ref m_nodeR, .int 0, .ref m_part, .int 0, .ref m_wasMany, .ref m_wasLoss, .ref m_wasValue, .ref m_wasNumber, .ref m_path, .int 0, .ref m_heavyValue, .ref m_heavyTimes, .int 0, .ref m_fewest, .ref m_which, .ref m_met, .int 0]))]) hD hS hA [7] rfl
  refine va_calli (va_runV (As := [.int (xs (1 : Int32).toNatClampNeg), .int (xs (2 : Int32).toNatClampNeg), .int (xs (3 : Int32).toNatClampNeg), .int (xs (4 : Int32).toNatClampNeg)]) (rest := [.int (-1)]) ⟨hx, hb, hml, hown, (lwC_X5_failed hts0)⟩ (c_X5_failed l dC dI m0 m_row m_many m_loss m_less m_voteValue m_voteNumber m_allValue m_allNumber m_nodeL m_nodeR m_part m_wasMany m_wasLoss m_wasValue m_wasNumber m_path m_heavyValue m_heavyTimes m_fewest m_which m_met (xs (1 : Int32).toNatClampNeg) (xs (2 : Int32).toNatClampNeg) (xs (3 : Int32).toNatClampNeg) (xs (4 : Int32).toNatClampNeg) H.size) (cwV 4 (lwC_X5_failed hts0) lwG_X5_failed rfl rfl rfl (by decide +kernel) ⟨Nat.le_of_ble_eq_true rfl, Nat.le_of_ble_eq_true rfl⟩) ⟨fun a U g mk q => by obtain ⟨q0, q1, qP, qK, qD⟩ := q; exact ⟨q0, q1, qP, va_K.moved (u := U) (U := U.calling g mk a) (Vm.Alike.refl U.vm) qK, qD⟩, va_recv hKc hPc (ci := 5) (q0 := 0) rfl rfl, fun U hU hW => ⟨rfl, by rw [hU], by rw [hU]; exact hPc, va_K.moved hW.alike hKc, hDc.weaken (fun _ _ _ _ => trivial)⟩⟩ rfl rfl hl.1 rfl (lv_room (Nat.le_of_ble_eq_true rfl)) dL_law_1530 ⟨Nat.le_of_ble_eq_true rfl, Nat.le_of_ble_eq_true rfl⟩) hS (fun q _ h => hFc q h) hFc (fun r_2 u t H1 locs ht hvm w_2 hB hz1 hk1 hS => ?_)
  obtain ⟨hP1, hK1, hD1⟩ := hB
  rw [ht] at hP1
  have hK1 := va_K.moved hvm.symm hK1
  obtain ⟨hP, hD⟩ := va_join (wr := [(x0, .inr (4, [.ref x_row, .ref x_tree, .ref x_tally, .ref x_votes, .ref x_otherVotes, .ref x_wins, .ref x_fewest, .int 2, .int 1])), (x_row, .inr (0, [.ref x_cell, .int 0])), (x_cell, .inl (cyI, 160, .inl fc)), (x_tree, .inr (2, [.ref x_row, .ref x_joined, .ref x_from, .ref x_to, .ref x_size, .ref x_lossOf, .ref x_lessBy, .ref x_tvalue, .ref x_tnumber, .int 0, .int 0])), (x_from, .inl (cyI, 319, .inl ff)), (x_to, .inl (cyI, 319, .inl ft)), (x_tally, .inr (1, [.ref x_kind, .ref x_often, .int 0, .int 0])), (m_row, .inl (cyI, 160, .inl fm))]) (w1 := []) hP hD [7] [0, 1, 2, 3, 4, 5, 6, 8] rfl rfl (by decide) (by decide) hk1 hFc hP1 hD1
  clear hP1 hD1 hK1 hk1 hz1 hFc hDc hPc hKc
  generalize H1 = H at hP hS ⊢
  have hP : va_P (dC, dI) vwCl [(x0, .inr (4, [.ref x_row, .ref x_tree, .ref x_tally, .ref x_votes, .ref x_otherVotes, .ref x_wins, .ref x_fewest, .int 2, .int 1])), (x_row, .inr (0, [.ref x_cell, .int 0])), (x_cell, .inl (cyI, 160, .inl fc)), (x_tree, .inr (2, [.ref x_row, .ref x_joined, .ref x_from, .ref x_to, .ref x_size, .ref x_lossOf, .ref x_lessBy, .ref x_tvalue, .ref x_tnumber, .int 0, .int 0])), (x_from, .inl (cyI, 319, .inl ff)), (x_to, .inl (cyI, 319, .inl ft)), (x_tally, .inr (1, [.ref x_kind, .ref x_often, .int 0, .int 0])), (m_row, .inl (cyI, 160, .inl fm))] H := hP
  have hD : va_D (fun q : Nat => s.heap.size ≤ q) [(x0, .inr (4, [.ref x_row, .ref x_tree, .ref x_tally, .ref x_votes, .ref x_otherVotes, .ref x_wins, .ref x_fewest, .int 2, .int 1])), (x_row, .inr (0, [.ref x_cell, .int 0])), (x_cell, .inl (cyI, 160, .inl fc)), (x_tree, .inr (2, [.ref x_row, .ref x_joined, .ref x_from, .ref x_to, .ref x_size, .ref x_lossOf, .ref x_lessBy, .ref x_tvalue, .ref x_tnumber, .int 0, .int 0])), (x_from, .inl (cyI, 319, .inl ff)), (x_to, .inl (cyI, 319, .inl ft)), (x_tally, .inr (1, [.ref x_kind, .ref x_often, .int 0, .int 0])), (m_row, .inl (cyI, 160, .inl fm))] := hD
  subst w_2
  refine lv_icmp_eq (tgt := 2400) hx hb dL_law_1533 (by decide) (fun c_3 => ?_) (fun c_3 => ?_)
  · refine W.widen (k := 100) (n := 30000) (Nat.le_of_ble_eq_true rfl) (Nat.le_of_ble_eq_true rfl) ?_
    exact lc_end C0 hS (lv_sub hl [0, 4] rfl)
  · exact absurd c_3 (by decide)

set_option maxHeartbeats 4000000 in
set_option maxRecDepth 100000 in
theorem lc_28 {p : Program} {l : Launch} {e : Env} {s : State} {m : MethodId} {below : List Frame} {meth : Method} {c : Code} {dC : Nat → ClassId} {dI : Nat → Nat → Nat} {b : Nat} {xs : Nat → Int32} (hl0 : l.stackTraces = false) (C0 : lw_At p s m meth c b 8 xs) (hth : ki_Th s) {x0 x_row x_tree x_tally x_votes x_otherVotes x_wins x_fewest x_cell x_joined x_from x_to x_size x_lossOf x_lessBy x_tvalue x_tnumber x_kind x_often m0 m_row m_many m_loss m_less m_voteValue m_voteNumber m_allValue m_allNumber m_nodeL m_nodeR m_part m_wasMany m_wasLoss m_wasValue m_wasNumber m_path m_heavyValue m_heavyTimes m_fewest m_which m_met q_o : Nat} {cyI : ClassId} {fc ff ft fm : Nat → Int32} {H : Heap} {locs : List Loc} (hK : va_K (dC, dI) vwCl [(cyI, .int)] s) (hP : va_P (dC, dI) vwCl [(x0, .inr (4, [.ref x_row, .ref x_tree, .ref x_tally, .ref x_votes, .ref x_otherVotes, .ref x_wins, .ref x_fewest, .int 2, .int 1])), (x_row, .inr (0, [.ref x_cell, .int 0])), (x_cell, .inl (cyI, 160, .inl fc)), (x_tree, .inr (2, [.ref x_row, .ref x_joined, .ref x_from, .ref x_to, .ref x_size, .ref x_lossOf, .ref x_lessBy, .ref x_tvalue, .ref x_tnumber, .int 0, .int 0])), (x_from, .inl (cyI, 319, .inl ff)), (x_to, .inl (cyI, 319, .inl ft)), (x_tally, .inr (1, [.ref x_kind, .ref x_often, .int 0, .int 0])), (m0, .inr (5, [.ref m_row, .int 0, .int 2, .int 0, .ref m_many, .ref m_loss, .ref m_less, .ref m_voteValue, .ref m_voteNumber, .ref m_allValue, .ref m_allNumber, .int 0, .ref m_nodeL, .ref m_nodeR, .int 0, .ref m_part, .int 0, .ref m_wasMany, .ref m_wasLoss, .ref m_wasValue, .ref m_wasNumber, .ref m_path, .int 0, .ref m_heavyValue, .ref m_heavyTimes, .int 0, .ref m_fewest, .ref m_which, .ref m_met, .int 0])), (m_row, .inl (cyI, 160, .inl fm))] H) (hD : va_D (fun q : Nat => s.heap.size ≤ q) [(x0, .inr (4, [.ref x_row, .ref x_tree, .ref x_tally, .ref x_votes, .ref x_otherVotes, .ref x_wins, .ref x_fewest, .int 2, .int 1])), (x_row, .inr (0, [.ref x_cell, .int 0])), (x_cell, .inl (cyI, 160, .inl fc)), (x_tree, .inr (2, [.ref x_row, .ref x_joined, .ref x_from, .ref x_to, .ref x_size, .ref x_lossOf, .ref x_lessBy, .ref x_tvalue, .ref x_tnumber, .int 0, .int 0])), (x_from, .inl (cyI, 319, .inl ff)), (x_to, .inl (cyI, 319, .inl ft)), (x_tally, .inr (1, [.ref x_kind, .ref x_often, .int 0, .int 0])), (m0, .inr (5, [.ref m_row, .int 0, .int 2, .int 0, .ref m_many, .ref m_loss, .ref m_less, .ref m_voteValue, .ref m_voteNumber, .ref m_allValue, .ref m_allNumber, .int 0, .ref m_nodeL, .ref m_nodeR, .int 0, .ref m_part, .int 0, .ref m_wasMany, .ref m_wasLoss, .ref m_wasValue, .ref m_wasNumber, .ref m_path, .int 0, .ref m_heavyValue, .ref m_heavyTimes, .int 0, .ref m_fewest, .ref m_which, .ref m_met, .int 0])), (m_row, .inl (cyI, 160, .inl fm))]) (hS : va_S (fun q : Nat => s.heap.size ≤ q) s.heap H locs) {ls : Array Slot} (hl : lv_has ls 7 [(4, .int 0), (3, .ref q_o), (2, .ref m0), (1, .ref x0), (0, .ref b)]) : W p l e room_1 s m #[Value.ref b] below meth c H locs 60 20000 (lw_Z below #[Value.ref b] s) (F0 m 1538 ls []) := by
  obtain ⟨hx, hb, hr, hml, hown, hts0, hX, hbl, hlocks, hgv⟩ := id C0
  have hts := hts0
  have hA : ∀ q : Nat, s.heap.size ≤ q → (fun q : Nat => s.heap.size ≤ q) q := fun _ h => h
  have hbA : ¬ (fun q : Nat => s.heap.size ≤ q) b := Nat.not_le.mpr hbl
  have hown : s.vm.findClass RL = some m.cls := hown
  have hb : c.code = cL_law := hb
  refine lv_aload_n hx hb dL_law_1538 rfl (lv_at hl 3 rfl) ?_
  refine lv_aload_n hx hb dL_law_1539 rfl (lv_at hl 4 rfl) ?_
  refine lv_iload hx hb dL_law_1540 (lv_at hl 0 rfl) ?_
  refine lv_iconst (v := 1) hx hb dL_law_1542 (by decide) ?_
  refine lv_iadd hx hb dL_law_1543 ?_
  refine W.eq (g2 := F0 m 1544 ls [.int 1, .ref b, .ref x0]) (by first | rfl | (congr 2; decide)) ?_
  refine va_sld hx hb hX hbl hbA hS (i := 1) (ki_inl (by decide)) dL_law_1544 ?_
  refine lv_aload_n hx hb dL_law_1545 rfl (lv_at hl 4 rfl) ?_
  refine lv_iload hx hb dL_law_1546 (lv_at hl 0 rfl) ?_
  refine lv_iconst (v := 2) hx hb dL_law_1548 (by decide) ?_
  refine lv_iadd hx hb dL_law_1549 ?_
  refine W.eq (g2 := F0 m 1550 ls [.int 2, .ref b, .int (xs (1 : Int32).toNatClampNeg), .ref x0]) (by first | rfl | (congr 2; decide)) ?_
  refine va_sld hx hb hX hbl hbA hS (i := 2) (ki_inl (by decide)) dL_law_1550 ?_
  refine lv_aload_n hx hb dL_law_1551 rfl (lv_at hl 4 rfl) ?_
  refine lv_iload hx hb dL_law_1552 (lv_at hl 0 rfl) ?_
  refine lv_iconst (v := 3) hx hb dL_law_1554 (by decide) ?_
  refine lv_iadd hx hb dL_law_1555 ?_
  refine W.eq (g2 := F0 m 1556 ls [.int 3, .ref b, .int (xs (2 : Int32).toNatClampNeg), .int (xs (1 : Int32).toNatClampNeg), .ref x0]) (by first | rfl | (congr 2; decide)) ?_
  refine va_sld hx hb hX hbl hbA hS (i := 3) (ki_inl (by decide)) dL_law_1556 ?_
  refine lv_aload_n hx hb dL_law_1557 rfl (lv_at hl 4 rfl) ?_
  refine lv_iload hx hb dL_law_1558 (lv_at hl 0 rfl) ?_
  refine lv_iconst (v := 4) hx hb dL_law_1560 (by decide) ?_
  refine lv_iadd hx hb dL_law_1561 ?_
  refine W.eq (g2 := F0 m 1562 ls [.int 4, .ref b, .int (xs (3 : Int32).toNatClampNeg), .int (xs (2 : Int32).toNatClampNeg), .int (xs (1 : Int32).toNatClampNeg), .ref x0]) (by first | rfl | (congr 2; decide)) ?_
  refine va_sld hx hb hX hbl hbA hS (i := 4) (ki_inl (by decide)) dL_law_1562 ?_
  have hPc := hP.sub (ws' := [(x0, .inr (4, [.ref x_row, .ref x_tree, .ref x_tally, .ref x_votes, .ref x_otherVotes, .ref x_wins, .ref x_fewest, .int 2, .int 1])), (x_row, .inr (0, [.ref x_cell, .int 0]))]) [0, 1] rfl
  have hKc := hK.sub (tys' := []) [] rfl
  refine vp_callSi (W.runV (As := [.int (xs (1 : Int32).toNatClampNeg), .int (xs (2 : Int32).toNatClampNeg), .int (xs (3 : Int32).toNatClampNeg), .int (xs (4 : Int32).toNatClampNeg)]) (rest := []) ⟨hx, hb, hml, hown, (lwC_X4_least hts0)⟩ (c_X4_least l dC dI x0 x_row x_tree x_tally x_votes x_otherVotes x_wins x_fewest x_cell (xs (1 : Int32).toNatClampNeg) (xs (2 : Int32).toNatClampNeg) (xs (3 : Int32).toNatClampNeg) (xs (4 : Int32).toNatClampNeg)) (cwV 4 (lwC_X4_least hts0) lwG_X4_least rfl rfl rfl (by decide +kernel) ⟨Nat.le_of_ble_eq_true rfl, Nat.le_of_ble_eq_true rfl⟩) ⟨fun a U g mk q => by obtain ⟨q0, qP, qK⟩ := q; exact ⟨q0, qP, va_K.moved (u := U) (U := U.calling g mk a) (Vm.Alike.refl U.vm) qK⟩, va_recv hKc hPc (ci := 4) (q0 := 0) rfl rfl, fun U hU hW => ⟨rfl, by rw [hU]; exact hPc, va_K.moved hW.alike hKc⟩⟩ rfl rfl hl.1 rfl (lv_room (Nat.le_of_ble_eq_true rfl)) dL_law_1563 ⟨Nat.le_of_ble_eq_true rfl, Nat.le_of_ble_eq_true rfl⟩) (fun r_1 w_1 => ?_)
  subst w_1
  refine lv_aload_n hx hb dL_law_1566 rfl (lv_at hl 2 rfl) ?_
  refine lv_aload_n hx hb dL_law_1567 rfl (lv_at hl 4 rfl) ?_
  refine lv_iload hx hb dL_law_1568 (lv_at hl 0 rfl) ?_
  refine lv_iconst (v := 1) hx hb dL_law_1570 (by decide) ?_
  refine lv_iadd hx hb dL_law_1571 ?_
  refine W.eq (g2 := F0 m 1572 ls [.int 1, .ref b, .ref m0, .int (-1)]) (by first | rfl | (congr 2; decide)) ?_
  refine va_sld hx hb hX hbl hbA hS (i := 1) (ki_inl (by decide)) dL_law_1572 ?_
  refine lv_aload_n hx hb dL_law_1573 rfl (lv_at hl 4 rfl) ?_
  refine lv_iload hx hb dL_law_1574 (lv_at hl 0 rfl) ?_
  refine lv_iconst (v := 2) hx hb dL_law_1576 (by decide) ?_
  refine lv_iadd hx hb dL_law_1577 ?_
  refine W.eq (g2 := F0 m 1578 ls [.int 2, .ref b, .int (xs (1 : Int32).toNatClampNeg), .ref m0, .int (-1)]) (by first | rfl | (congr 2; decide)) ?_
  refine va_sld hx hb hX hbl hbA hS (i := 2) (ki_inl (by decide)) dL_law_1578 ?_
  refine lv_aload_n hx hb dL_law_1579 rfl (lv_at hl 4 rfl) ?_
  refine lv_iload hx hb dL_law_1580 (lv_at hl 0 rfl) ?_
  refine lv_iconst (v := 3) hx hb dL_law_1582 (by decide) ?_
  refine lv_iadd hx hb dL_law_1583 ?_
  refine W.eq (g2 := F0 m 1584 ls [.int 3, .ref b, .int (xs (2 : Int32).toNatClampNeg), .int (xs (1 : Int32).toNatClampNeg), .ref m0, .int (-1)]) (by first | rfl | (congr 2; decide)) ?_
  refine va_sld hx hb hX hbl hbA hS (i := 3) (ki_inl (by decide)) dL_law_1584 ?_
  refine lv_aload_n hx hb dL_law_1585 rfl (lv_at hl 4 rfl) ?_
  refine lv_iload hx hb dL_law_1586 (lv_at hl 0 rfl) ?_
  refine lv_iconst (v := 4) hx hb dL_law_1588 (by decide) ?_
  refine lv_iadd hx hb dL_law_1589 ?_
  refine W.eq (g2 := F0 m 1590 ls [.int 4, .ref b, .int (xs (3 : Int32).toNatClampNeg), .int (xs (2 : Int32).toNatClampNeg), .int (xs (1 : Int32).toNatClampNeg), .ref m0, .int (-1)]) (by first | rfl | (congr 2; decide)) ?_
  refine va_sld hx hb hX hbl hbA hS (i := 4) (ki_inl (by decide)) dL_law_1590 ?_
  have hPc := hP.sub (ws' := [(m0, .inr (5, [.ref m_row, .int 0, .int 2, .int 0, .ref m_many, .ref m_loss, .ref m_less, .ref m_voteValue, .ref m_voteNumber, .ref m_allValue, .ref m_allNumber, .int 0, .ref m_nodeL, .ref m_nodeR, .int 0, .ref m_part, .int 0, .ref m_wasMany, .ref m_wasLoss, .ref m_wasValue, .ref m_wasNumber, .ref m_path, .int 0, .ref m_heavyValue, .ref m_heavyTimes, .int 0, .ref m_fewest, .ref m_which, .ref m_met, .int 0]))]) [7] rfl
  have hKc := hK.sub (tys' := []) [] rfl
  have hDc := hD.sub (ws' := [(m0, .inr (5, [.ref m_row, .int 0, .int 2, .int 0, .ref m_many, .ref m_loss, .ref m_less, .ref m_voteValue, .ref m_voteNumber, .ref m_allValue, .ref m_allNumber, .int 0, .ref m_nodeL, .ref m_nodeR, .int 0, .ref m_part, .int 0, .ref m_wasMany, .ref m_wasLoss, .ref m_wasValue, .ref m_wasNumber, .ref m_path, .int 0, .ref m_heavyValue, .ref m_heavyTimes, .int 0, .ref m_fewest, .ref m_which, .ref m_met, .int 0]))]) [7] (by decide) rfl
  have hFc := va_free (wc := [(m0, .inr (5, [.ref m_row, .int 0, .int 2, .int 0, .ref m_many, .ref m_loss, .ref m_less, .ref m_voteValue, .ref m_voteNumber, .ref m_allValue, .ref m_allNumber, .int 0, .ref m_nodeL, .ref m_nodeR, .int 0, .ref m_part, .int 0, .ref m_wasMany, .ref m_wasLoss, .ref m_wasValue, .ref m_wasNumber, .ref m_path, .int 0, .ref m_heavyValue, .ref m_heavyTimes, .int 0, .ref m_fewest, .ref m_which, .ref m_met, .int 0]))]) hD hS hA [7] rfl
  refine va_calli (va_runV (As := [.int (xs (1 : Int32).toNatClampNeg), .int (xs (2 : Int32).toNatClampNeg), .int (xs (3 : Int32).toNatClampNeg), .int (xs (4 : Int32).toNatClampNeg)]) (rest := [.int (-1)]) ⟨hx, hb, hml, hown, (lwC_X5_least hts0)⟩ (c_X5_least l dC dI m0 m_row m_many m_loss m_less m_voteValue m_voteNumber m_allValue m_allNumber m_nodeL m_nodeR m_part m_wasMany m_wasLoss m_wasValue m_wasNumber m_path m_heavyValue m_heavyTimes m_fewest m_which m_met (xs (1 : Int32).toNatClampNeg) (xs (2 : Int32).toNatClampNeg) (xs (3 : Int32).toNatClampNeg) (xs (4 : Int32).toNatClampNeg) H.size) (cwV 4 (lwC_X5_least hts0) lwG_X5_least rfl rfl rfl (by decide +kernel) ⟨Nat.le_of_ble_eq_true rfl, Nat.le_of_ble_eq_true rfl⟩) ⟨fun a U g mk q => by obtain ⟨q0, q1, qP, qK, qD⟩ := q; exact ⟨q0, q1, qP, va_K.moved (u := U) (U := U.calling g mk a) (Vm.Alike.refl U.vm) qK, qD⟩, va_recv hKc hPc (ci := 5) (q0 := 0) rfl rfl, fun U hU hW => ⟨rfl, by rw [hU], by rw [hU]; exact hPc, va_K.moved hW.alike hKc, hDc.weaken (fun _ _ _ _ => trivial)⟩⟩ rfl rfl hl.1 rfl (lv_room (Nat.le_of_ble_eq_true rfl)) dL_law_1591 ⟨Nat.le_of_ble_eq_true rfl, Nat.le_of_ble_eq_true rfl⟩) hS (fun q _ h => hFc q h) hFc (fun r_2 u t H1 locs ht hvm w_2 hB hz1 hk1 hS => ?_)
  obtain ⟨hP1, hK1, hD1⟩ := hB
  rw [ht] at hP1
  have hK1 := va_K.moved hvm.symm hK1
  obtain ⟨hP, hD⟩ := va_join (wr := [(x0, .inr (4, [.ref x_row, .ref x_tree, .ref x_tally, .ref x_votes, .ref x_otherVotes, .ref x_wins, .ref x_fewest, .int 2, .int 1])), (x_row, .inr (0, [.ref x_cell, .int 0])), (x_cell, .inl (cyI, 160, .inl fc)), (x_tree, .inr (2, [.ref x_row, .ref x_joined, .ref x_from, .ref x_to, .ref x_size, .ref x_lossOf, .ref x_lessBy, .ref x_tvalue, .ref x_tnumber, .int 0, .int 0])), (x_from, .inl (cyI, 319, .inl ff)), (x_to, .inl (cyI, 319, .inl ft)), (x_tally, .inr (1, [.ref x_kind, .ref x_often, .int 0, .int 0])), (m_row, .inl (cyI, 160, .inl fm))]) (w1 := []) hP hD [7] [0, 1, 2, 3, 4, 5, 6, 8] rfl rfl (by decide) (by decide) hk1 hFc hP1 hD1
  clear hP1 hD1 hK1 hk1 hz1 hFc hDc hPc hKc
  generalize H1 = H at hP hS ⊢
  have hP : va_P (dC, dI) vwCl [(x0, .inr (4, [.ref x_row, .ref x_tree, .ref x_tally, .ref x_votes, .ref x_otherVotes, .ref x_wins, .ref x_fewest, .int 2, .int 1])), (x_row, .inr (0, [.ref x_cell, .int 0])), (x_cell, .inl (cyI, 160, .inl fc)), (x_tree, .inr (2, [.ref x_row, .ref x_joined, .ref x_from, .ref x_to, .ref x_size, .ref x_lossOf, .ref x_lessBy, .ref x_tvalue, .ref x_tnumber, .int 0, .int 0])), (x_from, .inl (cyI, 319, .inl ff)), (x_to, .inl (cyI, 319, .inl ft)), (x_tally, .inr (1, [.ref x_kind, .ref x_often, .int 0, .int 0])), (m_row, .inl (cyI, 160, .inl fm))] H := hP
  have hD : va_D (fun q : Nat => s.heap.size ≤ q) [(x0, .inr (4, [.ref x_row, .ref x_tree, .ref x_tally, .ref x_votes, .ref x_otherVotes, .ref x_wins, .ref x_fewest, .int 2, .int 1])), (x_row, .inr (0, [.ref x_cell, .int 0])), (x_cell, .inl (cyI, 160, .inl fc)), (x_tree, .inr (2, [.ref x_row, .ref x_joined, .ref x_from, .ref x_to, .ref x_size, .ref x_lossOf, .ref x_lessBy, .ref x_tvalue, .ref x_tnumber, .int 0, .int 0])), (x_from, .inl (cyI, 319, .inl ff)), (x_to, .inl (cyI, 319, .inl ft)), (x_tally, .inr (1, [.ref x_kind, .ref x_often, .int 0, .int 0])), (m_row, .inl (cyI, 160, .inl fm))] := hD
  subst w_2
  refine lv_icmp_eq (tgt := 2400) hx hb dL_law_1594 (by decide) (fun c_3 => ?_) (fun c_3 => ?_)
  · refine W.widen (k := 100) (n := 30000) (Nat.le_of_ble_eq_true rfl) (Nat.le_of_ble_eq_true rfl) ?_
    exact lc_end C0 hS (lv_sub hl [0, 4] rfl)
  · exact absurd c_3 (by decide)

set_option maxHeartbeats 4000000 in
set_option maxRecDepth 100000 in
theorem lc_29 {p : Program} {l : Launch} {e : Env} {s : State} {m : MethodId} {below : List Frame} {meth : Method} {c : Code} {dC : Nat → ClassId} {dI : Nat → Nat → Nat} {b : Nat} {xs : Nat → Int32} (hl0 : l.stackTraces = false) (C0 : lw_At p s m meth c b 8 xs) (hth : ki_Th s) {x0 x_row x_tree x_tally x_votes x_otherVotes x_wins x_fewest x_cell x_joined x_from x_to x_size x_lossOf x_lessBy x_tvalue x_tnumber x_kind x_often m0 m_row m_many m_loss m_less m_voteValue m_voteNumber m_allValue m_allNumber m_nodeL m_nodeR m_part m_wasMany m_wasLoss m_wasValue m_wasNumber m_path m_heavyValue m_heavyTimes m_fewest m_which m_met q_o : Nat} {cyI : ClassId} {fc ff ft fm : Nat → Int32} {H : Heap} {locs : List Loc} (hK : va_K (dC, dI) vwCl [(cyI, .int)] s) (hP : va_P (dC, dI) vwCl [(x0, .inr (4, [.ref x_row, .ref x_tree, .ref x_tally, .ref x_votes, .ref x_otherVotes, .ref x_wins, .ref x_fewest, .int 2, .int 1])), (x_row, .inr (0, [.ref x_cell, .int 0])), (x_cell, .inl (cyI, 160, .inl fc)), (x_tree, .inr (2, [.ref x_row, .ref x_joined, .ref x_from, .ref x_to, .ref x_size, .ref x_lossOf, .ref x_lessBy, .ref x_tvalue, .ref x_tnumber, .int 0, .int 0])), (x_from, .inl (cyI, 319, .inl ff)), (x_to, .inl (cyI, 319, .inl ft)), (x_tally, .inr (1, [.ref x_kind, .ref x_often, .int 0, .int 0])), (m0, .inr (5, [.ref m_row, .int 0, .int 2, .int 0, .ref m_many, .ref m_loss, .ref m_less, .ref m_voteValue, .ref m_voteNumber, .ref m_allValue, .ref m_allNumber, .int 0, .ref m_nodeL, .ref m_nodeR, .int 0, .ref m_part, .int 0, .ref m_wasMany, .ref m_wasLoss, .ref m_wasValue, .ref m_wasNumber, .ref m_path, .int 0, .ref m_heavyValue, .ref m_heavyTimes, .int 0, .ref m_fewest, .ref m_which, .ref m_met, .int 0])), (m_row, .inl (cyI, 160, .inl fm))] H) (hD : va_D (fun q : Nat => s.heap.size ≤ q) [(x0, .inr (4, [.ref x_row, .ref x_tree, .ref x_tally, .ref x_votes, .ref x_otherVotes, .ref x_wins, .ref x_fewest, .int 2, .int 1])), (x_row, .inr (0, [.ref x_cell, .int 0])), (x_cell, .inl (cyI, 160, .inl fc)), (x_tree, .inr (2, [.ref x_row, .ref x_joined, .ref x_from, .ref x_to, .ref x_size, .ref x_lossOf, .ref x_lessBy, .ref x_tvalue, .ref x_tnumber, .int 0, .int 0])), (x_from, .inl (cyI, 319, .inl ff)), (x_to, .inl (cyI, 319, .inl ft)), (x_tally, .inr (1, [.ref x_kind, .ref x_often, .int 0, .int 0])), (m0, .inr (5, [.ref m_row, .int 0, .int 2, .int 0, .ref m_many, .ref m_loss, .ref m_less, .ref m_voteValue, .ref m_voteNumber, .ref m_allValue, .ref m_allNumber, .int 0, .ref m_nodeL, .ref m_nodeR, .int 0, .ref m_part, .int 0, .ref m_wasMany, .ref m_wasLoss, .ref m_wasValue, .ref m_wasNumber, .ref m_path, .int 0, .ref m_heavyValue, .ref m_heavyTimes, .int 0, .ref m_fewest, .ref m_which, .ref m_met, .int 0])), (m_row, .inl (cyI, 160, .inl fm))]) (hS : va_S (fun q : Nat => s.heap.size ≤ q) s.heap H locs) {ls : Array Slot} (hl : lv_has ls 7 [(4, .int 0), (3, .ref q_o), (2, .ref m0), (1, .ref x0), (0, .ref b)]) : W p l e room_1 s m #[Value.ref b] below meth c H locs 60 20000 (lw_Z below #[Value.ref b] s) (F0 m 1599 ls []) := by
  obtain ⟨hx, hb, hr, hml, hown, hts0, hX, hbl, hlocks, hgv⟩ := id C0
  have hts := hts0
  have hA : ∀ q : Nat, s.heap.size ≤ q → (fun q : Nat => s.heap.size ≤ q) q := fun _ h => h
  have hbA : ¬ (fun q : Nat => s.heap.size ≤ q) b := Nat.not_le.mpr hbl
  have hown : s.vm.findClass RL = some m.cls := hown
  have hb : c.code = cL_law := hb
  refine lv_aload_n hx hb dL_law_1599 rfl (lv_at hl 3 rfl) ?_
  refine lv_aload_n hx hb dL_law_1600 rfl (lv_at hl 4 rfl) ?_
  refine lv_iload hx hb dL_law_1601 (lv_at hl 0 rfl) ?_
  refine lv_iconst (v := 1) hx hb dL_law_1603 (by decide) ?_
  refine lv_iadd hx hb dL_law_1604 ?_
  refine W.eq (g2 := F0 m 1605 ls [.int 1, .ref b, .ref x0]) (by first | rfl | (congr 2; decide)) ?_
  refine va_sld hx hb hX hbl hbA hS (i := 1) (ki_inl (by decide)) dL_law_1605 ?_
  refine lv_aload_n hx hb dL_law_1606 rfl (lv_at hl 4 rfl) ?_
  refine lv_iload hx hb dL_law_1607 (lv_at hl 0 rfl) ?_
  refine lv_iconst (v := 2) hx hb dL_law_1609 (by decide) ?_
  refine lv_iadd hx hb dL_law_1610 ?_
  refine W.eq (g2 := F0 m 1611 ls [.int 2, .ref b, .int (xs (1 : Int32).toNatClampNeg), .ref x0]) (by first | rfl | (congr 2; decide)) ?_
  refine va_sld hx hb hX hbl hbA hS (i := 2) (ki_inl (by decide)) dL_law_1611 ?_
  have hPc := hP.sub (ws' := [(x0, .inr (4, [.ref x_row, .ref x_tree, .ref x_tally, .ref x_votes, .ref x_otherVotes, .ref x_wins, .ref x_fewest, .int 2, .int 1])), (x_row, .inr (0, [.ref x_cell, .int 0]))]) [0, 1] rfl
  have hKc := hK.sub (tys' := []) [] rfl
  refine vp_callSi (W.runV (As := [.int (xs (1 : Int32).toNatClampNeg), .int (xs (2 : Int32).toNatClampNeg)]) (rest := []) ⟨hx, hb, hml, hown, (lwC_X4_majority hts0)⟩ (c_X4_majority l dC dI x0 x_row x_tree x_tally x_votes x_otherVotes x_wins x_fewest x_cell (xs (1 : Int32).toNatClampNeg) (xs (2 : Int32).toNatClampNeg)) (cwV 2 (lwC_X4_majority hts0) lwG_X4_majority rfl rfl rfl (by decide +kernel) ⟨Nat.le_of_ble_eq_true rfl, Nat.le_of_ble_eq_true rfl⟩) ⟨fun a U g mk q => by obtain ⟨q0, qP, qK⟩ := q; exact ⟨q0, qP, va_K.moved (u := U) (U := U.calling g mk a) (Vm.Alike.refl U.vm) qK⟩, va_recv hKc hPc (ci := 4) (q0 := 0) rfl rfl, fun U hU hW => ⟨rfl, by rw [hU]; exact hPc, va_K.moved hW.alike hKc⟩⟩ rfl rfl hl.1 rfl (lv_room (Nat.le_of_ble_eq_true rfl)) dL_law_1612 ⟨Nat.le_of_ble_eq_true rfl, Nat.le_of_ble_eq_true rfl⟩) (fun r_1 w_1 => ?_)
  subst w_1
  refine lv_aload_n hx hb dL_law_1615 rfl (lv_at hl 2 rfl) ?_
  refine lv_aload_n hx hb dL_law_1616 rfl (lv_at hl 4 rfl) ?_
  refine lv_iload hx hb dL_law_1617 (lv_at hl 0 rfl) ?_
  refine lv_iconst (v := 1) hx hb dL_law_1619 (by decide) ?_
  refine lv_iadd hx hb dL_law_1620 ?_
  refine W.eq (g2 := F0 m 1621 ls [.int 1, .ref b, .ref m0, .int (-40000)]) (by first | rfl | (congr 2; decide)) ?_
  refine va_sld hx hb hX hbl hbA hS (i := 1) (ki_inl (by decide)) dL_law_1621 ?_
  refine lv_aload_n hx hb dL_law_1622 rfl (lv_at hl 4 rfl) ?_
  refine lv_iload hx hb dL_law_1623 (lv_at hl 0 rfl) ?_
  refine lv_iconst (v := 2) hx hb dL_law_1625 (by decide) ?_
  refine lv_iadd hx hb dL_law_1626 ?_
  refine W.eq (g2 := F0 m 1627 ls [.int 2, .ref b, .int (xs (1 : Int32).toNatClampNeg), .ref m0, .int (-40000)]) (by first | rfl | (congr 2; decide)) ?_
  refine va_sld hx hb hX hbl hbA hS (i := 2) (ki_inl (by decide)) dL_law_1627 ?_
  have hPc := hP.sub (ws' := [(m0, .inr (5, [.ref m_row, .int 0, .int 2, .int 0, .ref m_many, .ref m_loss, .ref m_less, .ref m_voteValue, .ref m_voteNumber, .ref m_allValue, .ref m_allNumber, .int 0, .ref m_nodeL, .ref m_nodeR, .int 0, .ref m_part, .int 0, .ref m_wasMany, .ref m_wasLoss, .ref m_wasValue, .ref m_wasNumber, .ref m_path, .int 0, .ref m_heavyValue, .ref m_heavyTimes, .int 0, .ref m_fewest, .ref m_which, .ref m_met, .int 0]))]) [7] rfl
  have hKc := hK.sub (tys' := []) [] rfl
  have hDc := hD.sub (ws' := [(m0, .inr (5, [.ref m_row, .int 0, .int 2, .int 0, .ref m_many, .ref m_loss, .ref m_less, .ref m_voteValue, .ref m_voteNumber, .ref m_allValue, .ref m_allNumber, .int 0, .ref m_nodeL, .ref m_nodeR, .int 0, .ref m_part, .int 0, .ref m_wasMany, .ref m_wasLoss, .ref m_wasValue, .ref m_wasNumber, .ref m_path, .int 0, .ref m_heavyValue, .ref m_heavyTimes, .int 0, .ref m_fewest, .ref m_which, .ref m_met, .int 0]))]) [7] (by decide) rfl
  have hFc := va_free (wc := [(m0, .inr (5, [.ref m_row, .int 0, .int 2, .int 0, .ref m_many, .ref m_loss, .ref m_less, .ref m_voteValue, .ref m_voteNumber, .ref m_allValue, .ref m_allNumber, .int 0, .ref m_nodeL, .ref m_nodeR, .int 0, .ref m_part, .int 0, .ref m_wasMany, .ref m_wasLoss, .ref m_wasValue, .ref m_wasNumber, .ref m_path, .int 0, .ref m_heavyValue, .ref m_heavyTimes, .int 0, .ref m_fewest, .ref m_which, .ref m_met, .int 0]))]) hD hS hA [7] rfl
  refine va_calli (va_runV (As := [.int (xs (1 : Int32).toNatClampNeg), .int (xs (2 : Int32).toNatClampNeg)]) (rest := [.int (-40000)]) ⟨hx, hb, hml, hown, (lwC_X5_majority hts0)⟩ (c_X5_majority l dC dI m0 m_row m_many m_loss m_less m_voteValue m_voteNumber m_allValue m_allNumber m_nodeL m_nodeR m_part m_wasMany m_wasLoss m_wasValue m_wasNumber m_path m_heavyValue m_heavyTimes m_fewest m_which m_met (xs (1 : Int32).toNatClampNeg) (xs (2 : Int32).toNatClampNeg) H.size) (cwV 2 (lwC_X5_majority hts0) lwG_X5_majority rfl rfl rfl (by decide +kernel) ⟨Nat.le_of_ble_eq_true rfl, Nat.le_of_ble_eq_true rfl⟩) ⟨fun a U g mk q => by obtain ⟨q0, q1, qP, qK, qD⟩ := q; exact ⟨q0, q1, qP, va_K.moved (u := U) (U := U.calling g mk a) (Vm.Alike.refl U.vm) qK, qD⟩, va_recv hKc hPc (ci := 5) (q0 := 0) rfl rfl, fun U hU hW => ⟨rfl, by rw [hU], by rw [hU]; exact hPc, va_K.moved hW.alike hKc, hDc.weaken (fun _ _ _ _ => trivial)⟩⟩ rfl rfl hl.1 rfl (lv_room (Nat.le_of_ble_eq_true rfl)) dL_law_1628 ⟨Nat.le_of_ble_eq_true rfl, Nat.le_of_ble_eq_true rfl⟩) hS (fun q _ h => hFc q h) hFc (fun r_2 u t H1 locs ht hvm w_2 hB hz1 hk1 hS => ?_)
  obtain ⟨hP1, hK1, hD1⟩ := hB
  rw [ht] at hP1
  have hK1 := va_K.moved hvm.symm hK1
  obtain ⟨hP, hD⟩ := va_join (wr := [(x0, .inr (4, [.ref x_row, .ref x_tree, .ref x_tally, .ref x_votes, .ref x_otherVotes, .ref x_wins, .ref x_fewest, .int 2, .int 1])), (x_row, .inr (0, [.ref x_cell, .int 0])), (x_cell, .inl (cyI, 160, .inl fc)), (x_tree, .inr (2, [.ref x_row, .ref x_joined, .ref x_from, .ref x_to, .ref x_size, .ref x_lossOf, .ref x_lessBy, .ref x_tvalue, .ref x_tnumber, .int 0, .int 0])), (x_from, .inl (cyI, 319, .inl ff)), (x_to, .inl (cyI, 319, .inl ft)), (x_tally, .inr (1, [.ref x_kind, .ref x_often, .int 0, .int 0])), (m_row, .inl (cyI, 160, .inl fm))]) (w1 := []) hP hD [7] [0, 1, 2, 3, 4, 5, 6, 8] rfl rfl (by decide) (by decide) hk1 hFc hP1 hD1
  clear hP1 hD1 hK1 hk1 hz1 hFc hDc hPc hKc
  generalize H1 = H at hP hS ⊢
  have hP : va_P (dC, dI) vwCl [(x0, .inr (4, [.ref x_row, .ref x_tree, .ref x_tally, .ref x_votes, .ref x_otherVotes, .ref x_wins, .ref x_fewest, .int 2, .int 1])), (x_row, .inr (0, [.ref x_cell, .int 0])), (x_cell, .inl (cyI, 160, .inl fc)), (x_tree, .inr (2, [.ref x_row, .ref x_joined, .ref x_from, .ref x_to, .ref x_size, .ref x_lossOf, .ref x_lessBy, .ref x_tvalue, .ref x_tnumber, .int 0, .int 0])), (x_from, .inl (cyI, 319, .inl ff)), (x_to, .inl (cyI, 319, .inl ft)), (x_tally, .inr (1, [.ref x_kind, .ref x_often, .int 0, .int 0])), (m_row, .inl (cyI, 160, .inl fm))] H := hP
  have hD : va_D (fun q : Nat => s.heap.size ≤ q) [(x0, .inr (4, [.ref x_row, .ref x_tree, .ref x_tally, .ref x_votes, .ref x_otherVotes, .ref x_wins, .ref x_fewest, .int 2, .int 1])), (x_row, .inr (0, [.ref x_cell, .int 0])), (x_cell, .inl (cyI, 160, .inl fc)), (x_tree, .inr (2, [.ref x_row, .ref x_joined, .ref x_from, .ref x_to, .ref x_size, .ref x_lossOf, .ref x_lessBy, .ref x_tvalue, .ref x_tnumber, .int 0, .int 0])), (x_from, .inl (cyI, 319, .inl ff)), (x_to, .inl (cyI, 319, .inl ft)), (x_tally, .inr (1, [.ref x_kind, .ref x_often, .int 0, .int 0])), (m_row, .inl (cyI, 160, .inl fm))] := hD
  subst w_2
  refine lv_icmp_eq (tgt := 2400) hx hb dL_law_1631 (by decide) (fun c_3 => ?_) (fun c_3 => ?_)
  · refine W.widen (k := 100) (n := 30000) (Nat.le_of_ble_eq_true rfl) (Nat.le_of_ble_eq_true rfl) ?_
    exact lc_end C0 hS (lv_sub hl [0, 4] rfl)
  · exact absurd c_3 (by decide)

set_option maxHeartbeats 4000000 in
set_option maxRecDepth 100000 in
theorem lc_30 {p : Program} {l : Launch} {e : Env} {s : State} {m : MethodId} {below : List Frame} {meth : Method} {c : Code} {dC : Nat → ClassId} {dI : Nat → Nat → Nat} {b : Nat} {xs : Nat → Int32} (hl0 : l.stackTraces = false) (C0 : lw_At p s m meth c b 8 xs) (hth : ki_Th s) {x0 x_row x_tree x_tally x_votes x_otherVotes x_wins x_fewest x_cell x_joined x_from x_to x_size x_lossOf x_lessBy x_tvalue x_tnumber x_kind x_often m0 m_row m_many m_loss m_less m_voteValue m_voteNumber m_allValue m_allNumber m_nodeL m_nodeR m_part m_wasMany m_wasLoss m_wasValue m_wasNumber m_path m_heavyValue m_heavyTimes m_fewest m_which m_met q_o : Nat} {cyI : ClassId} {fc ff ft fm : Nat → Int32} {H : Heap} {locs : List Loc} (hK : va_K (dC, dI) vwCl [(cyI, .int)] s) (hP : va_P (dC, dI) vwCl [(x0, .inr (4, [.ref x_row, .ref x_tree, .ref x_tally, .ref x_votes, .ref x_otherVotes, .ref x_wins, .ref x_fewest, .int 2, .int 1])), (x_row, .inr (0, [.ref x_cell, .int 0])), (x_cell, .inl (cyI, 160, .inl fc)), (x_tree, .inr (2, [.ref x_row, .ref x_joined, .ref x_from, .ref x_to, .ref x_size, .ref x_lossOf, .ref x_lessBy, .ref x_tvalue, .ref x_tnumber, .int 0, .int 0])), (x_from, .inl (cyI, 319, .inl ff)), (x_to, .inl (cyI, 319, .inl ft)), (x_tally, .inr (1, [.ref x_kind, .ref x_often, .int 0, .int 0])), (m0, .inr (5, [.ref m_row, .int 0, .int 2, .int 0, .ref m_many, .ref m_loss, .ref m_less, .ref m_voteValue, .ref m_voteNumber, .ref m_allValue, .ref m_allNumber, .int 0, .ref m_nodeL, .ref m_nodeR, .int 0, .ref m_part, .int 0, .ref m_wasMany, .ref m_wasLoss, .ref m_wasValue, .ref m_wasNumber, .ref m_path, .int 0, .ref m_heavyValue, .ref m_heavyTimes, .int 0, .ref m_fewest, .ref m_which, .ref m_met, .int 0])), (m_row, .inl (cyI, 160, .inl fm))] H) (hD : va_D (fun q : Nat => s.heap.size ≤ q) [(x0, .inr (4, [.ref x_row, .ref x_tree, .ref x_tally, .ref x_votes, .ref x_otherVotes, .ref x_wins, .ref x_fewest, .int 2, .int 1])), (x_row, .inr (0, [.ref x_cell, .int 0])), (x_cell, .inl (cyI, 160, .inl fc)), (x_tree, .inr (2, [.ref x_row, .ref x_joined, .ref x_from, .ref x_to, .ref x_size, .ref x_lossOf, .ref x_lessBy, .ref x_tvalue, .ref x_tnumber, .int 0, .int 0])), (x_from, .inl (cyI, 319, .inl ff)), (x_to, .inl (cyI, 319, .inl ft)), (x_tally, .inr (1, [.ref x_kind, .ref x_often, .int 0, .int 0])), (m0, .inr (5, [.ref m_row, .int 0, .int 2, .int 0, .ref m_many, .ref m_loss, .ref m_less, .ref m_voteValue, .ref m_voteNumber, .ref m_allValue, .ref m_allNumber, .int 0, .ref m_nodeL, .ref m_nodeR, .int 0, .ref m_part, .int 0, .ref m_wasMany, .ref m_wasLoss, .ref m_wasValue, .ref m_wasNumber, .ref m_path, .int 0, .ref m_heavyValue, .ref m_heavyTimes, .int 0, .ref m_fewest, .ref m_which, .ref m_met, .int 0])), (m_row, .inl (cyI, 160, .inl fm))]) (hS : va_S (fun q : Nat => s.heap.size ≤ q) s.heap H locs) {ls : Array Slot} (hl : lv_has ls 7 [(4, .int 0), (3, .ref q_o), (2, .ref m0), (1, .ref x0), (0, .ref b)]) : W p l e room_1 s m #[Value.ref b] below meth c H locs 60 20000 (lw_Z below #[Value.ref b] s) (F0 m 1636 ls []) := by
  obtain ⟨hx, hb, hr, hml, hown, hts0, hX, hbl, hlocks, hgv⟩ := id C0
  have hts := hts0
  have hA : ∀ q : Nat, s.heap.size ≤ q → (fun q : Nat => s.heap.size ≤ q) q := fun _ h => h
  have hbA : ¬ (fun q : Nat => s.heap.size ≤ q) b := Nat.not_le.mpr hbl
  have hown : s.vm.findClass RL = some m.cls := hown
  have hb : c.code = cL_law := hb
  refine lv_aload_n hx hb dL_law_1636 rfl (lv_at hl 3 rfl) ?_
  refine lv_aload_n hx hb dL_law_1637 rfl (lv_at hl 4 rfl) ?_
  refine lv_iload hx hb dL_law_1638 (lv_at hl 0 rfl) ?_
  refine lv_iconst (v := 1) hx hb dL_law_1640 (by decide) ?_
  refine lv_iadd hx hb dL_law_1641 ?_
  refine W.eq (g2 := F0 m 1642 ls [.int 1, .ref b, .ref x0]) (by first | rfl | (congr 2; decide)) ?_
  refine va_sld hx hb hX hbl hbA hS (i := 1) (ki_inl (by decide)) dL_law_1642 ?_
  refine lv_aload_n hx hb dL_law_1643 rfl (lv_at hl 4 rfl) ?_
  refine lv_iload hx hb dL_law_1644 (lv_at hl 0 rfl) ?_
  refine lv_iconst (v := 2) hx hb dL_law_1646 (by decide) ?_
  refine lv_iadd hx hb dL_law_1647 ?_
  refine W.eq (g2 := F0 m 1648 ls [.int 2, .ref b, .int (xs (1 : Int32).toNatClampNeg), .ref x0]) (by first | rfl | (congr 2; decide)) ?_
  refine va_sld hx hb hX hbl hbA hS (i := 2) (ki_inl (by decide)) dL_law_1648 ?_
  refine lv_aload_n hx hb dL_law_1649 rfl (lv_at hl 4 rfl) ?_
  refine lv_iload hx hb dL_law_1650 (lv_at hl 0 rfl) ?_
  refine lv_iconst (v := 3) hx hb dL_law_1652 (by decide) ?_
  refine lv_iadd hx hb dL_law_1653 ?_
  refine W.eq (g2 := F0 m 1654 ls [.int 3, .ref b, .int (xs (2 : Int32).toNatClampNeg), .int (xs (1 : Int32).toNatClampNeg), .ref x0]) (by first | rfl | (congr 2; decide)) ?_
  refine va_sld hx hb hX hbl hbA hS (i := 3) (ki_inl (by decide)) dL_law_1654 ?_
  have hPc := hP.sub (ws' := [(x0, .inr (4, [.ref x_row, .ref x_tree, .ref x_tally, .ref x_votes, .ref x_otherVotes, .ref x_wins, .ref x_fewest, .int 2, .int 1])), (x_row, .inr (0, [.ref x_cell, .int 0]))]) [0, 1] rfl
  have hKc := hK.sub (tys' := []) [] rfl
  refine vp_callSi (W.runV (As := [.int (xs (1 : Int32).toNatClampNeg), .int (xs (2 : Int32).toNatClampNeg), .int (xs (3 : Int32).toNatClampNeg)]) (rest := []) ⟨hx, hb, hml, hown, (lwC_X4_margin hts0)⟩ (c_X4_margin l dC dI x0 x_row x_tree x_tally x_votes x_otherVotes x_wins x_fewest x_cell (xs (1 : Int32).toNatClampNeg) (xs (2 : Int32).toNatClampNeg) (xs (3 : Int32).toNatClampNeg)) (cwV 3 (lwC_X4_margin hts0) lwG_X4_margin rfl rfl rfl (by decide +kernel) ⟨Nat.le_of_ble_eq_true rfl, Nat.le_of_ble_eq_true rfl⟩) ⟨fun a U g mk q => by obtain ⟨q0, qP, qK⟩ := q; exact ⟨q0, qP, va_K.moved (u := U) (U := U.calling g mk a) (Vm.Alike.refl U.vm) qK⟩, va_recv hKc hPc (ci := 4) (q0 := 0) rfl rfl, fun U hU hW => ⟨rfl, by rw [hU]; exact hPc, va_K.moved hW.alike hKc⟩⟩ rfl rfl hl.1 rfl (lv_room (Nat.le_of_ble_eq_true rfl)) dL_law_1655 ⟨Nat.le_of_ble_eq_true rfl, Nat.le_of_ble_eq_true rfl⟩) (fun r_1 w_1 => ?_)
  subst w_1
  refine lv_aload_n hx hb dL_law_1658 rfl (lv_at hl 2 rfl) ?_
  refine lv_aload_n hx hb dL_law_1659 rfl (lv_at hl 4 rfl) ?_
  refine lv_iload hx hb dL_law_1660 (lv_at hl 0 rfl) ?_
  refine lv_iconst (v := 1) hx hb dL_law_1662 (by decide) ?_
  refine lv_iadd hx hb dL_law_1663 ?_
  refine W.eq (g2 := F0 m 1664 ls [.int 1, .ref b, .ref m0, .int (-40000)]) (by first | rfl | (congr 2; decide)) ?_
  refine va_sld hx hb hX hbl hbA hS (i := 1) (ki_inl (by decide)) dL_law_1664 ?_
  refine lv_aload_n hx hb dL_law_1665 rfl (lv_at hl 4 rfl) ?_
  refine lv_iload hx hb dL_law_1666 (lv_at hl 0 rfl) ?_
  refine lv_iconst (v := 2) hx hb dL_law_1668 (by decide) ?_
  refine lv_iadd hx hb dL_law_1669 ?_
  refine W.eq (g2 := F0 m 1670 ls [.int 2, .ref b, .int (xs (1 : Int32).toNatClampNeg), .ref m0, .int (-40000)]) (by first | rfl | (congr 2; decide)) ?_
  refine va_sld hx hb hX hbl hbA hS (i := 2) (ki_inl (by decide)) dL_law_1670 ?_
  refine lv_aload_n hx hb dL_law_1671 rfl (lv_at hl 4 rfl) ?_
  refine lv_iload hx hb dL_law_1672 (lv_at hl 0 rfl) ?_
  refine lv_iconst (v := 3) hx hb dL_law_1674 (by decide) ?_
  refine lv_iadd hx hb dL_law_1675 ?_
  refine W.eq (g2 := F0 m 1676 ls [.int 3, .ref b, .int (xs (2 : Int32).toNatClampNeg), .int (xs (1 : Int32).toNatClampNeg), .ref m0, .int (-40000)]) (by first | rfl | (congr 2; decide)) ?_
  refine va_sld hx hb hX hbl hbA hS (i := 3) (ki_inl (by decide)) dL_law_1676 ?_
  have hPc := hP.sub (ws' := [(m0, .inr (5, [.ref m_row, .int 0, .int 2, .int 0, .ref m_many, .ref m_loss, .ref m_less, .ref m_voteValue, .ref m_voteNumber, .ref m_allValue, .ref m_allNumber, .int 0, .ref m_nodeL, .ref m_nodeR, .int 0, .ref m_part, .int 0, .ref m_wasMany, .ref m_wasLoss, .ref m_wasValue, .ref m_wasNumber, .ref m_path, .int 0, .ref m_heavyValue, .ref m_heavyTimes, .int 0, .ref m_fewest, .ref m_which, .ref m_met, .int 0]))]) [7] rfl
  have hKc := hK.sub (tys' := []) [] rfl
  have hDc := hD.sub (ws' := [(m0, .inr (5, [.ref m_row, .int 0, .int 2, .int 0, .ref m_many, .ref m_loss, .ref m_less, .ref m_voteValue, .ref m_voteNumber, .ref m_allValue, .ref m_allNumber, .int 0, .ref m_nodeL, .ref m_nodeR, .int 0, .ref m_part, .int 0, .ref m_wasMany, .ref m_wasLoss, .ref m_wasValue, .ref m_wasNumber, .ref m_path, .int 0, .ref m_heavyValue, .ref m_heavyTimes, .int 0, .ref m_fewest, .ref m_which, .ref m_met, .int 0]))]) [7] (by decide) rfl
  have hFc := va_free (wc := [(m0, .inr (5, [.ref m_row, .int 0, .int 2, .int 0, .ref m_many, .ref m_loss, .ref m_less, .ref m_voteValue, .ref m_voteNumber, .ref m_allValue, .ref m_allNumber, .int 0, .ref m_nodeL, .ref m_nodeR, .int 0, .ref m_part, .int 0, .ref m_wasMany, .ref m_wasLoss, .ref m_wasValue, .ref m_wasNumber, .ref m_path, .int 0, .ref m_heavyValue, .ref m_heavyTimes, .int 0, .ref m_fewest, .ref m_which, .ref m_met, .int 0]))]) hD hS hA [7] rfl
  refine va_calli (va_runV (As := [.int (xs (1 : Int32).toNatClampNeg), .int (xs (2 : Int32).toNatClampNeg), .int (xs (3 : Int32).toNatClampNeg)]) (rest := [.int (-40000)]) ⟨hx, hb, hml, hown, (lwC_X5_margin hts0)⟩ (c_X5_margin l dC dI m0 m_row m_many m_loss m_less m_voteValue m_voteNumber m_allValue m_allNumber m_nodeL m_nodeR m_part m_wasMany m_wasLoss m_wasValue m_wasNumber m_path m_heavyValue m_heavyTimes m_fewest m_which m_met (xs (1 : Int32).toNatClampNeg) (xs (2 : Int32).toNatClampNeg) (xs (3 : Int32).toNatClampNeg) H.size) (cwV 3 (lwC_X5_margin hts0) lwG_X5_margin rfl rfl rfl (by decide +kernel) ⟨Nat.le_of_ble_eq_true rfl, Nat.le_of_ble_eq_true rfl⟩) ⟨fun a U g mk q => by obtain ⟨q0, q1, qP, qK, qD⟩ := q; exact ⟨q0, q1, qP, va_K.moved (u := U) (U := U.calling g mk a) (Vm.Alike.refl U.vm) qK, qD⟩, va_recv hKc hPc (ci := 5) (q0 := 0) rfl rfl, fun U hU hW => ⟨rfl, by rw [hU], by rw [hU]; exact hPc, va_K.moved hW.alike hKc, hDc.weaken (fun _ _ _ _ => trivial)⟩⟩ rfl rfl hl.1 rfl (lv_room (Nat.le_of_ble_eq_true rfl)) dL_law_1677 ⟨Nat.le_of_ble_eq_true rfl, Nat.le_of_ble_eq_true rfl⟩) hS (fun q _ h => hFc q h) hFc (fun r_2 u t H1 locs ht hvm w_2 hB hz1 hk1 hS => ?_)
  obtain ⟨hP1, hK1, hD1⟩ := hB
  rw [ht] at hP1
  have hK1 := va_K.moved hvm.symm hK1
  obtain ⟨hP, hD⟩ := va_join (wr := [(x0, .inr (4, [.ref x_row, .ref x_tree, .ref x_tally, .ref x_votes, .ref x_otherVotes, .ref x_wins, .ref x_fewest, .int 2, .int 1])), (x_row, .inr (0, [.ref x_cell, .int 0])), (x_cell, .inl (cyI, 160, .inl fc)), (x_tree, .inr (2, [.ref x_row, .ref x_joined, .ref x_from, .ref x_to, .ref x_size, .ref x_lossOf, .ref x_lessBy, .ref x_tvalue, .ref x_tnumber, .int 0, .int 0])), (x_from, .inl (cyI, 319, .inl ff)), (x_to, .inl (cyI, 319, .inl ft)), (x_tally, .inr (1, [.ref x_kind, .ref x_often, .int 0, .int 0])), (m_row, .inl (cyI, 160, .inl fm))]) (w1 := []) hP hD [7] [0, 1, 2, 3, 4, 5, 6, 8] rfl rfl (by decide) (by decide) hk1 hFc hP1 hD1
  clear hP1 hD1 hK1 hk1 hz1 hFc hDc hPc hKc
  generalize H1 = H at hP hS ⊢
  have hP : va_P (dC, dI) vwCl [(x0, .inr (4, [.ref x_row, .ref x_tree, .ref x_tally, .ref x_votes, .ref x_otherVotes, .ref x_wins, .ref x_fewest, .int 2, .int 1])), (x_row, .inr (0, [.ref x_cell, .int 0])), (x_cell, .inl (cyI, 160, .inl fc)), (x_tree, .inr (2, [.ref x_row, .ref x_joined, .ref x_from, .ref x_to, .ref x_size, .ref x_lossOf, .ref x_lessBy, .ref x_tvalue, .ref x_tnumber, .int 0, .int 0])), (x_from, .inl (cyI, 319, .inl ff)), (x_to, .inl (cyI, 319, .inl ft)), (x_tally, .inr (1, [.ref x_kind, .ref x_often, .int 0, .int 0])), (m_row, .inl (cyI, 160, .inl fm))] H := hP
  have hD : va_D (fun q : Nat => s.heap.size ≤ q) [(x0, .inr (4, [.ref x_row, .ref x_tree, .ref x_tally, .ref x_votes, .ref x_otherVotes, .ref x_wins, .ref x_fewest, .int 2, .int 1])), (x_row, .inr (0, [.ref x_cell, .int 0])), (x_cell, .inl (cyI, 160, .inl fc)), (x_tree, .inr (2, [.ref x_row, .ref x_joined, .ref x_from, .ref x_to, .ref x_size, .ref x_lossOf, .ref x_lessBy, .ref x_tvalue, .ref x_tnumber, .int 0, .int 0])), (x_from, .inl (cyI, 319, .inl ff)), (x_to, .inl (cyI, 319, .inl ft)), (x_tally, .inr (1, [.ref x_kind, .ref x_often, .int 0, .int 0])), (m_row, .inl (cyI, 160, .inl fm))] := hD
  subst w_2
  refine lv_icmp_eq (tgt := 2400) hx hb dL_law_1680 (by decide) (fun c_3 => ?_) (fun c_3 => ?_)
  · refine W.widen (k := 100) (n := 30000) (Nat.le_of_ble_eq_true rfl) (Nat.le_of_ble_eq_true rfl) ?_
    exact lc_end C0 hS (lv_sub hl [0, 4] rfl)
  · exact absurd c_3 (by decide)

set_option maxHeartbeats 4000000 in
set_option maxRecDepth 100000 in
theorem lc_31 {p : Program} {l : Launch} {e : Env} {s : State} {m : MethodId} {below : List Frame} {meth : Method} {c : Code} {dC : Nat → ClassId} {dI : Nat → Nat → Nat} {b : Nat} {xs : Nat → Int32} (hl0 : l.stackTraces = false) (C0 : lw_At p s m meth c b 8 xs) (hth : ki_Th s) {x0 x_row x_tree x_tally x_votes x_otherVotes x_wins x_fewest x_cell x_joined x_from x_to x_size x_lossOf x_lessBy x_tvalue x_tnumber x_kind x_often m0 m_row m_many m_loss m_less m_voteValue m_voteNumber m_allValue m_allNumber m_nodeL m_nodeR m_part m_wasMany m_wasLoss m_wasValue m_wasNumber m_path m_heavyValue m_heavyTimes m_fewest m_which m_met q_o : Nat} {cyI : ClassId} {fc ff ft fm : Nat → Int32} {H : Heap} {locs : List Loc} (hK : va_K (dC, dI) vwCl [(cyI, .int)] s) (hP : va_P (dC, dI) vwCl [(x0, .inr (4, [.ref x_row, .ref x_tree, .ref x_tally, .ref x_votes, .ref x_otherVotes, .ref x_wins, .ref x_fewest, .int 2, .int 1])), (x_row, .inr (0, [.ref x_cell, .int 0])), (x_cell, .inl (cyI, 160, .inl fc)), (x_tree, .inr (2, [.ref x_row, .ref x_joined, .ref x_from, .ref x_to, .ref x_size, .ref x_lossOf, .ref x_lessBy, .ref x_tvalue, .ref x_tnumber, .int 0, .int 0])), (x_from, .inl (cyI, 319, .inl ff)), (x_to, .inl (cyI, 319, .inl ft)), (x_tally, .inr (1, [.ref x_kind, .ref x_often, .int 0, .int 0])), (m0, .inr (5, [.ref m_row, .int 0, .int 2, .int 0, .ref m_many, .ref m_loss, .ref m_less, .ref m_voteValue, .ref m_voteNumber, .ref m_allValue, .ref m_allNumber, .int 0, .ref m_nodeL, .ref m_nodeR, .int 0, .ref m_part, .int 0, .ref m_wasMany, .ref m_wasLoss, .ref m_wasValue, .ref m_wasNumber, .ref m_path, .int 0, .ref m_heavyValue, .ref m_heavyTimes, .int 0, .ref m_fewest, .ref m_which, .ref m_met, .int 0])), (m_row, .inl (cyI, 160, .inl fm))] H) (hD : va_D (fun q : Nat => s.heap.size ≤ q) [(x0, .inr (4, [.ref x_row, .ref x_tree, .ref x_tally, .ref x_votes, .ref x_otherVotes, .ref x_wins, .ref x_fewest, .int 2, .int 1])), (x_row, .inr (0, [.ref x_cell, .int 0])), (x_cell, .inl (cyI, 160, .inl fc)), (x_tree, .inr (2, [.ref x_row, .ref x_joined, .ref x_from, .ref x_to, .ref x_size, .ref x_lossOf, .ref x_lessBy, .ref x_tvalue, .ref x_tnumber, .int 0, .int 0])), (x_from, .inl (cyI, 319, .inl ff)), (x_to, .inl (cyI, 319, .inl ft)), (x_tally, .inr (1, [.ref x_kind, .ref x_often, .int 0, .int 0])), (m0, .inr (5, [.ref m_row, .int 0, .int 2, .int 0, .ref m_many, .ref m_loss, .ref m_less, .ref m_voteValue, .ref m_voteNumber, .ref m_allValue, .ref m_allNumber, .int 0, .ref m_nodeL, .ref m_nodeR, .int 0, .ref m_part, .int 0, .ref m_wasMany, .ref m_wasLoss, .ref m_wasValue, .ref m_wasNumber, .ref m_path, .int 0, .ref m_heavyValue, .ref m_heavyTimes, .int 0, .ref m_fewest, .ref m_which, .ref m_met, .int 0])), (m_row, .inl (cyI, 160, .inl fm))]) (hS : va_S (fun q : Nat => s.heap.size ≤ q) s.heap H locs) {ls : Array Slot} (hl : lv_has ls 7 [(4, .int 0), (3, .ref q_o), (2, .ref m0), (1, .ref x0), (0, .ref b)]) : W p l e room_1 s m #[Value.ref b] below meth c H locs 60 20000 (lw_Z below #[Value.ref b] s) (F0 m 1685 ls []) := by
  obtain ⟨hx, hb, hr, hml, hown, hts0, hX, hbl, hlocks, hgv⟩ := id C0
  have hts := hts0
  have hA : ∀ q : Nat, s.heap.size ≤ q → (fun q : Nat => s.heap.size ≤ q) q := fun _ h => h
  have hbA : ¬ (fun q : Nat => s.heap.size ≤ q) b := Nat.not_le.mpr hbl
  have hown : s.vm.findClass RL = some m.cls := hown
  have hb : c.code = cL_law := hb
  refine lv_aload_n hx hb dL_law_1685 rfl (lv_at hl 3 rfl) ?_
  refine lv_aload_n hx hb dL_law_1686 rfl (lv_at hl 4 rfl) ?_
  refine lv_iload hx hb dL_law_1687 (lv_at hl 0 rfl) ?_
  refine lv_iconst (v := 1) hx hb dL_law_1689 (by decide) ?_
  refine lv_iadd hx hb dL_law_1690 ?_
  refine W.eq (g2 := F0 m 1691 ls [.int 1, .ref b, .ref x0]) (by first | rfl | (congr 2; decide)) ?_
  refine va_sld hx hb hX hbl hbA hS (i := 1) (ki_inl (by decide)) dL_law_1691 ?_
  refine lv_aload_n hx hb dL_law_1692 rfl (lv_at hl 4 rfl) ?_
  refine lv_iload hx hb dL_law_1693 (lv_at hl 0 rfl) ?_
  refine lv_iconst (v := 2) hx hb dL_law_1695 (by decide) ?_
  refine lv_iadd hx hb dL_law_1696 ?_
  refine W.eq (g2 := F0 m 1697 ls [.int 2, .ref b, .int (xs (1 : Int32).toNatClampNeg), .ref x0]) (by first | rfl | (congr 2; decide)) ?_
  refine va_sld hx hb hX hbl hbA hS (i := 2) (ki_inl (by decide)) dL_law_1697 ?_
  refine lv_aload_n hx hb dL_law_1698 rfl (lv_at hl 4 rfl) ?_
  refine lv_iload hx hb dL_law_1699 (lv_at hl 0 rfl) ?_
  refine lv_iconst (v := 3) hx hb dL_law_1701 (by decide) ?_
  refine lv_iadd hx hb dL_law_1702 ?_
  refine W.eq (g2 := F0 m 1703 ls [.int 3, .ref b, .int (xs (2 : Int32).toNatClampNeg), .int (xs (1 : Int32).toNatClampNeg), .ref x0]) (by first | rfl | (congr 2; decide)) ?_
  refine va_sld hx hb hX hbl hbA hS (i := 3) (ki_inl (by decide)) dL_law_1703 ?_
  refine lv_aload_n hx hb dL_law_1704 rfl (lv_at hl 4 rfl) ?_
  refine lv_iload hx hb dL_law_1705 (lv_at hl 0 rfl) ?_
  refine lv_iconst (v := 4) hx hb dL_law_1707 (by decide) ?_
  refine lv_iadd hx hb dL_law_1708 ?_
  refine W.eq (g2 := F0 m 1709 ls [.int 4, .ref b, .int (xs (3 : Int32).toNatClampNeg), .int (xs (2 : Int32).toNatClampNeg), .int (xs (1 : Int32).toNatClampNeg), .ref x0]) (by first | rfl | (congr 2; decide)) ?_
  refine va_sld hx hb hX hbl hbA hS (i := 4) (ki_inl (by decide)) dL_law_1709 ?_
  refine lv_aload_n hx hb dL_law_1710 rfl (lv_at hl 4 rfl) ?_
  refine lv_iload hx hb dL_law_1711 (lv_at hl 0 rfl) ?_
  refine lv_iconst (v := 5) hx hb dL_law_1713 (by decide) ?_
  refine lv_iadd hx hb dL_law_1714 ?_
  refine W.eq (g2 := F0 m 1715 ls [.int 5, .ref b, .int (xs (4 : Int32).toNatClampNeg), .int (xs (3 : Int32).toNatClampNeg), .int (xs (2 : Int32).toNatClampNeg), .int (xs (1 : Int32).toNatClampNeg), .ref x0]) (by first | rfl | (congr 2; decide)) ?_
  refine va_sld hx hb hX hbl hbA hS (i := 5) (ki_inl (by decide)) dL_law_1715 ?_
  refine lv_aload_n hx hb dL_law_1716 rfl (lv_at hl 4 rfl) ?_
  refine lv_iload hx hb dL_law_1717 (lv_at hl 0 rfl) ?_
  refine lv_bipush (v := 6) hx hb dL_law_1719 (by decide) ?_
  refine lv_iadd hx hb dL_law_1721 ?_
  refine W.eq (g2 := F0 m 1722 ls [.int 6, .ref b, .int (xs (5 : Int32).toNatClampNeg), .int (xs (4 : Int32).toNatClampNeg), .int (xs (3 : Int32).toNatClampNeg), .int (xs (2 : Int32).toNatClampNeg), .int (xs (1 : Int32).toNatClampNeg), .ref x0]) (by first | rfl | (congr 2; decide)) ?_
  refine va_sld hx hb hX hbl hbA hS (i := 6) (ki_inl (by decide)) dL_law_1722 ?_
  have hPc := hP.sub (ws' := [(x0, .inr (4, [.ref x_row, .ref x_tree, .ref x_tally, .ref x_votes, .ref x_otherVotes, .ref x_wins, .ref x_fewest, .int 2, .int 1])), (x_row, .inr (0, [.ref x_cell, .int 0]))]) [0, 1] rfl
  have hKc := hK.sub (tys' := []) [] rfl
  refine vp_callSi (W.runV (As := [.int (xs (1 : Int32).toNatClampNeg), .int (xs (2 : Int32).toNatClampNeg), .int (xs (3 : Int32).toNatClampNeg), .int (xs (4 : Int32).toNatClampNeg), .int (xs (5 : Int32).toNatClampNeg), .int (xs (6 : Int32).toNatClampNeg)]) (rest := []) ⟨hx, hb, hml, hown, (lwC_X4_both hts0)⟩ (c_X4_both l dC dI x0 x_row x_tree x_tally x_votes x_otherVotes x_wins x_fewest x_cell (xs (1 : Int32).toNatClampNeg) (xs (2 : Int32).toNatClampNeg) (xs (3 : Int32).toNatClampNeg) (xs (4 : Int32).toNatClampNeg) (xs (5 : Int32).toNatClampNeg) (xs (6 : Int32).toNatClampNeg)) (cwV 6 (lwC_X4_both hts0) lwG_X4_both rfl rfl rfl (by decide +kernel) ⟨Nat.le_of_ble_eq_true rfl, Nat.le_of_ble_eq_true rfl⟩) ⟨fun a U g mk q => by obtain ⟨q0, qP, qK⟩ := q; exact ⟨q0, qP, va_K.moved (u := U) (U := U.calling g mk a) (Vm.Alike.refl U.vm) qK⟩, va_recv hKc hPc (ci := 4) (q0 := 0) rfl rfl, fun U hU hW => ⟨rfl, by rw [hU]; exact hPc, va_K.moved hW.alike hKc⟩⟩ rfl rfl hl.1 rfl (lv_room (Nat.le_of_ble_eq_true rfl)) dL_law_1723 ⟨Nat.le_of_ble_eq_true rfl, Nat.le_of_ble_eq_true rfl⟩) (fun r_1 w_1 => ?_)
  subst w_1
  refine lv_aload_n hx hb dL_law_1726 rfl (lv_at hl 2 rfl) ?_
  refine lv_aload_n hx hb dL_law_1727 rfl (lv_at hl 4 rfl) ?_
  refine lv_iload hx hb dL_law_1728 (lv_at hl 0 rfl) ?_
  refine lv_iconst (v := 1) hx hb dL_law_1730 (by decide) ?_
  refine lv_iadd hx hb dL_law_1731 ?_
  refine W.eq (g2 := F0 m 1732 ls [.int 1, .ref b, .ref m0, .int (-1)]) (by first | rfl | (congr 2; decide)) ?_
  refine va_sld hx hb hX hbl hbA hS (i := 1) (ki_inl (by decide)) dL_law_1732 ?_
  refine lv_aload_n hx hb dL_law_1733 rfl (lv_at hl 4 rfl) ?_
  refine lv_iload hx hb dL_law_1734 (lv_at hl 0 rfl) ?_
  refine lv_iconst (v := 2) hx hb dL_law_1736 (by decide) ?_
  refine lv_iadd hx hb dL_law_1737 ?_
  refine W.eq (g2 := F0 m 1738 ls [.int 2, .ref b, .int (xs (1 : Int32).toNatClampNeg), .ref m0, .int (-1)]) (by first | rfl | (congr 2; decide)) ?_
  refine va_sld hx hb hX hbl hbA hS (i := 2) (ki_inl (by decide)) dL_law_1738 ?_
  refine lv_aload_n hx hb dL_law_1739 rfl (lv_at hl 4 rfl) ?_
  refine lv_iload hx hb dL_law_1740 (lv_at hl 0 rfl) ?_
  refine lv_iconst (v := 3) hx hb dL_law_1742 (by decide) ?_
  refine lv_iadd hx hb dL_law_1743 ?_
  refine W.eq (g2 := F0 m 1744 ls [.int 3, .ref b, .int (xs (2 : Int32).toNatClampNeg), .int (xs (1 : Int32).toNatClampNeg), .ref m0, .int (-1)]) (by first | rfl | (congr 2; decide)) ?_
  refine va_sld hx hb hX hbl hbA hS (i := 3) (ki_inl (by decide)) dL_law_1744 ?_
  refine lv_aload_n hx hb dL_law_1745 rfl (lv_at hl 4 rfl) ?_
  refine lv_iload hx hb dL_law_1746 (lv_at hl 0 rfl) ?_
  refine lv_iconst (v := 4) hx hb dL_law_1748 (by decide) ?_
  refine lv_iadd hx hb dL_law_1749 ?_
  refine W.eq (g2 := F0 m 1750 ls [.int 4, .ref b, .int (xs (3 : Int32).toNatClampNeg), .int (xs (2 : Int32).toNatClampNeg), .int (xs (1 : Int32).toNatClampNeg), .ref m0, .int (-1)]) (by first | rfl | (congr 2; decide)) ?_
  refine va_sld hx hb hX hbl hbA hS (i := 4) (ki_inl (by decide)) dL_law_1750 ?_
  refine lv_aload_n hx hb dL_law_1751 rfl (lv_at hl 4 rfl) ?_
  refine lv_iload hx hb dL_law_1752 (lv_at hl 0 rfl) ?_
  refine lv_iconst (v := 5) hx hb dL_law_1754 (by decide) ?_
  refine lv_iadd hx hb dL_law_1755 ?_
  refine W.eq (g2 := F0 m 1756 ls [.int 5, .ref b, .int (xs (4 : Int32).toNatClampNeg), .int (xs (3 : Int32).toNatClampNeg), .int (xs (2 : Int32).toNatClampNeg), .int (xs (1 : Int32).toNatClampNeg), .ref m0, .int (-1)]) (by first | rfl | (congr 2; decide)) ?_
  refine va_sld hx hb hX hbl hbA hS (i := 5) (ki_inl (by decide)) dL_law_1756 ?_
  refine lv_aload_n hx hb dL_law_1757 rfl (lv_at hl 4 rfl) ?_
  refine lv_iload hx hb dL_law_1758 (lv_at hl 0 rfl) ?_
  refine lv_bipush (v := 6) hx hb dL_law_1760 (by decide) ?_
  refine lv_iadd hx hb dL_law_1762 ?_
  refine W.eq (g2 := F0 m 1763 ls [.int 6, .ref b, .int (xs (5 : Int32).toNatClampNeg), .int (xs (4 : Int32).toNatClampNeg), .int (xs (3 : Int32).toNatClampNeg), .int (xs (2 : Int32).toNatClampNeg), .int (xs (1 : Int32).toNatClampNeg), .ref m0, .int (-1)]) (by first | rfl | (congr 2; decide)) ?_
  refine va_sld hx hb hX hbl hbA hS (i := 6) (ki_inl (by decide)) dL_law_1763 ?_
  have hPc := hP.sub (ws' := [(m0, .inr (5, [.ref m_row, .int 0, .int 2, .int 0, .ref m_many, .ref m_loss, .ref m_less, .ref m_voteValue, .ref m_voteNumber, .ref m_allValue, .ref m_allNumber, .int 0, .ref m_nodeL, .ref m_nodeR, .int 0, .ref m_part, .int 0, .ref m_wasMany, .ref m_wasLoss, .ref m_wasValue, .ref m_wasNumber, .ref m_path, .int 0, .ref m_heavyValue, .ref m_heavyTimes, .int 0, .ref m_fewest, .ref m_which, .ref m_met, .int 0]))]) [7] rfl
  have hKc := hK.sub (tys' := []) [] rfl
  have hDc := hD.sub (ws' := [(m0, .inr (5, [.ref m_row, .int 0, .int 2, .int 0, .ref m_many, .ref m_loss, .ref m_less, .ref m_voteValue, .ref m_voteNumber, .ref m_allValue, .ref m_allNumber, .int 0, .ref m_nodeL, .ref m_nodeR, .int 0, .ref m_part, .int 0, .ref m_wasMany, .ref m_wasLoss, .ref m_wasValue, .ref m_wasNumber, .ref m_path, .int 0, .ref m_heavyValue, .ref m_heavyTimes, .int 0, .ref m_fewest, .ref m_which, .ref m_met, .int 0]))]) [7] (by decide) rfl
  have hFc := va_free (wc := [(m0, .inr (5, [.ref m_row, .int 0, .int 2, .int 0, .ref m_many, .ref m_loss, .ref m_less, .ref m_voteValue, .ref m_voteNumber, .ref m_allValue, .ref m_allNumber, .int 0, .ref m_nodeL, .ref m_nodeR, .int 0, .ref m_part, .int 0, .ref m_wasMany, .ref m_wasLoss, .ref m_wasValue, .ref m_wasNumber, .ref m_path, .int 0, .ref m_heavyValue, .ref m_heavyTimes, .int 0, .ref m_fewest, .ref m_which, .ref m_met, .int 0]))]) hD hS hA [7] rfl
  refine va_calli (va_runV (As := [.int (xs (1 : Int32).toNatClampNeg), .int (xs (2 : Int32).toNatClampNeg), .int (xs (3 : Int32).toNatClampNeg), .int (xs (4 : Int32).toNatClampNeg), .int (xs (5 : Int32).toNatClampNeg), .int (xs (6 : Int32).toNatClampNeg)]) (rest := [.int (-1)]) ⟨hx, hb, hml, hown, (lwC_X5_both hts0)⟩ (c_X5_both l dC dI m0 m_row m_many m_loss m_less m_voteValue m_voteNumber m_allValue m_allNumber m_nodeL m_nodeR m_part m_wasMany m_wasLoss m_wasValue m_wasNumber m_path m_heavyValue m_heavyTimes m_fewest m_which m_met (xs (1 : Int32).toNatClampNeg) (xs (2 : Int32).toNatClampNeg) (xs (3 : Int32).toNatClampNeg) (xs (4 : Int32).toNatClampNeg) (xs (5 : Int32).toNatClampNeg) (xs (6 : Int32).toNatClampNeg) H.size) (cwV 6 (lwC_X5_both hts0) lwG_X5_both rfl rfl rfl (by decide +kernel) ⟨Nat.le_of_ble_eq_true rfl, Nat.le_of_ble_eq_true rfl⟩) ⟨fun a U g mk q => by obtain ⟨q0, q1, qP, qK, qD⟩ := q; exact ⟨q0, q1, qP, va_K.moved (u := U) (U := U.calling g mk a) (Vm.Alike.refl U.vm) qK, qD⟩, va_recv hKc hPc (ci := 5) (q0 := 0) rfl rfl, fun U hU hW => ⟨rfl, by rw [hU], by rw [hU]; exact hPc, va_K.moved hW.alike hKc, hDc.weaken (fun _ _ _ _ => trivial)⟩⟩ rfl rfl hl.1 rfl (lv_room (Nat.le_of_ble_eq_true rfl)) dL_law_1764 ⟨Nat.le_of_ble_eq_true rfl, Nat.le_of_ble_eq_true rfl⟩) hS (fun q _ h => hFc q h) hFc (fun r_2 u t H1 locs ht hvm w_2 hB hz1 hk1 hS => ?_)
  obtain ⟨hP1, hK1, hD1⟩ := hB
  rw [ht] at hP1
  have hK1 := va_K.moved hvm.symm hK1
  obtain ⟨hP, hD⟩ := va_join (wr := [(x0, .inr (4, [.ref x_row, .ref x_tree, .ref x_tally, .ref x_votes, .ref x_otherVotes, .ref x_wins, .ref x_fewest, .int 2, .int 1])), (x_row, .inr (0, [.ref x_cell, .int 0])), (x_cell, .inl (cyI, 160, .inl fc)), (x_tree, .inr (2, [.ref x_row, .ref x_joined, .ref x_from, .ref x_to, .ref x_size, .ref x_lossOf, .ref x_lessBy, .ref x_tvalue, .ref x_tnumber, .int 0, .int 0])), (x_from, .inl (cyI, 319, .inl ff)), (x_to, .inl (cyI, 319, .inl ft)), (x_tally, .inr (1, [.ref x_kind, .ref x_often, .int 0, .int 0])), (m_row, .inl (cyI, 160, .inl fm))]) (w1 := [(m0, .inr (5, [.ref m_row, .int 0, .int 2, .int 0, .ref m_many, .ref m_loss, .ref m_less, .ref m_voteValue, .ref m_voteNumber, .ref m_allValue, .ref m_allNumber, .int 0, .ref m_nodeL, .ref m_nodeR, .int 0, .ref m_part, .int 0, .ref m_wasMany, .ref m_wasLoss, .ref m_wasValue, .ref m_wasNumber, .ref m_path, .int 0, .ref m_heavyValue, .ref m_heavyTimes, .int 0, .ref m_fewest, .ref m_which, .ref m_met, .int 0]))]) hP hD [7] [0, 1, 2, 3, 4, 5, 6, 8] rfl rfl (by decide) (by decide) hk1 hFc hP1 hD1
  clear hP1 hD1 hK1 hk1 hz1 hFc hDc hPc hKc
  generalize H1 = H at hP hS ⊢
  have hP : va_P (dC, dI) vwCl [(x0, .inr (4, [.ref x_row, .ref x_tree, .ref x_tally, .ref x_votes, .ref x_otherVotes, .ref x_wins, .ref x_fewest, .int 2, .int 1])), (x_row, .inr (0, [.ref x_cell, .int 0])), (x_cell, .inl (cyI, 160, .inl fc)), (x_tree, .inr (2, [.ref x_row, .ref x_joined, .ref x_from, .ref x_to, .ref x_size, .ref x_lossOf, .ref x_lessBy, .ref x_tvalue, .ref x_tnumber, .int 0, .int 0])), (x_from, .inl (cyI, 319, .inl ff)), (x_to, .inl (cyI, 319, .inl ft)), (x_tally, .inr (1, [.ref x_kind, .ref x_often, .int 0, .int 0])), (m_row, .inl (cyI, 160, .inl fm)), (m0, .inr (5, [.ref m_row, .int 0, .int 2, .int 0, .ref m_many, .ref m_loss, .ref m_less, .ref m_voteValue, .ref m_voteNumber, .ref m_allValue, .ref m_allNumber, .int 0, .ref m_nodeL, .ref m_nodeR, .int 0, .ref m_part, .int 0, .ref m_wasMany, .ref m_wasLoss, .ref m_wasValue, .ref m_wasNumber, .ref m_path, .int 0, .ref m_heavyValue, .ref m_heavyTimes, .int 0, .ref m_fewest, .ref m_which, .ref m_met, .int 0]))] H := hP
  have hD : va_D (fun q : Nat => s.heap.size ≤ q) [(x0, .inr (4, [.ref x_row, .ref x_tree, .ref x_tally, .ref x_votes, .ref x_otherVotes, .ref x_wins, .ref x_fewest, .int 2, .int 1])), (x_row, .inr (0, [.ref x_cell, .int 0])), (x_cell, .inl (cyI, 160, .inl fc)), (x_tree, .inr (2, [.ref x_row, .ref x_joined, .ref x_from, .ref x_to, .ref x_size, .ref x_lossOf, .ref x_lessBy, .ref x_tvalue, .ref x_tnumber, .int 0, .int 0])), (x_from, .inl (cyI, 319, .inl ff)), (x_to, .inl (cyI, 319, .inl ft)), (x_tally, .inr (1, [.ref x_kind, .ref x_often, .int 0, .int 0])), (m_row, .inl (cyI, 160, .inl fm)), (m0, .inr (5, [.ref m_row, .int 0, .int 2, .int 0, .ref m_many, .ref m_loss, .ref m_less, .ref m_voteValue, .ref m_voteNumber, .ref m_allValue, .ref m_allNumber, .int 0, .ref m_nodeL, .ref m_nodeR, .int 0, .ref m_part, .int 0, .ref m_wasMany, .ref m_wasLoss, .ref m_wasValue, .ref m_wasNumber, .ref m_path, .int 0, .ref m_heavyValue, .ref m_heavyTimes, .int 0, .ref m_fewest, .ref m_which, .ref m_met, .int 0]))] := hD
  subst w_2
  refine lv_icmp_eq (tgt := 2400) hx hb dL_law_1767 (by decide) (fun c_3 => ?_) (fun c_3 => ?_)
  · refine W.widen (k := 100) (n := 30000) (Nat.le_of_ble_eq_true rfl) (Nat.le_of_ble_eq_true rfl) ?_
    exact lc_end C0 hS (lv_sub hl [0, 4] rfl)
  · exact absurd c_3 (by decide)

set_option maxHeartbeats 4000000 in
set_option maxRecDepth 100000 in
theorem lc_32 {p : Program} {l : Launch} {e : Env} {s : State} {m : MethodId} {below : List Frame} {meth : Method} {c : Code} {dC : Nat → ClassId} {dI : Nat → Nat → Nat} {b : Nat} {xs : Nat → Int32} (hl0 : l.stackTraces = false) (C0 : lw_At p s m meth c b 8 xs) (hth : ki_Th s) {x0 x_row x_tree x_tally x_votes x_otherVotes x_wins x_fewest x_cell x_joined x_from x_to x_size x_lossOf x_lessBy x_tvalue x_tnumber x_kind x_often m0 m_row m_many m_loss m_less m_voteValue m_voteNumber m_allValue m_allNumber m_nodeL m_nodeR m_part m_wasMany m_wasLoss m_wasValue m_wasNumber m_path m_heavyValue m_heavyTimes m_fewest m_which m_met q_o : Nat} {cyI : ClassId} {fc ff ft fm : Nat → Int32} {H : Heap} {locs : List Loc} (hK : va_K (dC, dI) vwCl [(cyI, .int)] s) (hP : va_P (dC, dI) vwCl [(x0, .inr (4, [.ref x_row, .ref x_tree, .ref x_tally, .ref x_votes, .ref x_otherVotes, .ref x_wins, .ref x_fewest, .int 2, .int 1])), (x_row, .inr (0, [.ref x_cell, .int 0])), (x_cell, .inl (cyI, 160, .inl fc)), (x_tree, .inr (2, [.ref x_row, .ref x_joined, .ref x_from, .ref x_to, .ref x_size, .ref x_lossOf, .ref x_lessBy, .ref x_tvalue, .ref x_tnumber, .int 0, .int 0])), (x_from, .inl (cyI, 319, .inl ff)), (x_to, .inl (cyI, 319, .inl ft)), (x_tally, .inr (1, [.ref x_kind, .ref x_often, .int 0, .int 0])), (m0, .inr (5, [.ref m_row, .int 0, .int 2, .int 0, .ref m_many, .ref m_loss, .ref m_less, .ref m_voteValue, .ref m_voteNumber, .ref m_allValue, .ref m_allNumber, .int 0, .ref m_nodeL, .ref m_nodeR, .int 0, .ref m_part, .int 0, .ref m_wasMany, .ref m_wasLoss, .ref m_wasValue, .ref m_wasNumber, .ref m_path, .int 0, .ref m_heavyValue, .ref m_heavyTimes, .int 0, .ref m_fewest, .ref m_which, .ref m_met, .int 0])), (m_row, .inl (cyI, 160, .inl fm))] H) (hD : va_D (fun q : Nat => s.heap.size ≤ q) [(x0, .inr (4, [.ref x_row, .ref x_tree, .ref x_tally, .ref x_votes, .ref x_otherVotes, .ref x_wins, .ref x_fewest, .int 2, .int 1])), (x_row, .inr (0, [.ref x_cell, .int 0])), (x_cell, .inl (cyI, 160, .inl fc)), (x_tree, .inr (2, [.ref x_row, .ref x_joined, .ref x_from, .ref x_to, .ref x_size, .ref x_lossOf, .ref x_lessBy, .ref x_tvalue, .ref x_tnumber, .int 0, .int 0])), (x_from, .inl (cyI, 319, .inl ff)), (x_to, .inl (cyI, 319, .inl ft)), (x_tally, .inr (1, [.ref x_kind, .ref x_often, .int 0, .int 0])), (m0, .inr (5, [.ref m_row, .int 0, .int 2, .int 0, .ref m_many, .ref m_loss, .ref m_less, .ref m_voteValue, .ref m_voteNumber, .ref m_allValue, .ref m_allNumber, .int 0, .ref m_nodeL, .ref m_nodeR, .int 0, .ref m_part, .int 0, .ref m_wasMany, .ref m_wasLoss, .ref m_wasValue, .ref m_wasNumber, .ref m_path, .int 0, .ref m_heavyValue, .ref m_heavyTimes, .int 0, .ref m_fewest, .ref m_which, .ref m_met, .int 0])), (m_row, .inl (cyI, 160, .inl fm))]) (hS : va_S (fun q : Nat => s.heap.size ≤ q) s.heap H locs) {ls : Array Slot} (hl : lv_has ls 7 [(4, .int 0), (3, .ref q_o), (2, .ref m0), (1, .ref x0), (0, .ref b)]) : W p l e room_1 s m #[Value.ref b] below meth c H locs 60 20000 (lw_Z below #[Value.ref b] s) (F0 m 1772 ls []) := by
  obtain ⟨hx, hb, hr, hml, hown, hts0, hX, hbl, hlocks, hgv⟩ := id C0
  have hts := hts0
  have hA : ∀ q : Nat, s.heap.size ≤ q → (fun q : Nat => s.heap.size ≤ q) q := fun _ h => h
  have hbA : ¬ (fun q : Nat => s.heap.size ≤ q) b := Nat.not_le.mpr hbl
  have hown : s.vm.findClass RL = some m.cls := hown
  have hb : c.code = cL_law := hb
  refine lv_aload_n hx hb dL_law_1772 rfl (lv_at hl 3 rfl) ?_
  refine lv_aload_n hx hb dL_law_1773 rfl (lv_at hl 4 rfl) ?_
  refine lv_iload hx hb dL_law_1774 (lv_at hl 0 rfl) ?_
  refine lv_iconst (v := 1) hx hb dL_law_1776 (by decide) ?_
  refine lv_iadd hx hb dL_law_1777 ?_
  refine W.eq (g2 := F0 m 1778 ls [.int 1, .ref b, .ref x0]) (by first | rfl | (congr 2; decide)) ?_
  refine va_sld hx hb hX hbl hbA hS (i := 1) (ki_inl (by decide)) dL_law_1778 ?_
  refine lv_aload_n hx hb dL_law_1779 rfl (lv_at hl 4 rfl) ?_
  refine lv_iload hx hb dL_law_1780 (lv_at hl 0 rfl) ?_
  refine lv_iconst (v := 2) hx hb dL_law_1782 (by decide) ?_
  refine lv_iadd hx hb dL_law_1783 ?_
  refine W.eq (g2 := F0 m 1784 ls [.int 2, .ref b, .int (xs (1 : Int32).toNatClampNeg), .ref x0]) (by first | rfl | (congr 2; decide)) ?_
  refine va_sld hx hb hX hbl hbA hS (i := 2) (ki_inl (by decide)) dL_law_1784 ?_
  refine lv_aload_n hx hb dL_law_1785 rfl (lv_at hl 4 rfl) ?_
  refine lv_iload hx hb dL_law_1786 (lv_at hl 0 rfl) ?_
  refine lv_iconst (v := 3) hx hb dL_law_1788 (by decide) ?_
  refine lv_iadd hx hb dL_law_1789 ?_
  refine W.eq (g2 := F0 m 1790 ls [.int 3, .ref b, .int (xs (2 : Int32).toNatClampNeg), .int (xs (1 : Int32).toNatClampNeg), .ref x0]) (by first | rfl | (congr 2; decide)) ?_
  refine va_sld hx hb hX hbl hbA hS (i := 3) (ki_inl (by decide)) dL_law_1790 ?_
  refine lv_aload_n hx hb dL_law_1791 rfl (lv_at hl 4 rfl) ?_
  refine lv_iload hx hb dL_law_1792 (lv_at hl 0 rfl) ?_
  refine lv_iconst (v := 4) hx hb dL_law_1794 (by decide) ?_
  refine lv_iadd hx hb dL_law_1795 ?_
  refine W.eq (g2 := F0 m 1796 ls [.int 4, .ref b, .int (xs (3 : Int32).toNatClampNeg), .int (xs (2 : Int32).toNatClampNeg), .int (xs (1 : Int32).toNatClampNeg), .ref x0]) (by first | rfl | (congr 2; decide)) ?_
  refine va_sld hx hb hX hbl hbA hS (i := 4) (ki_inl (by decide)) dL_law_1796 ?_
  refine lv_aload_n hx hb dL_law_1797 rfl (lv_at hl 4 rfl) ?_
  refine lv_iload hx hb dL_law_1798 (lv_at hl 0 rfl) ?_
  refine lv_iconst (v := 5) hx hb dL_law_1800 (by decide) ?_
  refine lv_iadd hx hb dL_law_1801 ?_
  refine W.eq (g2 := F0 m 1802 ls [.int 5, .ref b, .int (xs (4 : Int32).toNatClampNeg), .int (xs (3 : Int32).toNatClampNeg), .int (xs (2 : Int32).toNatClampNeg), .int (xs (1 : Int32).toNatClampNeg), .ref x0]) (by first | rfl | (congr 2; decide)) ?_
  refine va_sld hx hb hX hbl hbA hS (i := 5) (ki_inl (by decide)) dL_law_1802 ?_
  refine lv_aload_n hx hb dL_law_1803 rfl (lv_at hl 4 rfl) ?_
  refine lv_iload hx hb dL_law_1804 (lv_at hl 0 rfl) ?_
  refine lv_bipush (v := 6) hx hb dL_law_1806 (by decide) ?_
  refine lv_iadd hx hb dL_law_1808 ?_
  refine W.eq (g2 := F0 m 1809 ls [.int 6, .ref b, .int (xs (5 : Int32).toNatClampNeg), .int (xs (4 : Int32).toNatClampNeg), .int (xs (3 : Int32).toNatClampNeg), .int (xs (2 : Int32).toNatClampNeg), .int (xs (1 : Int32).toNatClampNeg), .ref x0]) (by first | rfl | (congr 2; decide)) ?_
  refine va_sld hx hb hX hbl hbA hS (i := 6) (ki_inl (by decide)) dL_law_1809 ?_
  refine lv_aload_n hx hb dL_law_1810 rfl (lv_at hl 4 rfl) ?_
  refine lv_iload hx hb dL_law_1811 (lv_at hl 0 rfl) ?_
  refine lv_bipush (v := 7) hx hb dL_law_1813 (by decide) ?_
  refine lv_iadd hx hb dL_law_1815 ?_
  refine W.eq (g2 := F0 m 1816 ls [.int 7, .ref b, .int (xs (6 : Int32).toNatClampNeg), .int (xs (5 : Int32).toNatClampNeg), .int (xs (4 : Int32).toNatClampNeg), .int (xs (3 : Int32).toNatClampNeg), .int (xs (2 : Int32).toNatClampNeg), .int (xs (1 : Int32).toNatClampNeg), .ref x0]) (by first | rfl | (congr 2; decide)) ?_
  refine va_sld hx hb hX hbl hbA hS (i := 7) (ki_inl (by decide)) dL_law_1816 ?_
  have hPc := hP.sub (ws' := [(x0, .inr (4, [.ref x_row, .ref x_tree, .ref x_tally, .ref x_votes, .ref x_otherVotes, .ref x_wins, .ref x_fewest, .int 2, .int 1])), (x_row, .inr (0, [.ref x_cell, .int 0]))]) [0, 1] rfl
  have hKc := hK.sub (tys' := []) [] rfl
  refine vp_callSi (W.runV (As := [.int (xs (1 : Int32).toNatClampNeg), .int (xs (2 : Int32).toNatClampNeg), .int (xs (3 : Int32).toNatClampNeg), .int (xs (4 : Int32).toNatClampNeg), .int (xs (5 : Int32).toNatClampNeg), .int (xs (6 : Int32).toNatClampNeg), .int (xs (7 : Int32).toNatClampNeg)]) (rest := []) ⟨hx, hb, hml, hown, (lwC_X4_bothAt hts0)⟩ (c_X4_bothAt l dC dI x0 x_row x_tree x_tally x_votes x_otherVotes x_wins x_fewest x_cell (xs (1 : Int32).toNatClampNeg) (xs (2 : Int32).toNatClampNeg) (xs (3 : Int32).toNatClampNeg) (xs (4 : Int32).toNatClampNeg) (xs (5 : Int32).toNatClampNeg) (xs (6 : Int32).toNatClampNeg) (xs (7 : Int32).toNatClampNeg)) (cwV 7 (lwC_X4_bothAt hts0) lwG_X4_bothAt rfl rfl rfl (by decide +kernel) ⟨Nat.le_of_ble_eq_true rfl, Nat.le_of_ble_eq_true rfl⟩) ⟨fun a U g mk q => by obtain ⟨q0, qP, qK⟩ := q; exact ⟨q0, qP, va_K.moved (u := U) (U := U.calling g mk a) (Vm.Alike.refl U.vm) qK⟩, va_recv hKc hPc (ci := 4) (q0 := 0) rfl rfl, fun U hU hW => ⟨rfl, by rw [hU]; exact hPc, va_K.moved hW.alike hKc⟩⟩ rfl rfl hl.1 rfl (lv_room (Nat.le_of_ble_eq_true rfl)) dL_law_1817 ⟨Nat.le_of_ble_eq_true rfl, Nat.le_of_ble_eq_true rfl⟩) (fun r_1 w_1 => ?_)
  subst w_1
  refine lv_aload_n hx hb dL_law_1820 rfl (lv_at hl 2 rfl) ?_
  refine lv_aload_n hx hb dL_law_1821 rfl (lv_at hl 4 rfl) ?_
  refine lv_iload hx hb dL_law_1822 (lv_at hl 0 rfl) ?_
  refine lv_iconst (v := 1) hx hb dL_law_1824 (by decide) ?_
  refine lv_iadd hx hb dL_law_1825 ?_
  refine W.eq (g2 := F0 m 1826 ls [.int 1, .ref b, .ref m0, .int (-40000)]) (by first | rfl | (congr 2; decide)) ?_
  refine va_sld hx hb hX hbl hbA hS (i := 1) (ki_inl (by decide)) dL_law_1826 ?_
  refine lv_aload_n hx hb dL_law_1827 rfl (lv_at hl 4 rfl) ?_
  refine lv_iload hx hb dL_law_1828 (lv_at hl 0 rfl) ?_
  refine lv_iconst (v := 2) hx hb dL_law_1830 (by decide) ?_
  refine lv_iadd hx hb dL_law_1831 ?_
  refine W.eq (g2 := F0 m 1832 ls [.int 2, .ref b, .int (xs (1 : Int32).toNatClampNeg), .ref m0, .int (-40000)]) (by first | rfl | (congr 2; decide)) ?_
  refine va_sld hx hb hX hbl hbA hS (i := 2) (ki_inl (by decide)) dL_law_1832 ?_
  refine lv_aload_n hx hb dL_law_1833 rfl (lv_at hl 4 rfl) ?_
  refine lv_iload hx hb dL_law_1834 (lv_at hl 0 rfl) ?_
  refine lv_iconst (v := 3) hx hb dL_law_1836 (by decide) ?_
  refine lv_iadd hx hb dL_law_1837 ?_
  refine W.eq (g2 := F0 m 1838 ls [.int 3, .ref b, .int (xs (2 : Int32).toNatClampNeg), .int (xs (1 : Int32).toNatClampNeg), .ref m0, .int (-40000)]) (by first | rfl | (congr 2; decide)) ?_
  refine va_sld hx hb hX hbl hbA hS (i := 3) (ki_inl (by decide)) dL_law_1838 ?_
  refine lv_aload_n hx hb dL_law_1839 rfl (lv_at hl 4 rfl) ?_
  refine lv_iload hx hb dL_law_1840 (lv_at hl 0 rfl) ?_
  refine lv_iconst (v := 4) hx hb dL_law_1842 (by decide) ?_
  refine lv_iadd hx hb dL_law_1843 ?_
  refine W.eq (g2 := F0 m 1844 ls [.int 4, .ref b, .int (xs (3 : Int32).toNatClampNeg), .int (xs (2 : Int32).toNatClampNeg), .int (xs (1 : Int32).toNatClampNeg), .ref m0, .int (-40000)]) (by first | rfl | (congr 2; decide)) ?_
  refine va_sld hx hb hX hbl hbA hS (i := 4) (ki_inl (by decide)) dL_law_1844 ?_
  refine lv_aload_n hx hb dL_law_1845 rfl (lv_at hl 4 rfl) ?_
  refine lv_iload hx hb dL_law_1846 (lv_at hl 0 rfl) ?_
  refine lv_iconst (v := 5) hx hb dL_law_1848 (by decide) ?_
  refine lv_iadd hx hb dL_law_1849 ?_
  refine W.eq (g2 := F0 m 1850 ls [.int 5, .ref b, .int (xs (4 : Int32).toNatClampNeg), .int (xs (3 : Int32).toNatClampNeg), .int (xs (2 : Int32).toNatClampNeg), .int (xs (1 : Int32).toNatClampNeg), .ref m0, .int (-40000)]) (by first | rfl | (congr 2; decide)) ?_
  refine va_sld hx hb hX hbl hbA hS (i := 5) (ki_inl (by decide)) dL_law_1850 ?_
  refine lv_aload_n hx hb dL_law_1851 rfl (lv_at hl 4 rfl) ?_
  refine lv_iload hx hb dL_law_1852 (lv_at hl 0 rfl) ?_
  refine lv_bipush (v := 6) hx hb dL_law_1854 (by decide) ?_
  refine lv_iadd hx hb dL_law_1856 ?_
  refine W.eq (g2 := F0 m 1857 ls [.int 6, .ref b, .int (xs (5 : Int32).toNatClampNeg), .int (xs (4 : Int32).toNatClampNeg), .int (xs (3 : Int32).toNatClampNeg), .int (xs (2 : Int32).toNatClampNeg), .int (xs (1 : Int32).toNatClampNeg), .ref m0, .int (-40000)]) (by first | rfl | (congr 2; decide)) ?_
  refine va_sld hx hb hX hbl hbA hS (i := 6) (ki_inl (by decide)) dL_law_1857 ?_
  refine lv_aload_n hx hb dL_law_1858 rfl (lv_at hl 4 rfl) ?_
  refine lv_iload hx hb dL_law_1859 (lv_at hl 0 rfl) ?_
  refine lv_bipush (v := 7) hx hb dL_law_1861 (by decide) ?_
  refine lv_iadd hx hb dL_law_1863 ?_
  refine W.eq (g2 := F0 m 1864 ls [.int 7, .ref b, .int (xs (6 : Int32).toNatClampNeg), .int (xs (5 : Int32).toNatClampNeg), .int (xs (4 : Int32).toNatClampNeg), .int (xs (3 : Int32).toNatClampNeg), .int (xs (2 : Int32).toNatClampNeg), .int (xs (1 : Int32).toNatClampNeg), .ref m0, .int (-40000)]) (by first | rfl | (congr 2; decide)) ?_
  refine va_sld hx hb hX hbl hbA hS (i := 7) (ki_inl (by decide)) dL_law_1864 ?_
  have hPc := hP.sub (ws' := [(m0, .inr (5, [.ref m_row, .int 0, .int 2, .int 0, .ref m_many, .ref m_loss, .ref m_less, .ref m_voteValue, .ref m_voteNumber, .ref m_allValue, .ref m_allNumber, .int 0, .ref m_nodeL, .ref m_nodeR, .int 0, .ref m_part, .int 0, .ref m_wasMany, .ref m_wasLoss, .ref m_wasValue, .ref m_wasNumber, .ref m_path, .int 0, .ref m_heavyValue, .ref m_heavyTimes, .int 0, .ref m_fewest, .ref m_which, .ref m_met, .int 0]))]) [7] rfl
  have hKc := hK.sub (tys' := []) [] rfl
  have hDc := hD.sub (ws' := [(m0, .inr (5, [.ref m_row, .int 0, .int 2, .int 0, .ref m_many, .ref m_loss, .ref m_less, .ref m_voteValue, .ref m_voteNumber, .ref m_allValue, .ref m_allNumber, .int 0, .ref m_nodeL, .ref m_nodeR, .int 0, .ref m_part, .int 0, .ref m_wasMany, .ref m_wasLoss, .ref m_wasValue, .ref m_wasNumber, .ref m_path, .int 0, .ref m_heavyValue, .ref m_heavyTimes, .int 0, .ref m_fewest, .ref m_which, .ref m_met, .int 0]))]) [7] (by decide) rfl
  have hFc := va_free (wc := [(m0, .inr (5, [.ref m_row, .int 0, .int 2, .int 0, .ref m_many, .ref m_loss, .ref m_less, .ref m_voteValue, .ref m_voteNumber, .ref m_allValue, .ref m_allNumber, .int 0, .ref m_nodeL, .ref m_nodeR, .int 0, .ref m_part, .int 0, .ref m_wasMany, .ref m_wasLoss, .ref m_wasValue, .ref m_wasNumber, .ref m_path, .int 0, .ref m_heavyValue, .ref m_heavyTimes, .int 0, .ref m_fewest, .ref m_which, .ref m_met, .int 0]))]) hD hS hA [7] rfl
  refine va_calli (va_runV (As := [.int (xs (1 : Int32).toNatClampNeg), .int (xs (2 : Int32).toNatClampNeg), .int (xs (3 : Int32).toNatClampNeg), .int (xs (4 : Int32).toNatClampNeg), .int (xs (5 : Int32).toNatClampNeg), .int (xs (6 : Int32).toNatClampNeg), .int (xs (7 : Int32).toNatClampNeg)]) (rest := [.int (-40000)]) ⟨hx, hb, hml, hown, (lwC_X5_bothAt hts0)⟩ (c_X5_bothAt l dC dI m0 m_row m_many m_loss m_less m_voteValue m_voteNumber m_allValue m_allNumber m_nodeL m_nodeR m_part m_wasMany m_wasLoss m_wasValue m_wasNumber m_path m_heavyValue m_heavyTimes m_fewest m_which m_met (xs (1 : Int32).toNatClampNeg) (xs (2 : Int32).toNatClampNeg) (xs (3 : Int32).toNatClampNeg) (xs (4 : Int32).toNatClampNeg) (xs (5 : Int32).toNatClampNeg) (xs (6 : Int32).toNatClampNeg) (xs (7 : Int32).toNatClampNeg) H.size) (cwV 7 (lwC_X5_bothAt hts0) lwG_X5_bothAt rfl rfl rfl (by decide +kernel) ⟨Nat.le_of_ble_eq_true rfl, Nat.le_of_ble_eq_true rfl⟩) ⟨fun a U g mk q => by obtain ⟨q0, q1, qP, qK, qD⟩ := q; exact ⟨q0, q1, qP, va_K.moved (u := U) (U := U.calling g mk a) (Vm.Alike.refl U.vm) qK, qD⟩, va_recv hKc hPc (ci := 5) (q0 := 0) rfl rfl, fun U hU hW => ⟨rfl, by rw [hU], by rw [hU]; exact hPc, va_K.moved hW.alike hKc, hDc.weaken (fun _ _ _ _ => trivial)⟩⟩ rfl rfl hl.1 rfl (lv_room (Nat.le_of_ble_eq_true rfl)) dL_law_1865 ⟨Nat.le_of_ble_eq_true rfl, Nat.le_of_ble_eq_true rfl⟩) hS (fun q _ h => hFc q h) hFc (fun r_2 u t H1 locs ht hvm w_2 hB hz1 hk1 hS => ?_)
  obtain ⟨hP1, hK1, hD1⟩ := hB
  rw [ht] at hP1
  have hK1 := va_K.moved hvm.symm hK1
  obtain ⟨hP, hD⟩ := va_join (wr := [(x0, .inr (4, [.ref x_row, .ref x_tree, .ref x_tally, .ref x_votes, .ref x_otherVotes, .ref x_wins, .ref x_fewest, .int 2, .int 1])), (x_row, .inr (0, [.ref x_cell, .int 0])), (x_cell, .inl (cyI, 160, .inl fc)), (x_tree, .inr (2, [.ref x_row, .ref x_joined, .ref x_from, .ref x_to, .ref x_size, .ref x_lossOf, .ref x_lessBy, .ref x_tvalue, .ref x_tnumber, .int 0, .int 0])), (x_from, .inl (cyI, 319, .inl ff)), (x_to, .inl (cyI, 319, .inl ft)), (x_tally, .inr (1, [.ref x_kind, .ref x_often, .int 0, .int 0])), (m_row, .inl (cyI, 160, .inl fm))]) (w1 := []) hP hD [7] [0, 1, 2, 3, 4, 5, 6, 8] rfl rfl (by decide) (by decide) hk1 hFc hP1 hD1
  clear hP1 hD1 hK1 hk1 hz1 hFc hDc hPc hKc
  generalize H1 = H at hP hS ⊢
  have hP : va_P (dC, dI) vwCl [(x0, .inr (4, [.ref x_row, .ref x_tree, .ref x_tally, .ref x_votes, .ref x_otherVotes, .ref x_wins, .ref x_fewest, .int 2, .int 1])), (x_row, .inr (0, [.ref x_cell, .int 0])), (x_cell, .inl (cyI, 160, .inl fc)), (x_tree, .inr (2, [.ref x_row, .ref x_joined, .ref x_from, .ref x_to, .ref x_size, .ref x_lossOf, .ref x_lessBy, .ref x_tvalue, .ref x_tnumber, .int 0, .int 0])), (x_from, .inl (cyI, 319, .inl ff)), (x_to, .inl (cyI, 319, .inl ft)), (x_tally, .inr (1, [.ref x_kind, .ref x_often, .int 0, .int 0])), (m_row, .inl (cyI, 160, .inl fm))] H := hP
  have hD : va_D (fun q : Nat => s.heap.size ≤ q) [(x0, .inr (4, [.ref x_row, .ref x_tree, .ref x_tally, .ref x_votes, .ref x_otherVotes, .ref x_wins, .ref x_fewest, .int 2, .int 1])), (x_row, .inr (0, [.ref x_cell, .int 0])), (x_cell, .inl (cyI, 160, .inl fc)), (x_tree, .inr (2, [.ref x_row, .ref x_joined, .ref x_from, .ref x_to, .ref x_size, .ref x_lossOf, .ref x_lessBy, .ref x_tvalue, .ref x_tnumber, .int 0, .int 0])), (x_from, .inl (cyI, 319, .inl ff)), (x_to, .inl (cyI, 319, .inl ft)), (x_tally, .inr (1, [.ref x_kind, .ref x_often, .int 0, .int 0])), (m_row, .inl (cyI, 160, .inl fm))] := hD
  subst w_2
  refine lv_icmp_eq (tgt := 2400) hx hb dL_law_1868 (by decide) (fun c_3 => ?_) (fun c_3 => ?_)
  · refine W.widen (k := 100) (n := 30000) (Nat.le_of_ble_eq_true rfl) (Nat.le_of_ble_eq_true rfl) ?_
    exact lc_end C0 hS (lv_sub hl [0, 4] rfl)
  · exact absurd c_3 (by decide)

set_option maxHeartbeats 4000000 in
set_option maxRecDepth 100000 in
theorem lc_33 {p : Program} {l : Launch} {e : Env} {s : State} {m : MethodId} {below : List Frame} {meth : Method} {c : Code} {dC : Nat → ClassId} {dI : Nat → Nat → Nat} {b : Nat} {xs : Nat → Int32} (hl0 : l.stackTraces = false) (C0 : lw_At p s m meth c b 8 xs) (hth : ki_Th s) {x0 x_row x_tree x_tally x_votes x_otherVotes x_wins x_fewest x_cell x_joined x_from x_to x_size x_lossOf x_lessBy x_tvalue x_tnumber x_kind x_often m0 m_row m_many m_loss m_less m_voteValue m_voteNumber m_allValue m_allNumber m_nodeL m_nodeR m_part m_wasMany m_wasLoss m_wasValue m_wasNumber m_path m_heavyValue m_heavyTimes m_fewest m_which m_met q_o : Nat} {cyI : ClassId} {fc ff ft fm : Nat → Int32} {H : Heap} {locs : List Loc} (hK : va_K (dC, dI) vwCl [(cyI, .int)] s) (hP : va_P (dC, dI) vwCl [(x0, .inr (4, [.ref x_row, .ref x_tree, .ref x_tally, .ref x_votes, .ref x_otherVotes, .ref x_wins, .ref x_fewest, .int 2, .int 1])), (x_row, .inr (0, [.ref x_cell, .int 0])), (x_cell, .inl (cyI, 160, .inl fc)), (x_tree, .inr (2, [.ref x_row, .ref x_joined, .ref x_from, .ref x_to, .ref x_size, .ref x_lossOf, .ref x_lessBy, .ref x_tvalue, .ref x_tnumber, .int 0, .int 0])), (x_from, .inl (cyI, 319, .inl ff)), (x_to, .inl (cyI, 319, .inl ft)), (x_tally, .inr (1, [.ref x_kind, .ref x_often, .int 0, .int 0])), (m0, .inr (5, [.ref m_row, .int 0, .int 2, .int 0, .ref m_many, .ref m_loss, .ref m_less, .ref m_voteValue, .ref m_voteNumber, .ref m_allValue, .ref m_allNumber, .int 0, .ref m_nodeL, .ref m_nodeR, .int 0, .ref m_part, .int 0, .ref m_wasMany, .ref m_wasLoss, .ref m_wasValue, .ref m_wasNumber, .ref m_path, .int 0, .ref m_heavyValue, .ref m_heavyTimes, .int 0, .ref m_fewest, .ref m_which, .ref m_met, .int 0])), (m_row, .inl (cyI, 160, .inl fm))] H) (hD : va_D (fun q : Nat => s.heap.size ≤ q) [(x0, .inr (4, [.ref x_row, .ref x_tree, .ref x_tally, .ref x_votes, .ref x_otherVotes, .ref x_wins, .ref x_fewest, .int 2, .int 1])), (x_row, .inr (0, [.ref x_cell, .int 0])), (x_cell, .inl (cyI, 160, .inl fc)), (x_tree, .inr (2, [.ref x_row, .ref x_joined, .ref x_from, .ref x_to, .ref x_size, .ref x_lossOf, .ref x_lessBy, .ref x_tvalue, .ref x_tnumber, .int 0, .int 0])), (x_from, .inl (cyI, 319, .inl ff)), (x_to, .inl (cyI, 319, .inl ft)), (x_tally, .inr (1, [.ref x_kind, .ref x_often, .int 0, .int 0])), (m0, .inr (5, [.ref m_row, .int 0, .int 2, .int 0, .ref m_many, .ref m_loss, .ref m_less, .ref m_voteValue, .ref m_voteNumber, .ref m_allValue, .ref m_allNumber, .int 0, .ref m_nodeL, .ref m_nodeR, .int 0, .ref m_part, .int 0, .ref m_wasMany, .ref m_wasLoss, .ref m_wasValue, .ref m_wasNumber, .ref m_path, .int 0, .ref m_heavyValue, .ref m_heavyTimes, .int 0, .ref m_fewest, .ref m_which, .ref m_met, .int 0])), (m_row, .inl (cyI, 160, .inl fm))]) (hS : va_S (fun q : Nat => s.heap.size ≤ q) s.heap H locs) {ls : Array Slot} (hl : lv_has ls 7 [(4, .int 0), (3, .ref q_o), (2, .ref m0), (1, .ref x0), (0, .ref b)]) : W p l e room_1 s m #[Value.ref b] below meth c H locs 60 20000 (lw_Z below #[Value.ref b] s) (F0 m 1873 ls []) := by
  obtain ⟨hx, hb, hr, hml, hown, hts0, hX, hbl, hlocks, hgv⟩ := id C0
  have hts := hts0
  have hA : ∀ q : Nat, s.heap.size ≤ q → (fun q : Nat => s.heap.size ≤ q) q := fun _ h => h
  have hbA : ¬ (fun q : Nat => s.heap.size ≤ q) b := Nat.not_le.mpr hbl
  have hown : s.vm.findClass RL = some m.cls := hown
  have hb : c.code = cL_law := hb
  refine lv_aload_n hx hb dL_law_1873 rfl (lv_at hl 3 rfl) ?_
  refine lv_aload_n hx hb dL_law_1874 rfl (lv_at hl 4 rfl) ?_
  refine lv_iload hx hb dL_law_1875 (lv_at hl 0 rfl) ?_
  refine lv_iconst (v := 1) hx hb dL_law_1877 (by decide) ?_
  refine lv_iadd hx hb dL_law_1878 ?_
  refine W.eq (g2 := F0 m 1879 ls [.int 1, .ref b, .ref x0]) (by first | rfl | (congr 2; decide)) ?_
  refine va_sld hx hb hX hbl hbA hS (i := 1) (ki_inl (by decide)) dL_law_1879 ?_
  refine lv_aload_n hx hb dL_law_1880 rfl (lv_at hl 4 rfl) ?_
  refine lv_iload hx hb dL_law_1881 (lv_at hl 0 rfl) ?_
  refine lv_iconst (v := 2) hx hb dL_law_1883 (by decide) ?_
  refine lv_iadd hx hb dL_law_1884 ?_
  refine W.eq (g2 := F0 m 1885 ls [.int 2, .ref b, .int (xs (1 : Int32).toNatClampNeg), .ref x0]) (by first | rfl | (congr 2; decide)) ?_
  refine va_sld hx hb hX hbl hbA hS (i := 2) (ki_inl (by decide)) dL_law_1885 ?_
  refine lv_aload_n hx hb dL_law_1886 rfl (lv_at hl 4 rfl) ?_
  refine lv_iload hx hb dL_law_1887 (lv_at hl 0 rfl) ?_
  refine lv_iconst (v := 3) hx hb dL_law_1889 (by decide) ?_
  refine lv_iadd hx hb dL_law_1890 ?_
  refine W.eq (g2 := F0 m 1891 ls [.int 3, .ref b, .int (xs (2 : Int32).toNatClampNeg), .int (xs (1 : Int32).toNatClampNeg), .ref x0]) (by first | rfl | (congr 2; decide)) ?_
  refine va_sld hx hb hX hbl hbA hS (i := 3) (ki_inl (by decide)) dL_law_1891 ?_
  refine lv_aload_n hx hb dL_law_1892 rfl (lv_at hl 4 rfl) ?_
  refine lv_iload hx hb dL_law_1893 (lv_at hl 0 rfl) ?_
  refine lv_iconst (v := 4) hx hb dL_law_1895 (by decide) ?_
  refine lv_iadd hx hb dL_law_1896 ?_
  refine W.eq (g2 := F0 m 1897 ls [.int 4, .ref b, .int (xs (3 : Int32).toNatClampNeg), .int (xs (2 : Int32).toNatClampNeg), .int (xs (1 : Int32).toNatClampNeg), .ref x0]) (by first | rfl | (congr 2; decide)) ?_
  refine va_sld hx hb hX hbl hbA hS (i := 4) (ki_inl (by decide)) dL_law_1897 ?_
  have hPc := hP.sub (ws' := [(x0, .inr (4, [.ref x_row, .ref x_tree, .ref x_tally, .ref x_votes, .ref x_otherVotes, .ref x_wins, .ref x_fewest, .int 2, .int 1])), (x_row, .inr (0, [.ref x_cell, .int 0]))]) [0, 1] rfl
  have hKc := hK.sub (tys' := []) [] rfl
  refine vp_callSi (W.runV (As := [.int (xs (1 : Int32).toNatClampNeg), .int (xs (2 : Int32).toNatClampNeg), .int (xs (3 : Int32).toNatClampNeg), .int (xs (4 : Int32).toNatClampNeg)]) (rest := []) ⟨hx, hb, hml, hown, (lwC_X4_longest hts0)⟩ (c_X4_longest l dC dI x0 x_row x_tree x_tally x_votes x_otherVotes x_wins x_fewest x_cell (xs (1 : Int32).toNatClampNeg) (xs (2 : Int32).toNatClampNeg) (xs (3 : Int32).toNatClampNeg) (xs (4 : Int32).toNatClampNeg)) (cwV 4 (lwC_X4_longest hts0) lwG_X4_longest rfl rfl rfl (by decide +kernel) ⟨Nat.le_of_ble_eq_true rfl, Nat.le_of_ble_eq_true rfl⟩) ⟨fun a U g mk q => by obtain ⟨q0, qP, qK⟩ := q; exact ⟨q0, qP, va_K.moved (u := U) (U := U.calling g mk a) (Vm.Alike.refl U.vm) qK⟩, va_recv hKc hPc (ci := 4) (q0 := 0) rfl rfl, fun U hU hW => ⟨rfl, by rw [hU]; exact hPc, va_K.moved hW.alike hKc⟩⟩ rfl rfl hl.1 rfl (lv_room (Nat.le_of_ble_eq_true rfl)) dL_law_1898 ⟨Nat.le_of_ble_eq_true rfl, Nat.le_of_ble_eq_true rfl⟩) (fun r_1 w_1 => ?_)
  subst w_1
  refine lv_aload_n hx hb dL_law_1901 rfl (lv_at hl 2 rfl) ?_
  refine lv_aload_n hx hb dL_law_1902 rfl (lv_at hl 4 rfl) ?_
  refine lv_iload hx hb dL_law_1903 (lv_at hl 0 rfl) ?_
  refine lv_iconst (v := 1) hx hb dL_law_1905 (by decide) ?_
  refine lv_iadd hx hb dL_law_1906 ?_
  refine W.eq (g2 := F0 m 1907 ls [.int 1, .ref b, .ref m0, .int (-1)]) (by first | rfl | (congr 2; decide)) ?_
  refine va_sld hx hb hX hbl hbA hS (i := 1) (ki_inl (by decide)) dL_law_1907 ?_
  refine lv_aload_n hx hb dL_law_1908 rfl (lv_at hl 4 rfl) ?_
  refine lv_iload hx hb dL_law_1909 (lv_at hl 0 rfl) ?_
  refine lv_iconst (v := 2) hx hb dL_law_1911 (by decide) ?_
  refine lv_iadd hx hb dL_law_1912 ?_
  refine W.eq (g2 := F0 m 1913 ls [.int 2, .ref b, .int (xs (1 : Int32).toNatClampNeg), .ref m0, .int (-1)]) (by first | rfl | (congr 2; decide)) ?_
  refine va_sld hx hb hX hbl hbA hS (i := 2) (ki_inl (by decide)) dL_law_1913 ?_
  refine lv_aload_n hx hb dL_law_1914 rfl (lv_at hl 4 rfl) ?_
  refine lv_iload hx hb dL_law_1915 (lv_at hl 0 rfl) ?_
  refine lv_iconst (v := 3) hx hb dL_law_1917 (by decide) ?_
  refine lv_iadd hx hb dL_law_1918 ?_
  refine W.eq (g2 := F0 m 1919 ls [.int 3, .ref b, .int (xs (2 : Int32).toNatClampNeg), .int (xs (1 : Int32).toNatClampNeg), .ref m0, .int (-1)]) (by first | rfl | (congr 2; decide)) ?_
  refine va_sld hx hb hX hbl hbA hS (i := 3) (ki_inl (by decide)) dL_law_1919 ?_
  refine lv_aload_n hx hb dL_law_1920 rfl (lv_at hl 4 rfl) ?_
  refine lv_iload hx hb dL_law_1921 (lv_at hl 0 rfl) ?_
  refine lv_iconst (v := 4) hx hb dL_law_1923 (by decide) ?_
  refine lv_iadd hx hb dL_law_1924 ?_
  refine W.eq (g2 := F0 m 1925 ls [.int 4, .ref b, .int (xs (3 : Int32).toNatClampNeg), .int (xs (2 : Int32).toNatClampNeg), .int (xs (1 : Int32).toNatClampNeg), .ref m0, .int (-1)]) (by first | rfl | (congr 2; decide)) ?_
  refine va_sld hx hb hX hbl hbA hS (i := 4) (ki_inl (by decide)) dL_law_1925 ?_
  have hPc := hP.sub (ws' := [(m0, .inr (5, [.ref m_row, .int 0, .int 2, .int 0, .ref m_many, .ref m_loss, .ref m_less, .ref m_voteValue, .ref m_voteNumber, .ref m_allValue, .ref m_allNumber, .int 0, .ref m_nodeL, .ref m_nodeR, .int 0, .ref m_part, .int 0, .ref m_wasMany, .ref m_wasLoss, .ref m_wasValue, .ref m_wasNumber, .ref m_path, .int 0, .ref m_heavyValue, .ref m_heavyTimes, .int 0, .ref m_fewest, .ref m_which, .ref m_met, .int 0]))]) [7] rfl
  have hKc := hK.sub (tys' := []) [] rfl
  have hDc := hD.sub (ws' := [(m0, .inr (5, [.ref m_row, .int 0, .int 2, .int 0, .ref m_many, .ref m_loss, .ref m_less, .ref m_voteValue, .ref m_voteNumber, .ref m_allValue, .ref m_allNumber, .int 0, .ref m_nodeL, .ref m_nodeR, .int 0, .ref m_part, .int 0, .ref m_wasMany, .ref m_wasLoss, .ref m_wasValue, .ref m_wasNumber, .ref m_path, .int 0, .ref m_heavyValue, .ref m_heavyTimes, .int 0, .ref m_fewest, .ref m_which, .ref m_met, .int 0]))]) [7] (by decide) rfl
  have hFc := va_free (wc := [(m0, .inr (5, [.ref m_row, .int 0, .int 2, .int 0, .ref m_many, .ref m_loss, .ref m_less, .ref m_voteValue, .ref m_voteNumber, .ref m_allValue, .ref m_allNumber, .int 0, .ref m_nodeL, .ref m_nodeR, .int 0, .ref m_part, .int 0, .ref m_wasMany, .ref m_wasLoss, .ref m_wasValue, .ref m_wasNumber, .ref m_path, .int 0, .ref m_heavyValue, .ref m_heavyTimes, .int 0, .ref m_fewest, .ref m_which, .ref m_met, .int 0]))]) hD hS hA [7] rfl
  refine va_calli (va_runV (As := [.int (xs (1 : Int32).toNatClampNeg), .int (xs (2 : Int32).toNatClampNeg), .int (xs (3 : Int32).toNatClampNeg), .int (xs (4 : Int32).toNatClampNeg)]) (rest := [.int (-1)]) ⟨hx, hb, hml, hown, (lwC_X5_longest hts0)⟩ (c_X5_longest l dC dI m0 m_row m_many m_loss m_less m_voteValue m_voteNumber m_allValue m_allNumber m_nodeL m_nodeR m_part m_wasMany m_wasLoss m_wasValue m_wasNumber m_path m_heavyValue m_heavyTimes m_fewest m_which m_met (xs (1 : Int32).toNatClampNeg) (xs (2 : Int32).toNatClampNeg) (xs (3 : Int32).toNatClampNeg) (xs (4 : Int32).toNatClampNeg) H.size) (cwV 4 (lwC_X5_longest hts0) lwG_X5_longest rfl rfl rfl (by decide +kernel) ⟨Nat.le_of_ble_eq_true rfl, Nat.le_of_ble_eq_true rfl⟩) ⟨fun a U g mk q => by obtain ⟨q0, q1, qP, qK, qD⟩ := q; exact ⟨q0, q1, qP, va_K.moved (u := U) (U := U.calling g mk a) (Vm.Alike.refl U.vm) qK, qD⟩, va_recv hKc hPc (ci := 5) (q0 := 0) rfl rfl, fun U hU hW => ⟨rfl, by rw [hU], by rw [hU]; exact hPc, va_K.moved hW.alike hKc, hDc.weaken (fun _ _ _ _ => trivial)⟩⟩ rfl rfl hl.1 rfl (lv_room (Nat.le_of_ble_eq_true rfl)) dL_law_1926 ⟨Nat.le_of_ble_eq_true rfl, Nat.le_of_ble_eq_true rfl⟩) hS (fun q _ h => hFc q h) hFc (fun r_2 u t H1 locs ht hvm w_2 hB hz1 hk1 hS => ?_)
  obtain ⟨hP1, hK1, hD1⟩ := hB
  rw [ht] at hP1
  have hK1 := va_K.moved hvm.symm hK1
  obtain ⟨hP, hD⟩ := va_join (wr := [(x0, .inr (4, [.ref x_row, .ref x_tree, .ref x_tally, .ref x_votes, .ref x_otherVotes, .ref x_wins, .ref x_fewest, .int 2, .int 1])), (x_row, .inr (0, [.ref x_cell, .int 0])), (x_cell, .inl (cyI, 160, .inl fc)), (x_tree, .inr (2, [.ref x_row, .ref x_joined, .ref x_from, .ref x_to, .ref x_size, .ref x_lossOf, .ref x_lessBy, .ref x_tvalue, .ref x_tnumber, .int 0, .int 0])), (x_from, .inl (cyI, 319, .inl ff)), (x_to, .inl (cyI, 319, .inl ft)), (x_tally, .inr (1, [.ref x_kind, .ref x_often, .int 0, .int 0])), (m_row, .inl (cyI, 160, .inl fm))]) (w1 := []) hP hD [7] [0, 1, 2, 3, 4, 5, 6, 8] rfl rfl (by decide) (by decide) hk1 hFc hP1 hD1
  clear hP1 hD1 hK1 hk1 hz1 hFc hDc hPc hKc
  generalize H1 = H at hP hS ⊢
  have hP : va_P (dC, dI) vwCl [(x0, .inr (4, [.ref x_row, .ref x_tree, .ref x_tally, .ref x_votes, .ref x_otherVotes, .ref x_wins, .ref x_fewest, .int 2, .int 1])), (x_row, .inr (0, [.ref x_cell, .int 0])), (x_cell, .inl (cyI, 160, .inl fc)), (x_tree, .inr (2, [.ref x_row, .ref x_joined, .ref x_from, .ref x_to, .ref x_size, .ref x_lossOf, .ref x_lessBy, .ref x_tvalue, .ref x_tnumber, .int 0, .int 0])), (x_from, .inl (cyI, 319, .inl ff)), (x_to, .inl (cyI, 319, .inl ft)), (x_tally, .inr (1, [.ref x_kind, .ref x_often, .int 0, .int 0])), (m_row, .inl (cyI, 160, .inl fm))] H := hP
  have hD : va_D (fun q : Nat => s.heap.size ≤ q) [(x0, .inr (4, [.ref x_row, .ref x_tree, .ref x_tally, .ref x_votes, .ref x_otherVotes, .ref x_wins, .ref x_fewest, .int 2, .int 1])), (x_row, .inr (0, [.ref x_cell, .int 0])), (x_cell, .inl (cyI, 160, .inl fc)), (x_tree, .inr (2, [.ref x_row, .ref x_joined, .ref x_from, .ref x_to, .ref x_size, .ref x_lossOf, .ref x_lessBy, .ref x_tvalue, .ref x_tnumber, .int 0, .int 0])), (x_from, .inl (cyI, 319, .inl ff)), (x_to, .inl (cyI, 319, .inl ft)), (x_tally, .inr (1, [.ref x_kind, .ref x_often, .int 0, .int 0])), (m_row, .inl (cyI, 160, .inl fm))] := hD
  subst w_2
  refine lv_icmp_eq (tgt := 2400) hx hb dL_law_1929 (by decide) (fun c_3 => ?_) (fun c_3 => ?_)
  · refine W.widen (k := 100) (n := 30000) (Nat.le_of_ble_eq_true rfl) (Nat.le_of_ble_eq_true rfl) ?_
    exact lc_end C0 hS (lv_sub hl [0, 4] rfl)
  · exact absurd c_3 (by decide)

set_option maxHeartbeats 4000000 in
set_option maxRecDepth 100000 in
theorem lc_34 {p : Program} {l : Launch} {e : Env} {s : State} {m : MethodId} {below : List Frame} {meth : Method} {c : Code} {dC : Nat → ClassId} {dI : Nat → Nat → Nat} {b : Nat} {xs : Nat → Int32} (hl0 : l.stackTraces = false) (C0 : lw_At p s m meth c b 8 xs) (hth : ki_Th s) {x0 x_row x_tree x_tally x_votes x_otherVotes x_wins x_fewest x_cell x_joined x_from x_to x_size x_lossOf x_lessBy x_tvalue x_tnumber x_kind x_often m0 m_row m_many m_loss m_less m_voteValue m_voteNumber m_allValue m_allNumber m_nodeL m_nodeR m_part m_wasMany m_wasLoss m_wasValue m_wasNumber m_path m_heavyValue m_heavyTimes m_fewest m_which m_met q_o : Nat} {cyI : ClassId} {fc ff ft fm : Nat → Int32} {H : Heap} {locs : List Loc} (hK : va_K (dC, dI) vwCl [(cyI, .int)] s) (hP : va_P (dC, dI) vwCl [(x0, .inr (4, [.ref x_row, .ref x_tree, .ref x_tally, .ref x_votes, .ref x_otherVotes, .ref x_wins, .ref x_fewest, .int 2, .int 1])), (x_row, .inr (0, [.ref x_cell, .int 0])), (x_cell, .inl (cyI, 160, .inl fc)), (x_tree, .inr (2, [.ref x_row, .ref x_joined, .ref x_from, .ref x_to, .ref x_size, .ref x_lossOf, .ref x_lessBy, .ref x_tvalue, .ref x_tnumber, .int 0, .int 0])), (x_from, .inl (cyI, 319, .inl ff)), (x_to, .inl (cyI, 319, .inl ft)), (x_tally, .inr (1, [.ref x_kind, .ref x_often, .int 0, .int 0])), (m0, .inr (5, [.ref m_row, .int 0, .int 2, .int 0, .ref m_many, .ref m_loss, .ref m_less, .ref m_voteValue, .ref m_voteNumber, .ref m_allValue, .ref m_allNumber, .int 0, .ref m_nodeL, .ref m_nodeR, .int 0, .ref m_part, .int 0, .ref m_wasMany, .ref m_wasLoss, .ref m_wasValue, .ref m_wasNumber, .ref m_path, .int 0, .ref m_heavyValue, .ref m_heavyTimes, .int 0, .ref m_fewest, .ref m_which, .ref m_met, .int 0])), (m_row, .inl (cyI, 160, .inl fm))] H) (hD : va_D (fun q : Nat => s.heap.size ≤ q) [(x0, .inr (4, [.ref x_row, .ref x_tree, .ref x_tally, .ref x_votes, .ref x_otherVotes, .ref x_wins, .ref x_fewest, .int 2, .int 1])), (x_row, .inr (0, [.ref x_cell, .int 0])), (x_cell, .inl (cyI, 160, .inl fc)), (x_tree, .inr (2, [.ref x_row, .ref x_joined, .ref x_from, .ref x_to, .ref x_size, .ref x_lossOf, .ref x_lessBy, .ref x_tvalue, .ref x_tnumber, .int 0, .int 0])), (x_from, .inl (cyI, 319, .inl ff)), (x_to, .inl (cyI, 319, .inl ft)), (x_tally, .inr (1, [.ref x_kind, .ref x_often, .int 0, .int 0])), (m0, .inr (5, [.ref m_row, .int 0, .int 2, .int 0, .ref m_many, .ref m_loss, .ref m_less, .ref m_voteValue, .ref m_voteNumber, .ref m_allValue, .ref m_allNumber, .int 0, .ref m_nodeL, .ref m_nodeR, .int 0, .ref m_part, .int 0, .ref m_wasMany, .ref m_wasLoss, .ref m_wasValue, .ref m_wasNumber, .ref m_path, .int 0, .ref m_heavyValue, .ref m_heavyTimes, .int 0, .ref m_fewest, .ref m_which, .ref m_met, .int 0])), (m_row, .inl (cyI, 160, .inl fm))]) (hS : va_S (fun q : Nat => s.heap.size ≤ q) s.heap H locs) {ls : Array Slot} (hl : lv_has ls 7 [(4, .int 0), (3, .ref q_o), (2, .ref m0), (1, .ref x0), (0, .ref b)]) : W p l e room_1 s m #[Value.ref b] below meth c H locs 60 20000 (lw_Z below #[Value.ref b] s) (F0 m 1934 ls []) := by
  obtain ⟨hx, hb, hr, hml, hown, hts0, hX, hbl, hlocks, hgv⟩ := id C0
  have hts := hts0
  have hA : ∀ q : Nat, s.heap.size ≤ q → (fun q : Nat => s.heap.size ≤ q) q := fun _ h => h
  have hbA : ¬ (fun q : Nat => s.heap.size ≤ q) b := Nat.not_le.mpr hbl
  have hown : s.vm.findClass RL = some m.cls := hown
  have hb : c.code = cL_law := hb
  refine lv_aload_n hx hb dL_law_1934 rfl (lv_at hl 3 rfl) ?_
  refine lv_aload_n hx hb dL_law_1935 rfl (lv_at hl 4 rfl) ?_
  refine lv_iload hx hb dL_law_1936 (lv_at hl 0 rfl) ?_
  refine lv_iconst (v := 1) hx hb dL_law_1938 (by decide) ?_
  refine lv_iadd hx hb dL_law_1939 ?_
  refine W.eq (g2 := F0 m 1940 ls [.int 1, .ref b, .ref x0]) (by first | rfl | (congr 2; decide)) ?_
  refine va_sld hx hb hX hbl hbA hS (i := 1) (ki_inl (by decide)) dL_law_1940 ?_
  have hPc := hP.sub (ws' := [(x0, .inr (4, [.ref x_row, .ref x_tree, .ref x_tally, .ref x_votes, .ref x_otherVotes, .ref x_wins, .ref x_fewest, .int 2, .int 1])), (x_row, .inr (0, [.ref x_cell, .int 0]))]) [0, 1] rfl
  have hKc := hK.sub (tys' := []) [] rfl
  refine vp_callSi (W.runV (As := [.int (xs (1 : Int32).toNatClampNeg)]) (rest := []) ⟨hx, hb, hml, hown, (lwC_X4_reach hts0)⟩ (c_X4_reach l dC dI x0 x_row x_tree x_tally x_votes x_otherVotes x_wins x_fewest x_cell (xs (1 : Int32).toNatClampNeg)) (cwV 1 (lwC_X4_reach hts0) lwG_X4_reach rfl rfl rfl (by decide +kernel) ⟨Nat.le_of_ble_eq_true rfl, Nat.le_of_ble_eq_true rfl⟩) ⟨fun a U g mk q => by obtain ⟨q0, qP, qK⟩ := q; exact ⟨q0, qP, va_K.moved (u := U) (U := U.calling g mk a) (Vm.Alike.refl U.vm) qK⟩, va_recv hKc hPc (ci := 4) (q0 := 0) rfl rfl, fun U hU hW => ⟨rfl, by rw [hU]; exact hPc, va_K.moved hW.alike hKc⟩⟩ rfl rfl hl.1 rfl (lv_room (Nat.le_of_ble_eq_true rfl)) dL_law_1941 ⟨Nat.le_of_ble_eq_true rfl, Nat.le_of_ble_eq_true rfl⟩) (fun r_1 w_1 => ?_)
  subst w_1
  refine lv_aload_n hx hb dL_law_1944 rfl (lv_at hl 2 rfl) ?_
  refine lv_aload_n hx hb dL_law_1945 rfl (lv_at hl 4 rfl) ?_
  refine lv_iload hx hb dL_law_1946 (lv_at hl 0 rfl) ?_
  refine lv_iconst (v := 1) hx hb dL_law_1948 (by decide) ?_
  refine lv_iadd hx hb dL_law_1949 ?_
  refine W.eq (g2 := F0 m 1950 ls [.int 1, .ref b, .ref m0, .int (-1)]) (by first | rfl | (congr 2; decide)) ?_
  refine va_sld hx hb hX hbl hbA hS (i := 1) (ki_inl (by decide)) dL_law_1950 ?_
  have hPc := hP.sub (ws' := [(m0, .inr (5, [.ref m_row, .int 0, .int 2, .int 0, .ref m_many, .ref m_loss, .ref m_less, .ref m_voteValue, .ref m_voteNumber, .ref m_allValue, .ref m_allNumber, .int 0, .ref m_nodeL, .ref m_nodeR, .int 0, .ref m_part, .int 0, .ref m_wasMany, .ref m_wasLoss, .ref m_wasValue, .ref m_wasNumber, .ref m_path, .int 0, .ref m_heavyValue, .ref m_heavyTimes, .int 0, .ref m_fewest, .ref m_which, .ref m_met, .int 0]))]) [7] rfl
  have hKc := hK.sub (tys' := []) [] rfl
  have hDc := hD.sub (ws' := [(m0, .inr (5, [.ref m_row, .int 0, .int 2, .int 0, .ref m_many, .ref m_loss, .ref m_less, .ref m_voteValue, .ref m_voteNumber, .ref m_allValue, .ref m_allNumber, .int 0, .ref m_nodeL, .ref m_nodeR, .int 0, .ref m_part, .int 0, .ref m_wasMany, .ref m_wasLoss, .ref m_wasValue, .ref m_wasNumber, .ref m_path, .int 0, .ref m_heavyValue, .ref m_heavyTimes, .int 0, .ref m_fewest, .ref m_which, .ref m_met, .int 0]))]) [7] (by decide) rfl
  have hFc := va_free (wc := [(m0, .inr (5, [.ref m_row, .int 0, .int 2, .int 0, .ref m_many, .ref m_loss, .ref m_less, .ref m_voteValue, .ref m_voteNumber, .ref m_allValue, .ref m_allNumber, .int 0, .ref m_nodeL, .ref m_nodeR, .int 0, .ref m_part, .int 0, .ref m_wasMany, .ref m_wasLoss, .ref m_wasValue, .ref m_wasNumber, .ref m_path, .int 0, .ref m_heavyValue, .ref m_heavyTimes, .int 0, .ref m_fewest, .ref m_which, .ref m_met, .int 0]))]) hD hS hA [7] rfl
  refine va_calli (va_runV (As := [.int (xs (1 : Int32).toNatClampNeg)]) (rest := [.int (-1)]) ⟨hx, hb, hml, hown, (lwC_X5_reach hts0)⟩ (c_X5_reach l dC dI m0 m_row m_many m_loss m_less m_voteValue m_voteNumber m_allValue m_allNumber m_nodeL m_nodeR m_part m_wasMany m_wasLoss m_wasValue m_wasNumber m_path m_heavyValue m_heavyTimes m_fewest m_which m_met (xs (1 : Int32).toNatClampNeg) H.size) (cwV 1 (lwC_X5_reach hts0) lwG_X5_reach rfl rfl rfl (by decide +kernel) ⟨Nat.le_of_ble_eq_true rfl, Nat.le_of_ble_eq_true rfl⟩) ⟨fun a U g mk q => by obtain ⟨q0, q1, qP, qK, qD⟩ := q; exact ⟨q0, q1, qP, va_K.moved (u := U) (U := U.calling g mk a) (Vm.Alike.refl U.vm) qK, qD⟩, va_recv hKc hPc (ci := 5) (q0 := 0) rfl rfl, fun U hU hW => ⟨rfl, by rw [hU], by rw [hU]; exact hPc, va_K.moved hW.alike hKc, hDc.weaken (fun _ _ _ _ => trivial)⟩⟩ rfl rfl hl.1 rfl (lv_room (Nat.le_of_ble_eq_true rfl)) dL_law_1951 ⟨Nat.le_of_ble_eq_true rfl, Nat.le_of_ble_eq_true rfl⟩) hS (fun q _ h => hFc q h) hFc (fun r_2 u t H1 locs ht hvm w_2 hB hz1 hk1 hS => ?_)
  obtain ⟨hP1, hK1, hD1⟩ := hB
  rw [ht] at hP1
  have hK1 := va_K.moved hvm.symm hK1
  obtain ⟨hP, hD⟩ := va_join (wr := [(x0, .inr (4, [.ref x_row, .ref x_tree, .ref x_tally, .ref x_votes, .ref x_otherVotes, .ref x_wins, .ref x_fewest, .int 2, .int 1])), (x_row, .inr (0, [.ref x_cell, .int 0])), (x_cell, .inl (cyI, 160, .inl fc)), (x_tree, .inr (2, [.ref x_row, .ref x_joined, .ref x_from, .ref x_to, .ref x_size, .ref x_lossOf, .ref x_lessBy, .ref x_tvalue, .ref x_tnumber, .int 0, .int 0])), (x_from, .inl (cyI, 319, .inl ff)), (x_to, .inl (cyI, 319, .inl ft)), (x_tally, .inr (1, [.ref x_kind, .ref x_often, .int 0, .int 0])), (m_row, .inl (cyI, 160, .inl fm))]) (w1 := []) hP hD [7] [0, 1, 2, 3, 4, 5, 6, 8] rfl rfl (by decide) (by decide) hk1 hFc hP1 hD1
  clear hP1 hD1 hK1 hk1 hz1 hFc hDc hPc hKc
  generalize H1 = H at hP hS ⊢
  have hP : va_P (dC, dI) vwCl [(x0, .inr (4, [.ref x_row, .ref x_tree, .ref x_tally, .ref x_votes, .ref x_otherVotes, .ref x_wins, .ref x_fewest, .int 2, .int 1])), (x_row, .inr (0, [.ref x_cell, .int 0])), (x_cell, .inl (cyI, 160, .inl fc)), (x_tree, .inr (2, [.ref x_row, .ref x_joined, .ref x_from, .ref x_to, .ref x_size, .ref x_lossOf, .ref x_lessBy, .ref x_tvalue, .ref x_tnumber, .int 0, .int 0])), (x_from, .inl (cyI, 319, .inl ff)), (x_to, .inl (cyI, 319, .inl ft)), (x_tally, .inr (1, [.ref x_kind, .ref x_often, .int 0, .int 0])), (m_row, .inl (cyI, 160, .inl fm))] H := hP
  have hD : va_D (fun q : Nat => s.heap.size ≤ q) [(x0, .inr (4, [.ref x_row, .ref x_tree, .ref x_tally, .ref x_votes, .ref x_otherVotes, .ref x_wins, .ref x_fewest, .int 2, .int 1])), (x_row, .inr (0, [.ref x_cell, .int 0])), (x_cell, .inl (cyI, 160, .inl fc)), (x_tree, .inr (2, [.ref x_row, .ref x_joined, .ref x_from, .ref x_to, .ref x_size, .ref x_lossOf, .ref x_lessBy, .ref x_tvalue, .ref x_tnumber, .int 0, .int 0])), (x_from, .inl (cyI, 319, .inl ff)), (x_to, .inl (cyI, 319, .inl ft)), (x_tally, .inr (1, [.ref x_kind, .ref x_often, .int 0, .int 0])), (m_row, .inl (cyI, 160, .inl fm))] := hD
  subst w_2
  refine lv_icmp_eq (tgt := 2400) hx hb dL_law_1954 (by decide) (fun c_3 => ?_) (fun c_3 => ?_)
  · refine W.widen (k := 100) (n := 30000) (Nat.le_of_ble_eq_true rfl) (Nat.le_of_ble_eq_true rfl) ?_
    exact lc_end C0 hS (lv_sub hl [0, 4] rfl)
  · exact absurd c_3 (by decide)
