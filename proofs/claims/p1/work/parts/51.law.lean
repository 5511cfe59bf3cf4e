set_option maxHeartbeats 4000000 in
set_option maxRecDepth 100000 in
theorem lc_end {p : Program} {l : Launch} {e : Env} {s : State} {m : MethodId} {below : List Frame} {meth : Method} {c : Code} {b : Nat} {xs : Nat → Int32} (C0 : lw_At p s m meth c b 8 xs) {H : Heap} {locs : List Loc} (hS : va_S (fun q : Nat => s.heap.size ≤ q) s.heap H locs) {ls : Array Slot} (hl : lv_has ls 7 [(4, .int 0), (0, .ref b)]) : W p l e room_1 s m #[Value.ref b] below meth c H locs 100 30000 (lw_Z below #[Value.ref b] s) (F0 m 2400 ls []) := by
  obtain ⟨hx, hb, hr, hml, hown, hts0, hX, hbl, hlocks, hgv⟩ := id C0
  have hts := hts0
  have hA : ∀ q : Nat, s.heap.size ≤ q → (fun q : Nat => s.heap.size ≤ q) q := fun _ h => h
  have hbA : ¬ (fun q : Nat => s.heap.size ≤ q) b := Nat.not_le.mpr hbl
  have hown : s.vm.findClass RL = some m.cls := hown
  have hb : c.code = cL_law := hb
  obtain ⟨x_1, ex_1⟩ : ∃ y : Int32, y = 0 + 8 := ⟨_, rfl⟩
  refine lv_iinc (v := x_1) (lv' := [(4, .int x_1), (0, .ref b)]) hx hb dL_law_2400 hl (k := 0) rfl (by rw [ex_1]; rfl) (by decide) rfl (fun ls hl => ?_)
  have hx8 : x_1 = 8 := ex_1
  subst hx8
  refine lv_goto (tgt := 23) hx hb dL_law_2403 (by decide) ?_
  refine lv_iload hx hb dL_law_23 (lv_at hl 0 rfl) ?_
  refine lv_aload_n hx hb dL_law_25 rfl (lv_at hl 1 rfl) ?_
  refine va_slen hx hb hX hbl hbA hS dL_law_26 ?_
  refine lv_bipush (v := 8) hx hb dL_law_27 (by decide) ?_
  refine lv_isub hx hb dL_law_29 ?_
  refine lv_icmp_gt (tgt := 2406) hx hb dL_law_30 (by decide) (fun c_9 => ?_) (fun c_9 => absurd (by decide) c_9)
  refine lv_iconst (v := 1) hx hb dL_law_2406 (by decide) ?_
  refine va_forget (fun q hq => hS.2.2 q hq) ?_
  refine W.widen (k := 600002) (n := 7302232) (Nat.le_of_ble_eq_true rfl) (Nat.le_of_ble_eq_true rfl) ?_
  exact lw_ret hx hb hr hlocks dL_law_2407

set_option maxHeartbeats 4000000 in
set_option maxRecDepth 100000 in
theorem lc_0 {p : Program} {l : Launch} {e : Env} {s : State} {m : MethodId} {below : List Frame} {meth : Method} {c : Code} {dC : Nat → ClassId} {dI : Nat → Nat → Nat} {b : Nat} {xs : Nat → Int32} (hl0 : l.stackTraces = false) (C0 : lw_At p s m meth c b 8 xs) (hth : ki_Th s) {x0 x_row x_tree x_tally x_votes x_otherVotes x_wins x_fewest x_cell x_joined x_from x_to x_size x_lossOf x_lessBy x_tvalue x_tnumber x_kind x_often m0 m_row m_many m_loss m_less m_voteValue m_voteNumber m_allValue m_allNumber m_nodeL m_nodeR m_part m_wasMany m_wasLoss m_wasValue m_wasNumber m_path m_heavyValue m_heavyTimes m_fewest m_which m_met q_o : Nat} {cyI : ClassId} {fc ff ft fm : Nat → Int32} {H : Heap} {locs : List Loc} (hK : va_K (dC, dI) vwCl [(cyI, .int)] s) (hP : va_P (dC, dI) vwCl [(x0, .inr (4, [.ref x_row, .ref x_tree, .ref x_tally, .ref x_votes, .ref x_otherVotes, .ref x_wins, .ref x_fewest, .int 2, .int 1])), (x_row, .inr (0, [.ref x_cell, .int 0])), (x_cell, .inl (cyI, 160, .inl fc)), (x_tree, .inr (2, [.ref x_row, .ref x_joined, .ref x_from, .ref x_to, .ref x_size, .ref x_lossOf, .ref x_lessBy, .ref x_tvalue, .ref x_tnumber, .int 0, .int 0])), (x_from, .inl (cyI, 319, .inl ff)), (x_to, .inl (cyI, 319, .inl ft)), (x_tally, .inr (1, [.ref x_kind, .ref x_often, .int 0, .int 0])), (m0, .inr (5, [.ref m_row, .int 0, .int 2, .int 0, .ref m_many, .ref m_loss, .ref m_less, .ref m_voteValue, .ref m_voteNumber, .ref m_allValue, .ref m_allNumber, .int 0, .ref m_nodeL, .ref m_nodeR, .int 0, .ref m_part, .int 0, .ref m_wasMany, .ref m_wasLoss, .ref m_wasValue, .ref m_wasNumber, .ref m_path, .int 0, .ref m_heavyValue, .ref m_heavyTimes, .int 0, .ref m_fewest, .ref m_which, .ref m_met, .int 0])), (m_row, .inl (cyI, 160, .inl fm))] H) (hD : va_D (fun q : Nat => s.heap.size ≤ q) [(x0, .inr (4, [.ref x_row, .ref x_tree, .ref x_tally, .ref x_votes, .ref x_otherVotes, .ref x_wins, .ref x_fewest, .int 2, .int 1])), (x_row, .inr (0, [.ref x_cell, .int 0])), (x_cell, .inl (cyI, 160, .inl fc)), (x_tree, .inr (2, [.ref x_row, .ref x_joined, .ref x_from, .ref x_to, .ref x_size, .ref x_lossOf, .ref x_lessBy, .ref x_tvalue, .ref x_tnumber, .int 0, .int 0])), (x_from, .inl (cyI, 319, .inl ff)), (x_to, .inl (cyI, 319, .inl ft)), (x_tally, .inr (1, [.ref x_kind, .ref x_often, .int 0, .int 0])), (m0, .inr (5, [.ref m_row, .int 0, .int 2, .int 0, .ref m_many, .ref m_loss, .ref m_less, .ref m_voteValue, .ref m_voteNumber, .ref m_allValue, .ref m_allNumber, .int 0, .ref m_nodeL, .ref m_nodeR, .int 0, .ref m_part, .int 0, .ref m_wasMany, .ref m_wasLoss, .ref m_wasValue, .ref m_wasNumber, .ref m_path, .int 0, .ref m_heavyValue, .ref m_heavyTimes, .int 0, .ref m_fewest, .ref m_which, .ref m_met, .int 0])), (m_row, .inl (cyI, 160, .inl fm))]) (hS : va_S (fun q : Nat => s.heap.size ≤ q) s.heap H locs) {ls : Array Slot} (hl : lv_has ls 7 [(4, .int 0), (3, .ref q_o), (2, .ref m0), (1, .ref x0), (0, .ref b)]) : W p l e room_1 s m #[Value.ref b] below meth c H locs 60 20000 (lw_Z below #[Value.ref b] s) (F0 m 232 ls []) := by
  obtain ⟨hx, hb, hr, hml, hown, hts0, hX, hbl, hlocks, hgv⟩ := id C0
  have hts := hts0
  have hA : ∀ q : Nat, s.heap.size ≤ q → (fun q : Nat => s.heap.size ≤ q) q := fun _ h => h
  have hbA : ¬ (fun q : Nat => s.heap.size ≤ q) b := Nat.not_le.mpr hbl
  have hown : s.vm.findClass RL = some m.cls := hown
  have hb : c.code = cL_law := hb
  refine lv_aload_n hx hb dL_law_232 rfl (lv_at hl 3 rfl) ?_
  refine lv_aload_n hx hb dL_law_233 rfl (lv_at hl 4 rfl) ?_
  refine lv_iload hx hb dL_law_234 (lv_at hl 0 rfl) ?_
  refine lv_iconst (v := 1) hx hb dL_law_236 (by decide) ?_
  refine lv_iadd hx hb dL_law_237 ?_
  refine W.eq (g2 := F0 m 238 ls [.int 1, .ref b, .ref x0]) (by first | rfl | (congr 2; decide)) ?_
  refine va_sld hx hb hX hbl hbA hS (i := 1) (ki_inl (by decide)) dL_law_238 ?_
  refine lv_aload_n hx hb dL_law_239 rfl (lv_at hl 4 rfl) ?_
  refine lv_iload hx hb dL_law_240 (lv_at hl 0 rfl) ?_
  refine lv_iconst (v := 2) hx hb dL_law_242 (by decide) ?_
  refine lv_iadd hx hb dL_law_243 ?_
  refine W.eq (g2 := F0 m 244 ls [.int 2, .ref b, .int (xs (1 : Int32).toNatClampNeg), .ref x0]) (by first | rfl | (congr 2; decide)) ?_
  refine va_sld hx hb hX hbl hbA hS (i := 2) (ki_inl (by decide)) dL_law_244 ?_
  have hPc := hP.sub (ws' := [(x0, .inr (4, [.ref x_row, .ref x_tree, .ref x_tally, .ref x_votes, .ref x_otherVotes, .ref x_wins, .ref x_fewest, .int 2, .int 1])), (x_row, .inr (0, [.ref x_cell, .int 0])), (x_cell, .inl (cyI, 160, .inl fc))]) [0, 1, 2] rfl
  have hKc := hK.sub (tys' := [(cyI, .int)]) [0] rfl
  have hDc := hD.sub (ws' := [(x0, .inr (4, [.ref x_row, .ref x_tree, .ref x_tally, .ref x_votes, .ref x_otherVotes, .ref x_wins, .ref x_fewest, .int 2, .int 1])), (x_row, .inr (0, [.ref x_cell, .int 0])), (x_cell, .inl (cyI, 160, .inl fc))]) [0, 1, 2] (by decide) rfl
  have hFc := va_free (wc := [(x0, .inr (4, [.ref x_row, .ref x_tree, .ref x_tally, .ref x_votes, .ref x_otherVotes, .ref x_wins, .ref x_fewest, .int 2, .int 1])), (x_row, .inr (0, [.ref x_cell, .int 0])), (x_cell, .inl (cyI, 160, .inl fc))]) hD hS hA [0, 1, 2] rfl
  refine va_calli (va_runV (As := [.int (xs (1 : Int32).toNatClampNeg), .int (xs (2 : Int32).toNatClampNeg)]) (rest := []) ⟨hx, hb, hml, hown, (lwC_X4_feed hts0)⟩ (c_X4_feed l dC dI x0 x_row x_tree x_tally x_votes x_otherVotes x_wins x_fewest x_cell cyI fc (xs (1 : Int32).toNatClampNeg) (xs (2 : Int32).toNatClampNeg) H.size) (cwV 2 (lwC_X4_feed hts0) lwG_X4_feed rfl rfl rfl (by decide +kernel) ⟨Nat.le_of_ble_eq_true rfl, Nat.le_of_ble_eq_true rfl⟩) ⟨fun a U g mk q => by obtain ⟨q0, q1, qP, qK, qD⟩ := q; exact ⟨q0, q1, qP, va_K.moved (u := U) (U := U.calling g mk a) (Vm.Alike.refl U.vm) qK, qD⟩, va_recv hKc hPc (ci := 4) (q0 := 0) rfl rfl, fun U hU hW => ⟨rfl, by rw [hU], by rw [hU]; exact hPc, va_K.moved hW.alike hKc, hDc.weaken (fun _ _ _ _ => trivial)⟩⟩ rfl rfl hl.1 rfl (lv_room (Nat.le_of_ble_eq_true rfl)) dL_law_245 ⟨Nat.le_of_ble_eq_true rfl, Nat.le_of_ble_eq_true rfl⟩) hS (fun q _ h => hFc q h) hFc (fun r_1 u t H1 locs ht hvm w_1 hB hz1 hk1 hS => ?_)
  obtain ⟨hP1, hK1, hD1⟩ := hB
  rw [ht] at hP1
  have hK1 := va_K.moved hvm.symm hK1
  obtain ⟨hP, hD⟩ := va_join (wr := [(x_tree, .inr (2, [.ref x_row, .ref x_joined, .ref x_from, .ref x_to, .ref x_size, .ref x_lossOf, .ref x_lessBy, .ref x_tvalue, .ref x_tnumber, .int 0, .int 0])), (x_from, .inl (cyI, 319, .inl ff)), (x_to, .inl (cyI, 319, .inl ft)), (x_tally, .inr (1, [.ref x_kind, .ref x_often, .int 0, .int 0])), (m0, .inr (5, [.ref m_row, .int 0, .int 2, .int 0, .ref m_many, .ref m_loss, .ref m_less, .ref m_voteValue, .ref m_voteNumber, .ref m_allValue, .ref m_allNumber, .int 0, .ref m_nodeL, .ref m_nodeR, .int 0, .ref m_part, .int 0, .ref m_wasMany, .ref m_wasLoss, .ref m_wasValue, .ref m_wasNumber, .ref m_path, .int 0, .ref m_heavyValue, .ref m_heavyTimes, .int 0, .ref m_fewest, .ref m_which, .ref m_met, .int 0])), (m_row, .inl (cyI, 160, .inl fm))]) (w1 := []) hP hD [0, 1, 2] [3, 4, 5, 6, 7, 8] rfl rfl (by decide) (by decide) hk1 hFc hP1 hD1
  clear hP1 hD1 hK1 hk1 hz1 hFc hDc hPc hKc
  generalize H1 = H at hP hS ⊢
  have hP : va_P (dC, dI) vwCl [(x_tree, .inr (2, [.ref x_row, .ref x_joined, .ref x_from, .ref x_to, .ref x_size, .ref x_lossOf, .ref x_lessBy, .ref x_tvalue, .ref x_tnumber, .int 0, .int 0])), (x_from, .inl (cyI, 319, .inl ff)), (x_to, .inl (cyI, 319, .inl ft)), (x_tally, .inr (1, [.ref x_kind, .ref x_often, .int 0, .int 0])), (m0, .inr (5, [.ref m_row, .int 0, .int 2, .int 0, .ref m_many, .ref m_loss, .ref m_less, .ref m_voteValue, .ref m_voteNumber, .ref m_allValue, .ref m_allNumber, .int 0, .ref m_nodeL, .ref m_nodeR, .int 0, .ref m_part, .int 0, .ref m_wasMany, .ref m_wasLoss, .ref m_wasValue, .ref m_wasNumber, .ref m_path, .int 0, .ref m_heavyValue, .ref m_heavyTimes, .int 0, .ref m_fewest, .ref m_which, .ref m_met, .int 0])), (m_row, .inl (cyI, 160, .inl fm))] H := hP
  have hD : va_D (fun q : Nat => s.heap.size ≤ q) [(x_tree, .inr (2, [.ref x_row, .ref x_joined, .ref x_from, .ref x_to, .ref x_size, .ref x_lossOf, .ref x_lessBy, .ref x_tvalue, .ref x_tnumber, .int 0, .int 0])), (x_from, .inl (cyI, 319, .inl ff)), (x_to, .inl (cyI, 319, .inl ft)), (x_tally, .inr (1, [.ref x_kind, .ref x_often, .int 0, .int 0])), (m0, .inr (5, [.ref m_row, .int 0, .int 2, .int 0, .ref m_many, .ref m_loss, .ref m_less, .ref m_voteValue, .ref m_voteNumber, .ref m_allValue, .ref m_allNumber, .int 0, .ref m_nodeL, .ref m_nodeR, .int 0, .ref m_part, .int 0, .ref m_wasMany, .ref m_wasLoss, .ref m_wasValue, .ref m_wasNumber, .ref m_path, .int 0, .ref m_heavyValue, .ref m_heavyTimes, .int 0, .ref m_fewest, .ref m_which, .ref m_met, .int 0])), (m_row, .inl (cyI, 160, .inl fm))] := hD
  subst w_1
  refine lv_aload_n hx hb dL_law_248 rfl (lv_at hl 2 rfl) ?_
  refine lv_aload_n hx hb dL_law_249 rfl (lv_at hl 4 rfl) ?_
  refine lv_iload hx hb dL_law_250 (lv_at hl 0 rfl) ?_
  refine lv_iconst (v := 1) hx hb dL_law_252 (by decide) ?_
  refine lv_iadd hx hb dL_law_253 ?_
  refine W.eq (g2 := F0 m 254 ls [.int 1, .ref b, .ref m0, .int 4]) (by first | rfl | (congr 2; decide)) ?_
  refine va_sld hx hb hX hbl hbA hS (i := 1) (ki_inl (by decide)) dL_law_254 ?_
  refine lv_aload_n hx hb dL_law_255 rfl (lv_at hl 4 rfl) ?_
  refine lv_iload hx hb dL_law_256 (lv_at hl 0 rfl) ?_
  refine lv_iconst (v := 2) hx hb dL_law_258 (by decide) ?_
  refine lv_iadd hx hb dL_law_259 ?_
  refine W.eq (g2 := F0 m 260 ls [.int 2, .ref b, .int (xs (1 : Int32).toNatClampNeg), .ref m0, .int 4]) (by first | rfl | (congr 2; decide)) ?_
  refine va_sld hx hb hX hbl hbA hS (i := 2) (ki_inl (by decide)) dL_law_260 ?_
  have hPc := hP.sub (ws' := [(m0, .inr (5, [.ref m_row, .int 0, .int 2, .int 0, .ref m_many, .ref m_loss, .ref m_less, .ref m_voteValue, .ref m_voteNumber, .ref m_allValue, .ref m_allNumber, .int 0, .ref m_nodeL, .ref m_nodeR, .int 0, .ref m_part, .int 0, .ref m_wasMany, .ref m_wasLoss, .ref m_wasValue, .ref m_wasNumber, .ref m_path, .int 0, .ref m_heavyValue, .ref m_heavyTimes, .int 0, .ref m_fewest, .ref m_which, .ref m_met, .int 0])), (m_row, .inl (cyI, 160, .inl fm))]) [4, 5] rfl
  have hKc := hK.sub (tys' := [(cyI, .int)]) [0] rfl
  have hDc := hD.sub (ws' := [(m0, .inr (5, [.ref m_row, .int 0, .int 2, .int 0, .ref m_many, .ref m_loss, .ref m_less, .ref m_voteValue, .ref m_voteNumber, .ref m_allValue, .ref m_allNumber, .int 0, .ref m_nodeL, .ref m_nodeR, .int 0, .ref m_part, .int 0, .ref m_wasMany, .ref m_wasLoss, .ref m_wasValue, .ref m_wasNumber, .ref m_path, .int 0, .ref m_heavyValue, .ref m_heavyTimes, .int 0, .ref m_fewest, .ref m_which, .ref m_met, .int 0])), (m_row, .inl (cyI, 160, .inl fm))]) [4, 5] (by decide) rfl
  have hFc := va_free (wc := [(m0, .inr (5, [.ref m_row, .int 0, .int 2, .int 0, .ref m_many, .ref m_loss, .ref m_less, .ref m_voteValue, .ref m_voteNumber, .ref m_allValue, .ref m_allNumber, .int 0, .ref m_nodeL, .ref m_nodeR, .int 0, .ref m_part, .int 0, .ref m_wasMany, .ref m_wasLoss, .ref m_wasValue, .ref m_wasNumber, .ref m_path, .int 0, .ref m_heavyValue, .ref m_heavyTimes, .int 0, .ref m_fewest, .ref m_which, .ref m_met, .int 0])), (m_row, .inl (cyI, 160, .inl fm))]) hD hS hA [4, 5] rfl
  refine va_calli (va_runV (As := [.int (xs (1 : Int32).toNatClampNeg), .int (xs (2 : Int32).toNatClampNeg)]) (rest := [.int 4]) ⟨hx, hb, hml, hown, (lwC_X5_feed hts0)⟩ (c_X5_feed l dC dI m0 m_row m_many m_loss m_less m_voteValue m_voteNumber m_allValue m_allNumber m_nodeL m_nodeR m_part m_wasMany m_wasLoss m_wasValue m_wasNumber m_path m_heavyValue m_heavyTimes m_fewest m_which m_met cyI fm (xs (1 : Int32).toNatClampNeg) (xs (2 : Int32).toNatClampNeg) H.size) (cwV 2 (lwC_X5_feed hts0) lwG_X5_feed rfl rfl rfl (by decide +kernel) ⟨Nat.le_of_ble_eq_true rfl, Nat.le_of_ble_eq_true rfl⟩) ⟨fun a U g mk q => by obtain ⟨q0, q1, qP, qK, qD⟩ := q; exact ⟨q0, q1, qP, va_K.moved (u := U) (U := U.calling g mk a) (Vm.Alike.refl U.vm) qK, qD⟩, va_recv hKc hPc (ci := 5) (q0 := 0) rfl rfl, fun U hU hW => ⟨rfl, by rw [hU], by rw [hU]; exact hPc, va_K.moved hW.alike hKc, hDc.weaken (fun _ _ _ _ => trivial)⟩⟩ rfl rfl hl.1 rfl (lv_room (Nat.le_of_ble_eq_true rfl)) dL_law_261 ⟨Nat.le_of_ble_eq_true rfl, Nat.le_of_ble_eq_true rfl⟩) hS (fun q _ h => hFc q h) hFc (fun r_2 u t H1 locs ht hvm w_2 hB hz1 hk1 hS => ?_)
  obtain ⟨hP1, hK1, hD1⟩ := hB
  rw [ht] at hP1
  have hK1 := va_K.moved hvm.symm hK1
  obtain ⟨hP, hD⟩ := va_join (wr := [(x_tree, .inr (2, [.ref x_row, .ref x_joined, .ref x_from, .ref x_to, .ref x_size, .ref x_lossOf, .ref x_lessBy, .ref x_tvalue, .ref x_tnumber, .int 0, .int 0])), (x_from, .inl (cyI, 319, .inl ff)), (x_to, .inl (cyI, 319, .inl ft)), (x_tally, .inr (1, [.ref x_kind, .ref x_often, .int 0, .int 0]))]) (w1 := []) hP hD [4, 5] [0, 1, 2, 3] rfl rfl (by decide) (by decide) hk1 hFc hP1 hD1
  clear hP1 hD1 hK1 hk1 hz1 hFc hDc hPc hKc
  generalize H1 = H at hP hS ⊢
  have hP : va_P (dC, dI) vwCl [(x_tree, .inr (2, [.ref x_row, .ref x_joined, .ref x_from, .ref x_to, .ref x_size, .ref x_lossOf, .ref x_lessBy, .ref x_tvalue, .ref x_tnumber, .int 0, .int 0])), (x_from, .inl (cyI, 319, .inl ff)), (x_to, .inl (cyI, 319, .inl ft)), (x_tally, .inr (1, [.ref x_kind, .ref x_often, .int 0, .int 0]))] H := hP
  have hD : va_D (fun q : Nat => s.heap.size ≤ q) [(x_tree, .inr (2, [.ref x_row, .ref x_joined, .ref x_from, .ref x_to, .ref x_size, .ref x_lossOf, .ref x_lessBy, .ref x_tvalue, .ref x_tnumber, .int 0, .int 0])), (x_from, .inl (cyI, 319, .inl ff)), (x_to, .inl (cyI, 319, .inl ft)), (x_tally, .inr (1, [.ref x_kind, .ref x_often, .int 0, .int 0]))] := hD
  subst w_2
  refine lv_icmp_eq (tgt := 2400) hx hb dL_law_264 (by decide) (fun c_3 => ?_) (fun c_3 => ?_)
  · refine W.widen (k := 100) (n := 30000) (Nat.le_of_ble_eq_true rfl) (Nat.le_of_ble_eq_true rfl) ?_
    exact lc_end C0 hS (lv_sub hl [0, 4] rfl)
  · exact absurd c_3 (by decide)

set_option maxHeartbeats 4000000 in
set_option maxRecDepth 100000 in
theorem lc_1 {p : Program} {l : Launch} {e : Env} {s : State} {m : MethodId} {below : List Frame} {meth : Method} {c : Code} {dC : Nat → ClassId} {dI : Nat → Nat → Nat} {b : Nat} {xs : Nat → Int32} (hl0 : l.stackTraces = false) (C0 : lw_At p s m meth c b 8 xs) (hth : ki_Th s) {x0 x_row x_tree x_tally x_votes x_otherVotes x_wins x_fewest x_cell x_joined x_from x_to x_size x_lossOf x_lessBy x_tvalue x_tnumber x_kind x_often m0 m_row m_many m_loss m_less m_voteValue m_voteNumber m_allValue m_allNumber m_nodeL m_nodeR m_part m_wasMany m_wasLoss m_wasValue m_wasNumber m_path m_heavyValue m_heavyTimes m_fewest m_which m_met q_o : Nat} {cyI : ClassId} {fc ff ft fm : Nat → Int32} {H : Heap} {locs : List Loc} (hK : va_K (dC, dI) vwCl [(cyI, .int)] s) (hP : va_P (dC, dI) vwCl [(x0, .inr (4, [.ref x_row, .ref x_tree, .ref x_tally, .ref x_votes, .ref x_otherVotes, .ref x_wins, .ref x_fewest, .int 2, .int 1])), (x_row, .inr (0, [.ref x_cell, .int 0])), (x_cell, .inl (cyI, 160, .inl fc)), (x_tree, .inr (2, [.ref x_row, .ref x_joined, .ref x_from, .ref x_to, .ref x_size, .ref x_lossOf, .ref x_lessBy, .ref x_tvalue, .ref x_tnumber, .int 0, .int 0])), (x_from, .inl (cyI, 319, .inl ff)), (x_to, .inl (cyI, 319, .inl ft)), (x_tally, .inr (1, [.ref x_kind, .ref x_often, .int 0, .int 0])), (m0, .inr (5, [.ref m_row, .int 0, .int 2, .int 0, .ref m_many, .ref m_loss, .ref m_less, .ref m_voteValue, .ref m_voteNumber, .ref m_allValue, .ref m_allNumber, .int 0, .ref m_nodeL, .ref m_nodeR, .int 0, .ref m_part, .int 0, .ref m_wasMany, .ref m_wasLoss, .ref m_wasValue, .ref m_wasNumber, .ref m_path, .int 0, .ref m_heavyValue, .ref m_heavyTimes, .int 0, .ref m_fewest, .ref m_which, .ref m_met, .int 0])), (m_row, .inl (cyI, 160, .inl fm))] H) (hD : va_D (fun q : Nat => s.heap.size ≤ q) [(x0, .inr (4, [.ref x_row, .ref x_tree, .ref x_tally, .ref x_votes, .ref x_otherVotes, .ref x_wins, .ref x_fewest, .int 2, .int 1])), (x_row, .inr (0, [.ref x_cell, .int 0])), (x_cell, .inl (cyI, 160, .inl fc)), (x_tree, .inr (2, [.ref x_row, .ref x_joined, .ref x_from, .ref x_to, .ref x_size, .ref x_lossOf, .ref x_lessBy, .ref x_tvalue, .ref x_tnumber, .int 0, .int 0])), (x_from, .inl (cyI, 319, .inl ff)), (x_to, .inl (cyI, 319, .inl ft)), (x_tally, .inr (1, [.ref x_kind, .ref x_often, .int 0, .int 0])), (m0, .inr (5, [.ref m_row, .int 0, .int 2, .int 0, .ref m_many, .ref m_loss, .ref m_less, .ref m_voteValue, .ref m_voteNumber, .ref m_allValue, .ref m_allNumber, .int 0, .ref m_nodeL, .ref m_nodeR, .int 0, .ref m_part, .int 0, .ref m_wasMany, .ref m_wasLoss, .ref m_wasValue, .ref m_wasNumber, .ref m_path, .int 0, .ref m_heavyValue, .ref m_heavyTimes, .int 0, .ref m_fewest, .ref m_which, .ref m_met, .int 0])), (m_row, .inl (cyI, 160, .inl fm))]) (hS : va_S (fun q : Nat => s.heap.size ≤ q) s.heap H locs) {ls : Array Slot} (hl : lv_has ls 7 [(4, .int 0), (3, .ref q_o), (2, .ref m0), (1, .ref x0), (0, .ref b)]) : W p l e room_1 s m #[Value.ref b] below meth c H locs 60 20000 (lw_Z below #[Value.ref b] s) (F0 m 269 ls []) := by
  obtain ⟨hx, hb, hr, hml, hown, hts0, hX, hbl, hlocks, hgv⟩ := id C0
  have hts := hts0
  have hA : ∀ q : Nat, s.heap.size ≤ q → (fun q : Nat => s.heap.size ≤ q) q := fun _ h => h
  have hbA : ¬ (fun q : Nat => s.heap.size ≤ q) b := Nat.not_le.mpr hbl
  have hown : s.vm.findClass RL = some m.cls := hown
  have hb : c.code = cL_law := hb
  refine lv_aload_n hx hb dL_law_269 rfl (lv_at hl 3 rfl) ?_
  refine lv_aload_n hx hb dL_law_270 rfl (lv_at hl 4 rfl) ?_
  refine lv_iload hx hb dL_law_271 (lv_at hl 0 rfl) ?_
  refine lv_iconst (v := 1) hx hb dL_law_273 (by decide) ?_
  refine lv_iadd hx hb dL_law_274 ?_
  refine W.eq (g2 := F0 m 275 ls [.int 1, .ref b, .ref x0]) (by first | rfl | (congr 2; decide)) ?_
  refine va_sld hx hb hX hbl hbA hS (i := 1) (ki_inl (by decide)) dL_law_275 ?_
  have hPc := hP.sub (ws' := [(x0, .inr (4, [.ref x_row, .ref x_tree, .ref x_tally, .ref x_votes, .ref x_otherVotes, .ref x_wins, .ref x_fewest, .int 2, .int 1])), (x_row, .inr (0, [.ref x_cell, .int 0]))]) [0, 1] rfl
  have hKc := hK.sub (tys' := []) [] rfl
  have hDc := hD.sub (ws' := [(x0, .inr (4, [.ref x_row, .ref x_tree, .ref x_tally, .ref x_votes, .ref x_otherVotes, .ref x_wins, .ref x_fewest, .int 2, .int 1])), (x_row, .inr (0, [.ref x_cell, .int 0]))]) [0, 1] (by decide) rfl
  have hFc := va_free (wc := [(x0, .inr (4, [.ref x_row, .ref x_tree, .ref x_tally, .ref x_votes, .ref x_otherVotes, .ref x_wins, .ref x_fewest, .int 2, .int 1])), (x_row, .inr (0, [.ref x_cell, .int 0]))]) hD hS hA [0, 1] rfl
  refine va_calli (va_runV (As := [.int (xs (1 : Int32).toNatClampNeg)]) (rest := []) ⟨hx, hb, hml, hown, (lwC_X4_end hts0)⟩ (c_X4_end l dC dI x0 x_row x_tree x_tally x_votes x_otherVotes x_wins x_fewest x_cell (xs (1 : Int32).toNatClampNeg) H.size) (cwV 1 (lwC_X4_end hts0) lwG_X4_end rfl rfl rfl (by decide +kernel) ⟨Nat.le_of_ble_eq_true rfl, Nat.le_of_ble_eq_true rfl⟩) ⟨fun a U g mk q => by obtain ⟨q0, q1, qP, qK, qD⟩ := q; exact ⟨q0, q1, qP, va_K.moved (u := U) (U := U.calling g mk a) (Vm.Alike.refl U.vm) qK, qD⟩, va_recv hKc hPc (ci := 4) (q0 := 0) rfl rfl, fun U hU hW => ⟨rfl, by rw [hU], by rw [hU]; exact hPc, va_K.moved hW.alike hKc, hDc.weaken (fun _ _ _ _ => trivial)⟩⟩ rfl rfl hl.1 rfl (lv_room (Nat.le_of_ble_eq_true rfl)) dL_law_276 ⟨Nat.le_of_ble_eq_true rfl, Nat.le_of_ble_eq_true rfl⟩) hS (fun q _ h => hFc q h) hFc (fun r_1 u t H1 locs ht hvm w_1 hB hz1 hk1 hS => ?_)
  obtain ⟨hP1, hK1, hD1⟩ := hB
  rw [ht] at hP1
  have hK1 := va_K.moved hvm.symm hK1
  obtain ⟨hP, hD⟩ := va_join (wr := [(x_cell, .inl (cyI, 160, .inl fc)), (x_tree, .inr (2, [.ref x_row, .ref x_joined, .ref x_from, .ref x_to, .ref x_size, .ref x_lossOf, .ref x_lessBy, .ref x_tvalue, .ref x_tnumber, .int 0, .int 0])), (x_from, .inl (cyI, 319, .inl ff)), (x_to, .inl (cyI, 319, .inl ft)), (x_tally, .inr (1, [.ref x_kind, .ref x_often, .int 0, .int 0])), (m0, .inr (5, [.ref m_row, .int 0, .int 2, .int 0, .ref m_many, .ref m_loss, .ref m_less, .ref m_voteValue, .ref m_voteNumber, .ref m_allValue, .ref m_allNumber, .int 0, .ref m_nodeL, .ref m_nodeR, .int 0, .ref m_part, .int 0, .ref m_wasMany, .ref m_wasLoss, .ref m_wasValue, .ref m_wasNumber, .ref m_path, .int 0, .ref m_heavyValue, .ref m_heavyTimes, .int 0, .ref m_fewest, .ref m_which, .ref m_met, .int 0])), (m_row, .inl (cyI, 160, .inl fm))]) (w1 := []) hP hD [0, 1] [2, 3, 4, 5, 6, 7, 8] rfl rfl (by decide) (by decide) hk1 hFc hP1 hD1
  clear hP1 hD1 hK1 hk1 hz1 hFc hDc hPc hKc
  generalize H1 = H at hP hS ⊢
  have hP : va_P (dC, dI) vwCl [(x_cell, .inl (cyI, 160, .inl fc)), (x_tree, .inr (2, [.ref x_row, .ref x_joined, .ref x_from, .ref x_to, .ref x_size, .ref x_lossOf, .ref x_lessBy, .ref x_tvalue, .ref x_tnumber, .int 0, .int 0])), (x_from, .inl (cyI, 319, .inl ff)), (x_to, .inl (cyI, 319, .inl ft)), (x_tally, .inr (1, [.ref x_kind, .ref x_often, .int 0, .int 0])), (m0, .inr (5, [.ref m_row, .int 0, .int 2, .int 0, .ref m_many, .ref m_loss, .ref m_less, .ref m_voteValue, .ref m_voteNumber, .ref m_allValue, .ref m_allNumber, .int 0, .ref m_nodeL, .ref m_nodeR, .int 0, .ref m_part, .int 0, .ref m_wasMany, .ref m_wasLoss, .ref m_wasValue, .ref m_wasNumber, .ref m_path, .int 0, .ref m_heavyValue, .ref m_heavyTimes, .int 0, .ref m_fewest, .ref m_which, .ref m_met, .int 0])), (m_row, .inl (cyI, 160, .inl fm))] H := hP
  have hD : va_D (fun q : Nat => s.heap.size ≤ q) [(x_cell, .inl (cyI, 160, .inl fc)), (x_tree, .inr (2, [.ref x_row, .ref x_joined, .ref x_from, .ref x_to, .ref x_size, .ref x_lossOf, .ref x_lessBy, .ref x_tvalue, .ref x_tnumber, .int 0, .int 0])), (x_from, .inl (cyI, 319, .inl ff)), (x_to, .inl (cyI, 319, .inl ft)), (x_tally, .inr (1, [.ref x_kind, .ref x_often, .int 0, .int 0])), (m0, .inr (5, [.ref m_row, .int 0, .int 2, .int 0, .ref m_many, .ref m_loss, .ref m_less, .ref m_voteValue, .ref m_voteNumber, .ref m_allValue, .ref m_allNumber, .int 0, .ref m_nodeL, .ref m_nodeR, .int 0, .ref m_part, .int 0, .ref m_wasMany, .ref m_wasLoss, .ref m_wasValue, .ref m_wasNumber, .ref m_path, .int 0, .ref m_heavyValue, .ref m_heavyTimes, .int 0, .ref m_fewest, .ref m_which, .ref m_met, .int 0])), (m_row, .inl (cyI, 160, .inl fm))] := hD
  refine lv_aload_n hx hb dL_law_279 rfl (lv_at hl 2 rfl) ?_
  refine lv_aload_n hx hb dL_law_280 rfl (lv_at hl 4 rfl) ?_
  refine lv_iload hx hb dL_law_281 (lv_at hl 0 rfl) ?_
  refine lv_iconst (v := 1) hx hb dL_law_283 (by decide) ?_
  refine lv_iadd hx hb dL_law_284 ?_
  refine W.eq (g2 := F0 m 285 ls [.int 1, .ref b, .ref m0, .int r_1]) (by first | rfl | (congr 2; decide)) ?_
  refine va_sld hx hb hX hbl hbA hS (i := 1) (ki_inl (by decide)) dL_law_285 ?_
  have hPc := hP.sub (ws' := [(m0, .inr (5, [.ref m_row, .int 0, .int 2, .int 0, .ref m_many, .ref m_loss, .ref m_less, .ref m_voteValue, .ref m_voteNumber, .ref m_allValue, .ref m_allNumber, .int 0, .ref m_nodeL, .ref m_nodeR, .int 0, .ref m_part, .int 0, .ref m_wasMany, .ref m_wasLoss, .ref m_wasValue, .ref m_wasNumber, .ref m_path, .int 0, .ref m_heavyValue, .ref m_heavyTimes, .int 0, .ref m_fewest, .ref m_which, .ref m_met, .int 0]))]) [5] rfl
  have hKc := hK.sub (tys' := []) [] rfl
  have hDc := hD.sub (ws' := [(m0, .inr (5, [.ref m_row, .int 0, .int 2, .int 0, .ref m_many, .ref m_loss, .ref m_less, .ref m_voteValue, .ref m_voteNumber, .ref m_allValue, .ref m_allNumber, .int 0, .ref m_nodeL, .ref m_nodeR, .int 0, .ref m_part, .int 0, .ref m_wasMany, .ref m_wasLoss, .ref m_wasValue, .ref m_wasNumber, .ref m_path, .int 0, .ref m_heavyValue, .ref m_heavyTimes, .int 0, .ref m_fewest, .ref m_which, .ref m_met, .int 0]))]) [5] (by decide) rfl
  have hFc := va_free (wc := [(m0, .inr (5, [.ref m_row, .int 0, .int 2, .int 0, .ref m_many, .ref m_loss, .ref m_less, .ref m_voteValue, .ref m_voteNumber, .ref m_allValue, .ref m_allNumber, .int 0, .ref m_nodeL, .ref m_nodeR, .int 0, .ref m_part, .int 0, .ref m_wasMany, .ref m_wasLoss, .ref m_wasValue, .ref m_wasNumber, .ref m_path, .int 0, .ref m_heavyValue, .ref m_heavyTimes, .int 0, .ref m_fewest, .ref m_which, .ref m_met, .int 0]))]) hD hS hA [5] rfl
  refine va_calli (va_runV (As := [.int (xs (1 : Int32).toNatClampNeg)]) (rest := [.int r_1]) ⟨hx, hb, hml, hown, (lwC_X5_end hts0)⟩ (c_X5_end l dC dI m0 m_row m_many m_loss m_less m_voteValue m_voteNumber m_allValue m_allNumber m_nodeL m_nodeR m_part m_wasMany m_wasLoss m_wasValue m_wasNumber m_path m_heavyValue m_heavyTimes m_fewest m_which m_met (xs (1 : Int32).toNatClampNeg) H.size) (cwV 1 (lwC_X5_end hts0) lwG_X5_end rfl rfl rfl (by decide +kernel) ⟨Nat.le_of_ble_eq_true rfl, Nat.le_of_ble_eq_true rfl⟩) ⟨fun a U g mk q => by obtain ⟨q0, q1, qP, qK, qD⟩ := q; exact ⟨q0, q1, qP, va_K.moved (u := U) (U := U.calling g mk a) (Vm.Alike.refl U.vm) qK, qD⟩, va_recv hKc hPc (ci := 5) (q0 := 0) rfl rfl, fun U hU hW => ⟨rfl, by rw [hU], by rw [hU]; exact hPc, va_K.moved hW.alike hKc, hDc.weaken (fun _ _ _ _ => trivial)⟩⟩ rfl rfl hl.1 rfl (lv_room (Nat.le_of_ble_eq_true rfl)) dL_law_286 ⟨Nat.le_of_ble_eq_true rfl, Nat.le_of_ble_eq_true rfl⟩) hS (fun q _ h => hFc q h) hFc (fun r_2 u t H1 locs ht hvm w_2 hB hz1 hk1 hS => ?_)
  obtain ⟨hP1, hK1, hD1⟩ := hB
  rw [ht] at hP1
  have hK1 := va_K.moved hvm.symm hK1
  obtain ⟨hP, hD⟩ := va_join (wr := [(x_cell, .inl (cyI, 160, .inl fc)), (x_tree, .inr (2, [.ref x_row, .ref x_joined, .ref x_from, .ref x_to, .ref x_size, .ref x_lossOf, .ref x_lessBy, .ref x_tvalue, .ref x_tnumber, .int 0, .int 0])), (x_from, .inl (cyI, 319, .inl ff)), (x_to, .inl (cyI, 319, .inl ft)), (x_tally, .inr (1, [.ref x_kind, .ref x_often, .int 0, .int 0])), (m_row, .inl (cyI, 160, .inl fm))]) (w1 := []) hP hD [5] [0, 1, 2, 3, 4, 6] rfl rfl (by decide) (by decide) hk1 hFc hP1 hD1
  clear hP1 hD1 hK1 hk1 hz1 hFc hDc hPc hKc
  generalize H1 = H at hP hS ⊢
  have hP : va_P (dC, dI) vwCl [(x_cell, .inl (cyI, 160, .inl fc)), (x_tree, .inr (2, [.ref x_row, .ref x_joined, .ref x_from, .ref x_to, .ref x_size, .ref x_lossOf, .ref x_lessBy, .ref x_tvalue, .ref x_tnumber, .int 0, .int 0])), (x_from, .inl (cyI, 319, .inl ff)), (x_to, .inl (cyI, 319, .inl ft)), (x_tally, .inr (1, [.ref x_kind, .ref x_often, .int 0, .int 0])), (m_row, .inl (cyI, 160, .inl fm))] H := hP
  have hD : va_D (fun q : Nat => s.heap.size ≤ q) [(x_cell, .inl (cyI, 160, .inl fc)), (x_tree, .inr (2, [.ref x_row, .ref x_joined, .ref x_from, .ref x_to, .ref x_size, .ref x_lossOf, .ref x_lessBy, .ref x_tvalue, .ref x_tnumber, .int 0, .int 0])), (x_from, .inl (cyI, 319, .inl ff)), (x_to, .inl (cyI, 319, .inl ft)), (x_tally, .inr (1, [.ref x_kind, .ref x_often, .int 0, .int 0])), (m_row, .inl (cyI, 160, .inl fm))] := hD
  refine lv_icmp_eq (tgt := 2400) hx hb dL_law_289 (by decide) (fun c_3 => ?_) (fun c_3 => ?_)
  · have i_3 : r_1.toInt = r_2.toInt := kc_eq c_3
    refine W.widen (k := 100) (n := 30000) (Nat.le_of_ble_eq_true rfl) (Nat.le_of_ble_eq_true rfl) ?_
    exact lc_end C0 hS (lv_sub hl [0, 4] rfl)
  · have i_3 : ¬ r_1.toInt = r_2.toInt := kc_ne c_3
    refine lv_iconst (v := 0) hx hb dL_law_292 (by decide) ?_
    exfalso; rcases w_1 with ⟨rfl, h1⟩ | ⟨rfl, h1⟩ <;> rcases w_2 with ⟨h2, h3⟩ | ⟨h2, h3⟩ <;> first | omega | (subst h2; omega) | (subst h2; exact absurd rfl (by assumption))

set_option maxHeartbeats 4000000 in
set_option maxRecDepth 100000 in
theorem lc_2 {p : Program} {l : Launch} {e : Env} {s : State} {m : MethodId} {below : List Frame} {meth : Method} {c : Code} {dC : Nat → ClassId} {dI : Nat → Nat → Nat} {b : Nat} {xs : Nat → Int32} (hl0 : l.stackTraces = false) (C0 : lw_At p s m meth c b 8 xs) (hth : ki_Th s) {x0 x_row x_tree x_tally x_votes x_otherVotes x_wins x_fewest x_cell x_joined x_from x_to x_size x_lossOf x_lessBy x_tvalue x_tnumber x_kind x_often m0 m_row m_many m_loss m_less m_voteValue m_voteNumber m_allValue m_allNumber m_nodeL m_nodeR m_part m_wasMany m_wasLoss m_wasValue m_wasNumber m_path m_heavyValue m_heavyTimes m_fewest m_which m_met q_o : Nat} {cyI : ClassId} {fc ff ft fm : Nat → Int32} {H : Heap} {locs : List Loc} (hK : va_K (dC, dI) vwCl [(cyI, .int)] s) (hP : va_P (dC, dI) vwCl [(x0, .inr (4, [.ref x_row, .ref x_tree, .ref x_tally, .ref x_votes, .ref x_otherVotes, .ref x_wins, .ref x_fewest, .int 2, .int 1])), (x_row, .inr (0, [.ref x_cell, .int 0])), (x_cell, .inl (cyI, 160, .inl fc)), (x_tree, .inr (2, [.ref x_row, .ref x_joined, .ref x_from, .ref x_to, .ref x_size, .ref x_lossOf, .ref x_lessBy, .ref x_tvalue, .ref x_tnumber, .int 0, .int 0])), (x_from, .inl (cyI, 319, .inl ff)), (x_to, .inl (cyI, 319, .inl ft)), (x_tally, .inr (1, [.ref x_kind, .ref x_often, .int 0, .int 0])), (m0, .inr (5, [.ref m_row, .int 0, .int 2, .int 0, .ref m_many, .ref m_loss, .ref m_less, .ref m_voteValue, .ref m_voteNumber, .ref m_allValue, .ref m_allNumber, .int 0, .ref m_nodeL, .ref m_nodeR, .int 0, .ref m_part, .int 0, .ref m_wasMany, .ref m_wasLoss, .ref m_wasValue, .ref m_wasNumber, .ref m_path, .int 0, .ref m_heavyValue, .ref m_heavyTimes, .int 0, .ref m_fewest, .ref m_which, .ref m_met, .int 0])), (m_row, .inl (cyI, 160, .inl fm))] H) (hD : va_D (fun q : Nat => s.heap.size ≤ q) [(x0, .inr (4, [.ref x_row, .ref x_tree, .ref x_tally, .ref x_votes, .ref x_otherVotes, .ref x_wins, .ref x_fewest, .int 2, .int 1])), (x_row, .inr (0, [.ref x_cell, .int 0])), (x_cell, .inl (cyI, 160, .inl fc)), (x_tree, .inr (2, [.ref x_row, .ref x_joined, .ref x_from, .ref x_to, .ref x_size, .ref x_lossOf, .ref x_lessBy, .ref x_tvalue, .ref x_tnumber, .int 0, .int 0])), (x_from, .inl (cyI, 319, .inl ff)), (x_to, .inl (cyI, 319, .inl ft)), (x_tally, .inr (1, [.ref x_kind, .ref x_often, .int 0, .int 0])), (m0, .inr (5, [.ref m_row, .int 0, .int 2, .int 0, .ref m_many, .ref m_loss, .ref m_less, .ref m_voteValue, .ref m_voteNumber, .ref m_allValue, .ref m_allNumber, .int 0, .ref m_nodeL, .ref m_nodeR, .int 0, .ref m_part, .int 0, .ref m_wasMany, .ref m_wasLoss, .ref m_wasValue, .ref m_wasNumber, .ref m_path, .int 0, .ref m_heavyValue, .ref m_heavyTimes, .int 0, .ref m_fewest, .ref m_which, .ref m_met, .int 0])), (m_row, .inl (cyI, 160, .inl fm))]) (hS : va_S (fun q : Nat => s.heap.size ≤ q) s.heap H locs) {ls : Array Slot} (hl : lv_has ls 7 [(4, .int 0), (3, .ref q_o), (2, .ref m0), (1, .ref x0), (0, .ref b)]) : W p l e room_1 s m #[Value.ref b] below meth c H locs 60 20000 (lw_Z below #[Value.ref b] s) (F0 m 294 ls []) := by
  obtain ⟨hx, hb, hr, hml, hown, hts0, hX, hbl, hlocks, hgv⟩ := id C0
  have hts := hts0
  have hA : ∀ q : Nat, s.heap.size ≤ q → (fun q : Nat => s.heap.size ≤ q) q := fun _ h => h
  have hbA : ¬ (fun q : Nat => s.heap.size ≤ q) b := Nat.not_le.mpr hbl
  have hown : s.vm.findClass RL = some m.cls := hown
  have hb : c.code = cL_law := hb
  refine lv_aload_n hx hb dL_law_294 rfl (lv_at hl 3 rfl) ?_
  refine lv_aload_n hx hb dL_law_295 rfl (lv_at hl 4 rfl) ?_
  refine lv_iload hx hb dL_law_296 (lv_at hl 0 rfl) ?_
  refine lv_iconst (v := 1) hx hb dL_law_298 (by decide) ?_
  refine lv_iadd hx hb dL_law_299 ?_
  refine W.eq (g2 := F0 m 300 ls [.int 1, .ref b, .ref x0]) (by first | rfl | (congr 2; decide)) ?_
  refine va_sld hx hb hX hbl hbA hS (i := 1) (ki_inl (by decide)) dL_law_300 ?_
  have hPc := hP.sub (ws' := [(x0, .inr (4, [.ref x_row, .ref x_tree, .ref x_tally, .ref x_votes, .ref x_otherVotes, .ref x_wins, .ref x_fewest, .int 2, .int 1]))]) [0] rfl
  have hKc := hK.sub (tys' := []) [] rfl
  have hDc := hD.sub (ws' := [(x0, .inr (4, [.ref x_row, .ref x_tree, .ref x_tally, .ref x_votes, .ref x_otherVotes, .ref x_wins, .ref x_fewest, .int 2, .int 1]))]) [0] (by decide) rfl
  have hFc := va_free (wc := [(x0, .inr (4, [.ref x_row, .ref x_tree, .ref x_tally, .ref x_votes, .ref x_otherVotes, .ref x_wins, .ref x_fewest, .int 2, .int 1]))]) hD hS hA [0] rfl
  refine va_calli (va_runV (As := [.int (xs (1 : Int32).toNatClampNeg)]) (rest := []) ⟨hx, hb, hml, hown, (lwC_X4_slots hts0)⟩ (c_X4_slots l dC dI x0 x_row x_tree x_tally x_votes x_otherVotes x_wins x_fewest (xs (1 : Int32).toNatClampNeg) H.size) (cwV 1 (lwC_X4_slots hts0) lwG_X4_slots rfl rfl rfl (by decide +kernel) ⟨Nat.le_of_ble_eq_true rfl, Nat.le_of_ble_eq_true rfl⟩) ⟨fun a U g mk q => by obtain ⟨q0, q1, qP, qK, qD⟩ := q; exact ⟨q0, q1, qP, va_K.moved (u := U) (U := U.calling g mk a) (Vm.Alike.refl U.vm) qK, qD⟩, va_recv hKc hPc (ci := 4) (q0 := 0) rfl rfl, fun U hU hW => ⟨rfl, by rw [hU], by rw [hU]; exact hPc, va_K.moved hW.alike hKc, hDc.weaken (fun _ _ _ _ => trivial)⟩⟩ rfl rfl hl.1 rfl (lv_room (Nat.le_of_ble_eq_true rfl)) dL_law_301 ⟨Nat.le_of_ble_eq_true rfl, Nat.le_of_ble_eq_true rfl⟩) hS (fun q _ h => hFc q h) hFc (fun r_1 u t H1 locs ht hvm w_1 hB hz1 hk1 hS => ?_)
  obtain ⟨hP1, hK1, hD1⟩ := hB
  rw [ht] at hP1
  have hK1 := va_K.moved hvm.symm hK1
  obtain ⟨hP, hD⟩ := va_join (wr := [(x_row, .inr (0, [.ref x_cell, .int 0])), (x_cell, .inl (cyI, 160, .inl fc)), (x_tree, .inr (2, [.ref x_row, .ref x_joined, .ref x_from, .ref x_to, .ref x_size, .ref x_lossOf, .ref x_lessBy, .ref x_tvalue, .ref x_tnumber, .int 0, .int 0])), (x_from, .inl (cyI, 319, .inl ff)), (x_to, .inl (cyI, 319, .inl ft)), (x_tally, .inr (1, [.ref x_kind, .ref x_often, .int 0, .int 0])), (m0, .inr (5, [.ref m_row, .int 0, .int 2, .int 0, .ref m_many, .ref m_loss, .ref m_less, .ref m_voteValue, .ref m_voteNumber, .ref m_allValue, .ref m_allNumber, .int 0, .ref m_nodeL, .ref m_nodeR, .int 0, .ref m_part, .int 0, .ref m_wasMany, .ref m_wasLoss, .ref m_wasValue, .ref m_wasNumber, .ref m_path, .int 0, .ref m_heavyValue, .ref m_heavyTimes, .int 0, .ref m_fewest, .ref m_which, .ref m_met, .int 0])), (m_row, .inl (cyI, 160, .inl fm))]) (w1 := []) hP hD [0] [1, 2, 3, 4, 5, 6, 7, 8] rfl rfl (by decide) (by decide) hk1 hFc hP1 hD1
  clear hP1 hD1 hK1 hk1 hz1 hFc hDc hPc hKc
  generalize H1 = H at hP hS ⊢
  have hP : va_P (dC, dI) vwCl [(x_row, .inr (0, [.ref x_cell, .int 0])), (x_cell, .inl (cyI, 160, .inl fc)), (x_tree, .inr (2, [.ref x_row, .ref x_joined, .ref x_from, .ref x_to, .ref x_size, .ref x_lossOf, .ref x_lessBy, .ref x_tvalue, .ref x_tnumber, .int 0, .int 0])), (x_from, .inl (cyI, 319, .inl ff)), (x_to, .inl (cyI, 319, .inl ft)), (x_tally, .inr (1, [.ref x_kind, .ref x_often, .int 0, .int 0])), (m0, .inr (5, [.ref m_row, .int 0, .int 2, .int 0, .ref m_many, .ref m_loss, .ref m_less, .ref m_voteValue, .ref m_voteNumber, .ref m_allValue, .ref m_allNumber, .int 0, .ref m_nodeL, .ref m_nodeR, .int 0, .ref m_part, .int 0, .ref m_wasMany, .ref m_wasLoss, .ref m_wasValue, .ref m_wasNumber, .ref m_path, .int 0, .ref m_heavyValue, .ref m_heavyTimes, .int 0, .ref m_fewest, .ref m_which, .ref m_met, .int 0])), (m_row, .inl (cyI, 160, .inl fm))] H := hP
  have hD : va_D (fun q : Nat => s.heap.size ≤ q) [(x_row, .inr (0, [.ref x_cell, .int 0])), (x_cell, .inl (cyI, 160, .inl fc)), (x_tree, .inr (2, [.ref x_row, .ref x_joined, .ref x_from, .ref x_to, .ref x_size, .ref x_lossOf, .ref x_lessBy, .ref x_tvalue, .ref x_tnumber, .int 0, .int 0])), (x_from, .inl (cyI, 319, .inl ff)), (x_to, .inl (cyI, 319, .inl ft)), (x_tally, .inr (1, [.ref x_kind, .ref x_often, .int 0, .int 0])), (m0, .inr (5, [.ref m_row, .int 0, .int 2, .int 0, .ref m_many, .ref m_loss, .ref m_less, .ref m_voteValue, .ref m_voteNumber, .ref m_allValue, .ref m_allNumber, .int 0, .ref m_nodeL, .ref m_nodeR, .int 0, .ref m_part, .int 0, .ref m_wasMany, .ref m_wasLoss, .ref m_wasValue, .ref m_wasNumber, .ref m_path, .int 0, .ref m_heavyValue, .ref m_heavyTimes, .int 0, .ref m_fewest, .ref m_which, .ref m_met, .int 0])), (m_row, .inl (cyI, 160, .inl fm))] := hD
  rcases w_1 with ⟨rfl, w_1⟩ | ⟨rfl, w_1⟩
  · have w_1 : (1 ≤ (xs (1 : Int32).toNatClampNeg).toInt ∧ (xs (1 : Int32).toNatClampNeg).toInt ≤ 6) := w_1
    refine lv_aload_n hx hb dL_law_304 rfl (lv_at hl 2 rfl) ?_
    refine lv_aload_n hx hb dL_law_305 rfl (lv_at hl 4 rfl) ?_
    refine lv_iload hx hb dL_law_306 (lv_at hl 0 rfl) ?_
    refine lv_iconst (v := 1) hx hb dL_law_308 (by decide) ?_
    refine lv_iadd hx hb dL_law_309 ?_
    refine W.eq (g2 := F0 m 310 ls [.int 1, .ref b, .ref m0, .int 2]) (by first | rfl | (congr 2; decide)) ?_
    refine va_sld hx hb hX hbl hbA hS (i := 1) (ki_inl (by decide)) dL_law_310 ?_
    have hPc := hP.sub (ws' := [(m0, .inr (5, [.ref m_row, .int 0, .int 2, .int 0, .ref m_many, .ref m_loss, .ref m_less, .ref m_voteValue, .ref m_voteNumber, .ref m_allValue, .ref m_allNumber, .int 0, .ref m_nodeL, .ref m_nodeR, .int 0, .ref m_part, .int 0, .ref m_wasMany, .ref m_wasLoss, .ref m_wasValue, .ref m_wasNumber, .ref m_path, .int 0, .ref m_heavyValue, .ref m_heavyTimes, .int 0, .ref m_fewest, .ref m_which, .ref m_met, .int 0]))]) [6] rfl
    have hKc := hK.sub (tys' := []) [] rfl
    have hDc := hD.sub (ws' := [(m0, .inr (5, [.ref m_row, .int 0, .int 2, .int 0, .ref m_many, .ref m_loss, .ref m_less, .ref m_voteValue, .ref m_voteNumber, .ref m_allValue, .ref m_allNumber, .int 0, .ref m_nodeL, .ref m_nodeR, .int 0, .ref m_part, .int 0, .ref m_wasMany, .ref m_wasLoss, .ref m_wasValue, .ref m_wasNumber, .ref m_path, .int 0, .ref m_heavyValue, .ref m_heavyTimes, .int 0, .ref m_fewest, .ref m_which, .ref m_met, .int 0]))]) [6] (by decide) rfl
    have hFc := va_free (wc := [(m0, .inr (5, [.ref m_row, .int 0, .int 2, .int 0, .ref m_many, .ref m_loss, .ref m_less, .ref m_voteValue, .ref m_voteNumber, .ref m_allValue, .ref m_allNumber, .int 0, .ref m_nodeL, .ref m_nodeR, .int 0, .ref m_part, .int 0, .ref m_wasMany, .ref m_wasLoss, .ref m_wasValue, .ref m_wasNumber, .ref m_path, .int 0, .ref m_heavyValue, .ref m_heavyTimes, .int 0, .ref m_fewest, .ref m_which, .ref m_met, .int 0]))]) hD hS hA [6] rfl
    refine va_calli (va_runV (As := [.int (xs (1 : Int32).toNatClampNeg)]) (rest := [.int 2]) ⟨hx, hb, hml, hown, (lwC_X5_slots hts0)⟩ (c_X5_slots l dC dI m0 m_row m_many m_loss m_less m_voteValue m_voteNumber m_allValue m_allNumber m_nodeL m_nodeR m_part m_wasMany m_wasLoss m_wasValue m_wasNumber m_path m_heavyValue m_heavyTimes m_fewest m_which m_met (xs (1 : Int32).toNatClampNeg) H.size) (cwV 1 (lwC_X5_slots hts0) lwG_X5_slots rfl rfl rfl (by decide +kernel) ⟨Nat.le_of_ble_eq_true rfl, Nat.le_of_ble_eq_true rfl⟩) ⟨fun a U g mk q => by obtain ⟨q0, q1, qP, qK, qD⟩ := q; exact ⟨q0, q1, qP, va_K.moved (u := U) (U := U.calling g mk a) (Vm.Alike.refl U.vm) qK, qD⟩, va_recv hKc hPc (ci := 5) (q0 := 0) rfl rfl, fun U hU hW => ⟨rfl, by rw [hU], by rw [hU]; exact hPc, va_K.moved hW.alike hKc, hDc.weaken (fun _ _ _ _ => trivial)⟩⟩ rfl rfl hl.1 rfl (lv_room (Nat.le_of_ble_eq_true rfl)) dL_law_311 ⟨Nat.le_of_ble_eq_true rfl, Nat.le_of_ble_eq_true rfl⟩) hS (fun q _ h => hFc q h) hFc (fun r_2 u t H1 locs ht hvm w_2 hB hz1 hk1 hS => ?_)
    obtain ⟨hP1, hK1, hD1⟩ := hB
    rw [ht] at hP1
    have hK1 := va_K.moved hvm.symm hK1
    obtain ⟨hP, hD⟩ := va_join (wr := [(x_row, .inr (0, [.ref x_cell, .int 0])), (x_cell, .inl (cyI, 160, .inl fc)), (x_tree, .inr (2, [.ref x_row, .ref x_joined, .ref x_from, .ref x_to, .ref x_size, .ref x_lossOf, .ref x_lessBy, .ref x_tvalue, .ref x_tnumber, .int 0, .int 0])), (x_from, .inl (cyI, 319, .inl ff)), (x_to, .inl (cyI, 319, .inl ft)), (x_tally, .inr (1, [.ref x_kind, .ref x_often, .int 0, .int 0])), (m_row, .inl (cyI, 160, .inl fm))]) (w1 := []) hP hD [6] [0, 1, 2, 3, 4, 5, 7] rfl rfl (by decide) (by decide) hk1 hFc hP1 hD1
    clear hP1 hD1 hK1 hk1 hz1 hFc hDc hPc hKc
    generalize H1 = H at hP hS ⊢
    have hP : va_P (dC, dI) vwCl [(x_row, .inr (0, [.ref x_cell, .int 0])), (x_cell, .inl (cyI, 160, .inl fc)), (x_tree, .inr (2, [.ref x_row, .ref x_joined, .ref x_from, .ref x_to, .ref x_size, .ref x_lossOf, .ref x_lessBy, .ref x_tvalue, .ref x_tnumber, .int 0, .int 0])), (x_from, .inl (cyI, 319, .inl ff)), (x_to, .inl (cyI, 319, .inl ft)), (x_tally, .inr (1, [.ref x_kind, .ref x_often, .int 0, .int 0])), (m_row, .inl (cyI, 160, .inl fm))] H := hP
    have hD : va_D (fun q : Nat => s.heap.size ≤ q) [(x_row, .inr (0, [.ref x_cell, .int 0])), (x_cell, .inl (cyI, 160, .inl fc)), (x_tree, .inr (2, [.ref x_row, .ref x_joined, .ref x_from, .ref x_to, .ref x_size, .ref x_lossOf, .ref x_lessBy, .ref x_tvalue, .ref x_tnumber, .int 0, .int 0])), (x_from, .inl (cyI, 319, .inl ff)), (x_to, .inl (cyI, 319, .inl ft)), (x_tally, .inr (1, [.ref x_kind, .ref x_often, .int 0, .int 0])), (m_row, .inl (cyI, 160, .inl fm))] := hD
    rcases w_2 with ⟨rfl, w_2⟩ | ⟨rfl, w_2⟩
    · have w_2 : (1 ≤ (xs (1 : Int32).toNatClampNeg).toInt ∧ (xs (1 : Int32).toNatClampNeg).toInt ≤ 6) := w_2
      refine lv_icmp_eq (tgt := 2400) hx hb dL_law_314 (by decide) (fun c_3 => ?_) (fun c_3 => ?_)
      · refine W.widen (k := 100) (n := 30000) (Nat.le_of_ble_eq_true rfl) (Nat.le_of_ble_eq_true rfl) ?_
        exact lc_end C0 hS (lv_sub hl [0, 4] rfl)
      · exact absurd c_3 (by decide)
    · have w_2 : ((xs (1 : Int32).toNatClampNeg).toInt < 1 ∨ 6 < (xs (1 : Int32).toNatClampNeg).toInt) := w_2
      refine lv_icmp_eq (tgt := 2400) hx hb dL_law_314 (by decide) (fun c_4 => ?_) (fun c_4 => ?_)
      · exact absurd c_4 (by decide)
      · refine lv_iconst (v := 0) hx hb dL_law_317 (by decide) ?_
        exfalso; omega
  · have w_1 : ((xs (1 : Int32).toNatClampNeg).toInt < 1 ∨ 6 < (xs (1 : Int32).toNatClampNeg).toInt) := w_1
    refine lv_aload_n hx hb dL_law_304 rfl (lv_at hl 2 rfl) ?_
    refine lv_aload_n hx hb dL_law_305 rfl (lv_at hl 4 rfl) ?_
    refine lv_iload hx hb dL_law_306 (lv_at hl 0 rfl) ?_
    refine lv_iconst (v := 1) hx hb dL_law_308 (by decide) ?_
    refine lv_iadd hx hb dL_law_309 ?_
    refine W.eq (g2 := F0 m 310 ls [.int 1, .ref b, .ref m0, .int (-1)]) (by first | rfl | (congr 2; decide)) ?_
    refine va_sld hx hb hX hbl hbA hS (i := 1) (ki_inl (by decide)) dL_law_310 ?_
    have hPc := hP.sub (ws' := [(m0, .inr (5, [.ref m_row, .int 0, .int 2, .int 0, .ref m_many, .ref m_loss, .ref m_less, .ref m_voteValue, .ref m_voteNumber, .ref m_allValue, .ref m_allNumber, .int 0, .ref m_nodeL, .ref m_nodeR, .int 0, .ref m_part, .int 0, .ref m_wasMany, .ref m_wasLoss, .ref m_wasValue, .ref m_wasNumber, .ref m_path, .int 0, .ref m_heavyValue, .ref m_heavyTimes, .int 0, .ref m_fewest, .ref m_which, .ref m_met, .int 0]))]) [6] rfl
    have hKc := hK.sub (tys' := []) [] rfl
    have hDc := hD.sub (ws' := [(m0, .inr (5, [.ref m_row, .int 0, .int 2, .int 0, .ref m_many, .ref m_loss, .ref m_less, .ref m_voteValue, .ref m_voteNumber, .ref m_allValue, .ref m_allNumber, .int 0, .ref m_nodeL, .ref m_nodeR, .int 0, .ref m_part, .int 0, .ref m_wasMany, .ref m_wasLoss, .ref m_wasValue, .ref m_wasNumber, .ref m_path, .int 0, .ref m_heavyValue, .ref m_heavyTimes, .int 0, .ref m_fewest, .ref m_which, .ref m_met, .int 0]))]) [6] (by decide) rfl
    have hFc := va_free (wc := [(m0, .inr (5, [.ref m_row, .int 0, .int 2, .int 0, .ref m_many, .ref m_loss, .ref m_less, .ref m_voteValue, .ref m_voteNumber, .ref m_allValue, .ref m_allNumber, .int 0, .ref m_nodeL, .ref m_nodeR, .int 0, .ref m_part, .int 0, .ref m_wasMany, .ref m_wasLoss, .ref m_wasValue, .ref m_wasNumber, .ref m_path, .int 0, .ref m_heavyValue, .ref m_heavyTimes, .int 0, .ref m_fewest, .ref m_which, .ref m_met, .int 0]))]) hD hS hA [6] rfl
    refine va_calli (va_runV (As := [.int (xs (1 : Int32).toNatClampNeg)]) (rest := [.int (-1)]) ⟨hx, hb, hml, hown, (lwC_X5_slots hts0)⟩ (c_X5_slots l dC dI m0 m_row m_many m_loss m_less m_voteValue m_voteNumber m_allValue m_allNumber m_nodeL m_nodeR m_part m_wasMany m_wasLoss m_wasValue m_wasNumber m_path m_heavyValue m_heavyTimes m_fewest m_which m_met (xs (1 : Int32).toNatClampNeg) H.size) (cwV 1 (lwC_X5_slots hts0) lwG_X5_slots rfl rfl rfl (by decide +kernel) ⟨Nat.le_of_ble_eq_true rfl, Nat.le_of_ble_eq_true rfl⟩) ⟨fun a U g mk q => by obtain ⟨q0, q1, qP, qK, qD⟩ := q; exact ⟨q0, q1, qP, va_K.moved (u := U) (U := U.calling g mk a) (Vm.Alike.refl U.vm) qK, qD⟩, va_recv hKc hPc (ci := 5) (q0 := 0) rfl rfl, fun U hU hW => ⟨rfl, by rw [hU], by rw [hU]; exact hPc, va_K.moved hW.alike hKc, hDc.weaken (fun _ _ _ _ => trivial)⟩⟩ rfl rfl hl.1 rfl (lv_room (Nat.le_of_ble_eq_true rfl)) dL_law_311 ⟨Nat.le_of_ble_eq_true rfl, Nat.le_of_ble_eq_true rfl⟩) hS (fun q _ h => hFc q h) hFc (fun r_5 u t H1 locs ht hvm w_5 hB hz1 hk1 hS => ?_)
    obtain ⟨hP1, hK1, hD1⟩ := hB
    rw [ht] at hP1
    have hK1 := va_K.moved hvm.symm hK1
    obtain ⟨hP, hD⟩ := va_join (wr := [(x_row, .inr (0, [.ref x_cell, .int 0])), (x_cell, .inl (cyI, 160, .inl fc)), (x_tree, .inr (2, [.ref x_row, .ref x_joined, .ref x_from, .ref x_to, .ref x_size, .ref x_lossOf, .ref x_lessBy, .ref x_tvalue, .ref x_tnumber, .int 0, .int 0])), (x_from, .inl (cyI, 319, .inl ff)), (x_to, .inl (cyI, 319, .inl ft)), (x_tally, .inr (1, [.ref x_kind, .ref x_often, .int 0, .int 0])), (m_row, .inl (cyI, 160, .inl fm))]) (w1 := []) hP hD [6] [0, 1, 2, 3, 4, 5, 7] rfl rfl (by decide) (by decide) hk1 hFc hP1 hD1
    clear hP1 hD1 hK1 hk1 hz1 hFc hDc hPc hKc
    generalize H1 = H at hP hS ⊢
    have hP : va_P (dC, dI) vwCl [(x_row, .inr (0, [.ref x_cell, .int 0])), (x_cell, .inl (cyI, 160, .inl fc)), (x_tree, .inr (2, [.ref x_row, .ref x_joined, .ref x_from, .ref x_to, .ref x_size, .ref x_lossOf, .ref x_lessBy, .ref x_tvalue, .ref x_tnumber, .int 0, .int 0])), (x_from, .inl (cyI, 319, .inl ff)), (x_to, .inl (cyI, 319, .inl ft)), (x_tally, .inr (1, [.ref x_kind, .ref x_often, .int 0, .int 0])), (m_row, .inl (cyI, 160, .inl fm))] H := hP
    have hD : va_D (fun q : Nat => s.heap.size ≤ q) [(x_row, .inr (0, [.ref x_cell, .int 0])), (x_cell, .inl (cyI, 160, .inl fc)), (x_tree, .inr (2, [.ref x_row, .ref x_joined, .ref x_from, .ref x_to, .ref x_size, .ref x_lossOf, .ref x_lessBy, .ref x_tvalue, .ref x_tnumber, .int 0, .int 0])), (x_from, .inl (cyI, 319, .inl ff)), (x_to, .inl (cyI, 319, .inl ft)), (x_tally, .inr (1, [.ref x_kind, .ref x_often, .int 0, .int 0])), (m_row, .inl (cyI, 160, .inl fm))] := hD
    rcases w_5 with ⟨rfl, w_5⟩ | ⟨rfl, w_5⟩
    · have w_5 : (1 ≤ (xs (1 : Int32).toNatClampNeg).toInt ∧ (xs (1 : Int32).toNatClampNeg).toInt ≤ 6) := w_5
      refine lv_icmp_eq (tgt := 2400) hx hb dL_law_314 (by decide) (fun c_6 => ?_) (fun c_6 => ?_)
      · exact absurd c_6 (by decide)
      · refine lv_iconst (v := 0) hx hb dL_law_317 (by decide) ?_
        exfalso; omega
    · have w_5 : ((xs (1 : Int32).toNatClampNeg).toInt < 1 ∨ 6 < (xs (1 : Int32).toNatClampNeg).toInt) := w_5
      refine lv_icmp_eq (tgt := 2400) hx hb dL_law_314 (by decide) (fun c_7 => ?_) (fun c_7 => ?_)
      · refine W.widen (k := 100) (n := 30000) (Nat.le_of_ble_eq_true rfl) (Nat.le_of_ble_eq_true rfl) ?_
        exact lc_end C0 hS (lv_sub hl [0, 4] rfl)
      · exact absurd c_7 (by decide)

set_option maxHeartbeats 4000000 in
set_option maxRecDepth 100000 in
theorem lc_3 {p : Program} {l : Launch} {e : Env} {s : State} {m : MethodId} {below : List Frame} {meth : Method} {c : Code} {dC : Nat → ClassId} {dI : Nat → Nat → Nat} {b : Nat} {xs : Nat → Int32} (hl0 : l.stackTraces = false) (C0 : lw_At p s m meth c b 8 xs) (hth : ki_Th s) {x0 x_row x_tree x_tally x_votes x_otherVotes x_wins x_fewest x_cell x_joined x_from x_to x_size x_lossOf x_lessBy x_tvalue x_tnumber x_kind x_often m0 m_row m_many m_loss m_less m_voteValue m_voteNumber m_allValue m_allNumber m_nodeL m_nodeR m_part m_wasMany m_wasLoss m_wasValue m_wasNumber m_path m_heavyValue m_heavyTimes m_fewest m_which m_met q_o : Nat} {cyI : ClassId} {fc ff ft fm : Nat → Int32} {H : Heap} {locs : List Loc} (hK : va_K (dC, dI) vwCl [(cyI, .int)] s) (hP : va_P (dC, dI) vwCl [(x0, .inr (4, [.ref x_row, .ref x_tree, .ref x_tally, .ref x_votes, .ref x_otherVotes, .ref x_wins, .ref x_fewest, .int 2, .int 1])), (x_row, .inr (0, [.ref x_cell, .int 0])), (x_cell, .inl (cyI, 160, .inl fc)), (x_tree, .inr (2, [.ref x_row, .ref x_joined, .ref x_from, .ref x_to, .ref x_size, .ref x_lossOf, .ref x_lessBy, .ref x_tvalue, .ref x_tnumber, .int 0, .int 0])), (x_from, .inl (cyI, 319, .inl ff)), (x_to, .inl (cyI, 319, .inl ft)), (x_tally, .inr (1, [.ref x_kind, .ref x_often, .int 0, .int 0])), (m0, .inr (5, [.ref m_row, .int 0, .int 2, .int 0, .ref m_many, .ref m_loss, .ref m_less, .ref m_voteValue, .ref m_voteNumber, .ref m_allValue, .ref m_allNumber, .int 0, .ref m_nodeL, .ref m_nodeR, .int 0, .ref m_part, .int 0, .ref m_wasMany, .ref m_wasLoss, .ref m_wasValue, .ref m_wasNumber, .ref m_path, .int 0, .ref m_heavyValue, .ref m_heavyTimes, .int 0, .ref m_fewest, .ref m_which, .ref m_met, .int 0])), (m_row, .inl (cyI, 160, .inl fm))] H) (hD : va_D (fun q : Nat => s.heap.size ≤ q) [(x0, .inr (4, [.ref x_row, .ref x_tree, .ref x_tally, .ref x_votes, .ref x_otherVotes, .ref x_wins, .ref x_fewest, .int 2, .int 1])), (x_row, .inr (0, [.ref x_cell, .int 0])), (x_cell, .inl (cyI, 160, .inl fc)), (x_tree, .inr (2, [.ref x_row, .ref x_joined, .ref x_from, .ref x_to, .ref x_size, .ref x_lossOf, .ref x_lessBy, .ref x_tvalue, .ref x_tnumber, .int 0, .int 0])), (x_from, .inl (cyI, 319, .inl ff)), (x_to, .inl (cyI, 319, .inl ft)), (x_tally, .inr (1, [.ref x_kind, .ref x_often, .int 0, .int 0])), (m0, .inr (5, [.ref m_row, .int 0, .int 2, .int 0, .ref m_many, .ref m_loss, .ref m_less, .ref m_voteValue, .ref m_voteNumber, .ref m_allValue, .ref m_allNumber, .int 0, .ref m_nodeL, .ref m_nodeR, .int 0, .ref m_part, .int 0, .ref m_wasMany, .ref m_wasLoss, .ref m_wasValue, .ref m_wasNumber, .ref m_path, .int 0, .ref m_heavyValue, .ref m_heavyTimes, .int 0, .ref m_fewest, .ref m_which, .ref m_met, .int 0])), (m_row, .inl (cyI, 160, .inl fm))]) (hS : va_S (fun q : Nat => s.heap.size ≤ q) s.heap H locs) {ls : Array Slot} (hl : lv_has ls 7 [(4, .int 0), (3, .ref q_o), (2, .ref m0), (1, .ref x0), (0, .ref b)]) : W p l e room_1 s m #[Value.ref b] below meth c H locs 60 20000 (lw_Z below #[Value.ref b] s) (F0 m 319 ls []) := by
  obtain ⟨hx, hb, hr, hml, hown, hts0, hX, hbl, hlocks, hgv⟩ := id C0
  have hts := hts0
  have hA : ∀ q : Nat, s.heap.size ≤ q → (fun q : Nat => s.heap.size ≤ q) q := fun _ h => h
  have hbA : ¬ (fun q : Nat => s.heap.size ≤ q) b := Nat.not_le.mpr hbl
  have hown : s.vm.findClass RL = some m.cls := hown
  have hb : c.code = cL_law := hb
  refine lv_aload_n hx hb dL_law_319 rfl (lv_at hl 3 rfl) ?_
  refine lv_aload_n hx hb dL_law_320 rfl (lv_at hl 4 rfl) ?_
  refine lv_iload hx hb dL_law_321 (lv_at hl 0 rfl) ?_
  refine lv_iconst (v := 1) hx hb dL_law_323 (by decide) ?_
  refine lv_iadd hx hb dL_law_324 ?_
  refine W.eq (g2 := F0 m 325 ls [.int 1, .ref b, .ref x0]) (by first | rfl | (congr 2; decide)) ?_
  refine va_sld hx hb hX hbl hbA hS (i := 1) (ki_inl (by decide)) dL_law_325 ?_
  refine lv_aload_n hx hb dL_law_326 rfl (lv_at hl 4 rfl) ?_
  refine lv_iload hx hb dL_law_327 (lv_at hl 0 rfl) ?_
  refine lv_iconst (v := 2) hx hb dL_law_329 (by decide) ?_
  refine lv_iadd hx hb dL_law_330 ?_
  refine W.eq (g2 := F0 m 331 ls [.int 2, .ref b, .int (xs (1 : Int32).toNatClampNeg), .ref x0]) (by first | rfl | (congr 2; decide)) ?_
  refine va_sld hx hb hX hbl hbA hS (i := 2) (ki_inl (by decide)) dL_law_331 ?_
  have hPc := hP.sub (ws' := [(x0, .inr (4, [.ref x_row, .ref x_tree, .ref x_tally, .ref x_votes, .ref x_otherVotes, .ref x_wins, .ref x_fewest, .int 2, .int 1])), (x_row, .inr (0, [.ref x_cell, .int 0]))]) [0, 1] rfl
  have hKc := hK.sub (tys' := []) [] rfl
  refine vp_callSi (W.runV (As := [.int (xs (1 : Int32).toNatClampNeg), .int (xs (2 : Int32).toNatClampNeg)]) (rest := []) ⟨hx, hb, hml, hown, (lwC_X4_set hts0)⟩ (c_X4_set l dC dI x0 x_row x_tree x_tally x_votes x_otherVotes x_wins x_fewest x_cell (xs (1 : Int32).toNatClampNeg) (xs (2 : Int32).toNatClampNeg)) (cwV 2 (lwC_X4_set hts0) lwG_X4_set rfl rfl rfl (by decide +kernel) ⟨Nat.le_of_ble_eq_true rfl, Nat.le_of_ble_eq_true rfl⟩) ⟨fun a U g mk q => by obtain ⟨q0, qP, qK⟩ := q; exact ⟨q0, qP, va_K.moved (u := U) (U := U.calling g mk a) (Vm.Alike.refl U.vm) qK⟩, va_recv hKc hPc (ci := 4) (q0 := 0) rfl rfl, fun U hU hW => ⟨rfl, by rw [hU]; exact hPc, va_K.moved hW.alike hKc⟩⟩ rfl rfl hl.1 rfl (lv_room (Nat.le_of_ble_eq_true rfl)) dL_law_332 ⟨Nat.le_of_ble_eq_true rfl, Nat.le_of_ble_eq_true rfl⟩) (fun r_1 w_1 => ?_)
  subst w_1
  refine lv_aload_n hx hb dL_law_335 rfl (lv_at hl 2 rfl) ?_
  refine lv_aload_n hx hb dL_law_336 rfl (lv_at hl 4 rfl) ?_
  refine lv_iload hx hb dL_law_337 (lv_at hl 0 rfl) ?_
  refine lv_iconst (v := 1) hx hb dL_law_339 (by decide) ?_
  refine lv_iadd hx hb dL_law_340 ?_
  refine W.eq (g2 := F0 m 341 ls [.int 1, .ref b, .ref m0, .int (-1)]) (by first | rfl | (congr 2; decide)) ?_
  refine va_sld hx hb hX hbl hbA hS (i := 1) (ki_inl (by decide)) dL_law_341 ?_
  refine lv_aload_n hx hb dL_law_342 rfl (lv_at hl 4 rfl) ?_
  refine lv_iload hx hb dL_law_343 (lv_at hl 0 rfl) ?_
  refine lv_iconst (v := 2) hx hb dL_law_345 (by decide) ?_
  refine lv_iadd hx hb dL_law_346 ?_
  refine W.eq (g2 := F0 m 347 ls [.int 2, .ref b, .int (xs (1 : Int32).toNatClampNeg), .ref m0, .int (-1)]) (by first | rfl | (congr 2; decide)) ?_
  refine va_sld hx hb hX hbl hbA hS (i := 2) (ki_inl (by decide)) dL_law_347 ?_
  have hPc := hP.sub (ws' := [(m0, .inr (5, [.ref m_row, .int 0, .int 2, .int 0, .ref m_many, .ref m_loss, .ref m_less, .ref m_voteValue, .ref m_voteNumber, .ref m_allValue, .ref m_allNumber, .int 0, .ref m_nodeL, .ref m_nodeR, .int 0, .ref m_part, .int 0, .ref m_wasMany, .ref m_wasLoss, .ref m_wasValue, .ref m_wasNumber, .ref m_path, .int 0, .ref m_heavyValue, .ref m_heavyTimes, .int 0, .ref m_fewest, .ref m_which, .ref m_met, .int 0]))]) [7] rfl
  have hKc := hK.sub (tys' := []) [] rfl
  have hDc := hD.sub (ws' := [(m0, .inr (5, [.ref m_row, .int 0, .int 2, .int 0, .ref m_many, .ref m_loss, .ref m_less, .ref m_voteValue, .ref m_voteNumber, .ref m_allValue, .ref m_allNumber, .int 0, .ref m_nodeL, .ref m_nodeR, .int 0, .ref m_part, .int 0, .ref m_wasMany, .ref m_wasLoss, .ref m_wasValue, .ref m_wasNumber, .ref m_path, .int 0, .ref m_heavyValue, .ref m_heavyTimes, .int 0, .ref m_fewest, .ref m_which, .ref m_met, .int 0]))]) [7] (by decide) rfl
  have hFc := va_free (wc := [(m0, .inr (5, [.ref m_row, .int 0, .int 2, .int 0, .ref m_many, .ref m_loss, .ref m_less, .ref m_voteValue, .ref m_voteNumber, .ref m_allValue, .ref m_allNumber, .int 0, .ref m_nodeL, .ref m_nodeR, .int 0, .ref m_part, .int 0, .ref m_wasMany, .ref m_wasLoss, .ref m_wasValue, .ref m_wasNumber, .ref m_path, .int 0, .ref m_heavyValue, .ref m_heavyTimes, .int 0, .ref m_fewest, .ref m_which, .ref m_met, .int 0]))]) hD hS hA [7] rfl
  refine va_calli (va_runV (As := [.int (xs (1 : Int32).toNatClampNeg), .int (xs (2 : Int32).toNatClampNeg)]) (rest := [.int (-1)]) ⟨hx, hb, hml, hown, (lwC_X5_set hts0)⟩ (c_X5_set l dC dI m0 m_row m_many m_loss m_less m_voteValue m_voteNumber m_allValue m_allNumber m_nodeL m_nodeR m_part m_wasMany m_wasLoss m_wasValue m_wasNumber m_path m_heavyValue m_heavyTimes m_fewest m_which m_met (xs (1 : Int32).toNatClampNeg) (xs (2 : Int32).toNatClampNeg) H.size) (cwV 2 (lwC_X5_set hts0) lwG_X5_set rfl rfl rfl (by decide +kernel) ⟨Nat.le_of_ble_eq_true rfl, Nat.le_of_ble_eq_true rfl⟩) ⟨fun a U g mk q => by obtain ⟨q0, q1, qP, qK, qD⟩ := q; exact ⟨q0, q1, qP, va_K.moved (u := U) (U := U.calling g mk a) (Vm.Alike.refl U.vm) qK, qD⟩, va_recv hKc hPc (ci := 5) (q0 := 0) rfl rfl, fun U hU hW => ⟨rfl, by rw [hU], by rw [hU]; exact hPc, va_K.moved hW.alike hKc, hDc.weaken (fun _ _ _ _ => trivial)⟩⟩ rfl rfl hl.1 rfl (lv_room (Nat.le_of_ble_eq_true rfl)) dL_law_348 ⟨Nat.le_of_ble_eq_true rfl, Nat.le_of_ble_eq_true rfl⟩) hS (fun q _ h => hFc q h) hFc (fun r_2 u t H1 locs ht hvm w_2 hB hz1 hk1 hS => ?_)
  obtain ⟨hP1, hK1, hD1⟩ := hB
  rw [ht] at hP1
  have hK1 := va_K.moved hvm.symm hK1
  obtain ⟨hP, hD⟩ := va_join (wr := [(x0, .inr (4, [.ref x_row, .ref x_tree, .ref x_tally, .ref x_votes, .ref x_otherVotes, .ref x_wins, .ref x_fewest, .int 2, .int 1])), (x_row, .inr (0, [.ref x_cell, .int 0])), (x_cell, .inl (cyI, 160, .inl fc)), (x_tree, .inr (2, [.ref x_row, .ref x_joined, .ref x_from, .ref x_to, .ref x_size, .ref x_lossOf, .ref x_lessBy, .ref x_tvalue, .ref x_tnumber, .int 0, .int 0])), (x_from, .inl (cyI, 319, .inl ff)), (x_to, .inl (cyI, 319, .inl ft)), (x_tally, .inr (1, [.ref x_kind, .ref x_often, .int 0, .int 0])), (m_row, .inl (cyI, 160, .inl fm))]) (w1 := []) hP hD [7] [0, 1, 2, 3, 4, 5, 6, 8] rfl rfl (by decide) (by decide) hk1 hFc hP1 hD1
  clear hP1 hD1 hK1 hk1 hz1 hFc hDc hPc hKc
  generalize H1 = H at hP hS ⊢
  have hP : va_P (dC, dI) vwCl [(x0, .inr (4, [.ref x_row, .ref x_tree, .ref x_tally, .ref x_votes, .ref x_otherVotes, .ref x_wins, .ref x_fewest, .int 2, .int 1])), (x_row, .inr (0, [.ref x_cell, .int 0])), (x_cell, .inl (cyI, 160, .inl fc)), (x_tree, .inr (2, [.ref x_row, .ref x_joined, .ref x_from, .ref x_to, .ref x_size, .ref x_lossOf, .ref x_lessBy, .ref x_tvalue, .ref x_tnumber, .int 0, .int 0])), (x_from, .inl (cyI, 319, .inl ff)), (x_to, .inl (cyI, 319, .inl ft)), (x_tally, .inr (1, [.ref x_kind, .ref x_often, .int 0, .int 0])), (m_row, .inl (cyI, 160, .inl fm))] H := hP
  have hD : va_D (fun q : Nat => s.heap.size ≤ q) [(x0, .inr (4, [.ref x_row, .ref x_tree, .ref x_tally, .ref x_votes, .ref x_otherVotes, .ref x_wins, .ref x_fewest, .int 2, .int 1])), (x_row, .inr (0, [.ref x_cell, .int 0])), (x_cell, .inl (cyI, 160, .inl fc)), (x_tree, .inr (2, [.ref x_row, .ref x_joined, .ref x_from, .ref x_to, .ref x_size, .ref x_lossOf, .ref x_lessBy, .ref x_tvalue, .ref x_tnumber, .int 0, .int 0])), (x_from, .inl (cyI, 319, .inl ff)), (x_to, .inl (cyI, 319, .inl ft)), (x_tally, .inr (1, [.ref x_kind, .ref x_often, .int 0, .int 0])), (m_row, .inl (cyI, 160, .inl fm))] := hD
  subst w_2
  refine lv_icmp_eq (tgt := 2400) hx hb dL_law_351 (by decide) (fun c_3 => ?_) (fun c_3 => ?_)
  · refine W.widen (k := 100) (n := 30000) (Nat.le_of_ble_eq_true rfl) (Nat.le_of_ble_eq_true rfl) ?_
    exact lc_end C0 hS (lv_sub hl [0, 4] rfl)
  · exact absurd c_3 (by decide)

set_option maxHeartbeats 4000000 in
set_option maxRecDepth 100000 in
theorem lc_4 {p : Program} {l : Launch} {e : Env} {s : State} {m : MethodId} {below : List Frame} {meth : Method} {c : Code} {dC : Nat → ClassId} {dI : Nat → Nat → Nat} {b : Nat} {xs : Nat → Int32} (hl0 : l.stackTraces = false) (C0 : lw_At p s m meth c b 8 xs) (hth : ki_Th s) {x0 x_row x_tree x_tally x_votes x_otherVotes x_wins x_fewest x_cell x_joined x_from x_to x_size x_lossOf x_lessBy x_tvalue x_tnumber x_kind x_often m0 m_row m_many m_loss m_less m_voteValue m_voteNumber m_allValue m_allNumber m_nodeL m_nodeR m_part m_wasMany m_wasLoss m_wasValue m_wasNumber m_path m_heavyValue m_heavyTimes m_fewest m_which m_met q_o : Nat} {cyI : ClassId} {fc ff ft fm : Nat → Int32} {H : Heap} {locs : List Loc} (hK : va_K (dC, dI) vwCl [(cyI, .int)] s) (hP : va_P (dC, dI) vwCl [(x0, .inr (4, [.ref x_row, .ref x_tree, .ref x_tally, .ref x_votes, .ref x_otherVotes, .ref x_wins, .ref x_fewest, .int 2, .int 1])), (x_row, .inr (0, [.ref x_cell, .int 0])), (x_cell, .inl (cyI, 160, .inl fc)), (x_tree, .inr (2, [.ref x_row, .ref x_joined, .ref x_from, .ref x_to, .ref x_size, .ref x_lossOf, .ref x_lessBy, .ref x_tvalue, .ref x_tnumber, .int 0, .int 0])), (x_from, .inl (cyI, 319, .inl ff)), (x_to, .inl (cyI, 319, .inl ft)), (x_tally, .inr (1, [.ref x_kind, .ref x_often, .int 0, .int 0])), (m0, .inr (5, [.ref m_row, .int 0, .int 2, .int 0, .ref m_many, .ref m_loss, .ref m_less, .ref m_voteValue, .ref m_voteNumber, .ref m_allValue, .ref m_allNumber, .int 0, .ref m_nodeL, .ref m_nodeR, .int 0, .ref m_part, .int 0, .ref m_wasMany, .ref m_wasLoss, .ref m_wasValue, .ref m_wasNumber, .ref m_path, .int 0, .ref m_heavyValue, .ref m_heavyTimes, .int 0, .ref m_fewest, .ref m_which, .ref m_met, .int 0])), (m_row, .inl (cyI, 160, .inl fm))] H) (hD : va_D (fun q : Nat => s.heap.size ≤ q) [(x0, .inr (4, [.ref x_row, .ref x_tree, .ref x_tally, .ref x_votes, .ref x_otherVotes, .ref x_wins, .ref x_fewest, .int 2, .int 1])), (x_row, .inr (0, [.ref x_cell, .int 0])), (x_cell, .inl (cyI, 160, .inl fc)), (x_tree, .inr (2, [.ref x_row, .ref x_joined, .ref x_from, .ref x_to, .ref x_size, .ref x_lossOf, .ref x_lessBy, .ref x_tvalue, .ref x_tnumber, .int 0, .int 0])), (x_from, .inl (cyI, 319, .inl ff)), (x_to, .inl (cyI, 319, .inl ft)), (x_tally, .inr (1, [.ref x_kind, .ref x_often, .int 0, .int 0])), (m0, .inr (5, [.ref m_row, .int 0, .int 2, .int 0, .ref m_many, .ref m_loss, .ref m_less, .ref m_voteValue, .ref m_voteNumber, .ref m_allValue, .ref m_allNumber, .int 0, .ref m_nodeL, .ref m_nodeR, .int 0, .ref m_part, .int 0, .ref m_wasMany, .ref m_wasLoss, .ref m_wasValue, .ref m_wasNumber, .ref m_path, .int 0, .ref m_heavyValue, .ref m_heavyTimes, .int 0, .ref m_fewest, .ref m_which, .ref m_met, .int 0])), (m_row, .inl (cyI, 160, .inl fm))]) (hS : va_S (fun q : Nat => s.heap.size ≤ q) s.heap H locs) {ls : Array Slot} (hl : lv_has ls 7 [(4, .int 0), (3, .ref q_o), (2, .ref m0), (1, .ref x0), (0, .ref b)]) : W p l e room_1 s m #[Value.ref b] below meth c H locs 60 20000 (lw_Z below #[Value.ref b] s) (F0 m 356 ls []) := by
  obtain ⟨hx, hb, hr, hml, hown, hts0, hX, hbl, hlocks, hgv⟩ := id C0
  have hts := hts0
  have hA : ∀ q : Nat, s.heap.size ≤ q → (fun q : Nat => s.heap.size ≤ q) q := fun _ h => h
  have hbA : ¬ (fun q : Nat => s.heap.size ≤ q) b := Nat.not_le.mpr hbl
  have hown : s.vm.findClass RL = some m.cls := hown
  have hb : c.code = cL_law := hb
  refine lv_aload_n hx hb dL_law_356 rfl (lv_at hl 3 rfl) ?_
  refine lv_aload_n hx hb dL_law_357 rfl (lv_at hl 4 rfl) ?_
  refine lv_iload hx hb dL_law_358 (lv_at hl 0 rfl) ?_
  refine lv_iconst (v := 1) hx hb dL_law_360 (by decide) ?_
  refine lv_iadd hx hb dL_law_361 ?_
  refine W.eq (g2 := F0 m 362 ls [.int 1, .ref b, .ref x0]) (by first | rfl | (congr 2; decide)) ?_
  refine va_sld hx hb hX hbl hbA hS (i := 1) (ki_inl (by decide)) dL_law_362 ?_
  refine lv_aload_n hx hb dL_law_363 rfl (lv_at hl 4 rfl) ?_
  refine lv_iload hx hb dL_law_364 (lv_at hl 0 rfl) ?_
  refine lv_iconst (v := 2) hx hb dL_law_366 (by decide) ?_
  refine lv_iadd hx hb dL_law_367 ?_
  refine W.eq (g2 := F0 m 368 ls [.int 2, .ref b, .int (xs (1 : Int32).toNatClampNeg), .ref x0]) (by first | rfl | (congr 2; decide)) ?_
  refine va_sld hx hb hX hbl hbA hS (i := 2) (ki_inl (by decide)) dL_law_368 ?_
  refine lv_aload_n hx hb dL_law_369 rfl (lv_at hl 4 rfl) ?_
  refine lv_iload hx hb dL_law_370 (lv_at hl 0 rfl) ?_
  refine lv_iconst (v := 3) hx hb dL_law_372 (by decide) ?_
  refine lv_iadd hx hb dL_law_373 ?_
  refine W.eq (g2 := F0 m 374 ls [.int 3, .ref b, .int (xs (2 : Int32).toNatClampNeg), .int (xs (1 : Int32).toNatClampNeg), .ref x0]) (by first | rfl | (congr 2; decide)) ?_
  refine va_sld hx hb hX hbl hbA hS (i := 3) (ki_inl (by decide)) dL_law_374 ?_
  have hPc := hP.sub (ws' := [(x0, .inr (4, [.ref x_row, .ref x_tree, .ref x_tally, .ref x_votes, .ref x_otherVotes, .ref x_wins, .ref x_fewest, .int 2, .int 1])), (x_row, .inr (0, [.ref x_cell, .int 0]))]) [0, 1] rfl
  have hKc := hK.sub (tys' := []) [] rfl
  refine vp_callSi (W.runV (As := [.int (xs (1 : Int32).toNatClampNeg), .int (xs (2 : Int32).toNatClampNeg), .int (xs (3 : Int32).toNatClampNeg)]) (rest := []) ⟨hx, hb, hml, hown, (lwC_X4_fill hts0)⟩ (c_X4_fill l dC dI x0 x_row x_tree x_tally x_votes x_otherVotes x_wins x_fewest x_cell (xs (1 : Int32).toNatClampNeg) (xs (2 : Int32).toNatClampNeg) (xs (3 : Int32).toNatClampNeg)) (cwV 3 (lwC_X4_fill hts0) lwG_X4_fill rfl rfl rfl (by decide +kernel) ⟨Nat.le_of_ble_eq_true rfl, Nat.le_of_ble_eq_true rfl⟩) ⟨fun a U g mk q => by obtain ⟨q0, qP, qK⟩ := q; exact ⟨q0, qP, va_K.moved (u := U) (U := U.calling g mk a) (Vm.Alike.refl U.vm) qK⟩, va_recv hKc hPc (ci := 4) (q0 := 0) rfl rfl, fun U hU hW => ⟨rfl, by rw [hU]; exact hPc, va_K.moved hW.alike hKc⟩⟩ rfl rfl hl.1 rfl (lv_room (Nat.le_of_ble_eq_true rfl)) dL_law_375 ⟨Nat.le_of_ble_eq_true rfl, Nat.le_of_ble_eq_true rfl⟩) (fun r_1 w_1 => ?_)
  subst w_1
  refine lv_aload_n hx hb dL_law_378 rfl (lv_at hl 2 rfl) ?_
  refine lv_aload_n hx hb dL_law_379 rfl (lv_at hl 4 rfl) ?_
  refine lv_iload hx hb dL_law_380 (lv_at hl 0 rfl) ?_
  refine lv_iconst (v := 1) hx hb dL_law_382 (by decide) ?_
  refine lv_iadd hx hb dL_law_383 ?_
  refine W.eq (g2 := F0 m 384 ls [.int 1, .ref b, .ref m0, .int (-1)]) (by first | rfl | (congr 2; decide)) ?_
  refine va_sld hx hb hX hbl hbA hS (i := 1) (ki_inl (by decide)) dL_law_384 ?_
  refine lv_aload_n hx hb dL_law_385 rfl (lv_at hl 4 rfl) ?_
  refine lv_iload hx hb dL_law_386 (lv_at hl 0 rfl) ?_
  refine lv_iconst (v := 2) hx hb dL_law_388 (by decide) ?_
  refine lv_iadd hx hb dL_law_389 ?_
  refine W.eq (g2 := F0 m 390 ls [.int 2, .ref b, .int (xs (1 : Int32).toNatClampNeg), .ref m0, .int (-1)]) (by first | rfl | (congr 2; decide)) ?_
  refine va_sld hx hb hX hbl hbA hS (i := 2) (ki_inl (by decide)) dL_law_390 ?_
  refine lv_aload_n hx hb dL_law_391 rfl (lv_at hl 4 rfl) ?_
  refine lv_iload hx hb dL_law_392 (lv_at hl 0 rfl) ?_
  refine lv_iconst (v := 3) hx hb dL_law_394 (by decide) ?_
  refine lv_iadd hx hb dL_law_395 ?_
  refine W.eq (g2 := F0 m 396 ls [.int 3, .ref b, .int (xs (2 : Int32).toNatClampNeg), .int (xs (1 : Int32).toNatClampNeg), .ref m0, .int (-1)]) (by first | rfl | (congr 2; decide)) ?_
  refine va_sld hx hb hX hbl hbA hS (i := 3) (ki_inl (by decide)) dL_law_396 ?_
  have hPc := hP.sub (ws' := [(m0, .inr (5, [.ref m_row, .int 0, .int 2, .int 0, .ref m_many, .ref m_loss, .ref m_less, .ref m_voteValue, .ref m_voteNumber, .ref m_allValue, .ref m_allNumber, .int 0, .ref m_nodeL, .ref m_nodeR, .int 0, .ref m_part, .int 0, .ref m_wasMany, .ref m_wasLoss, .ref m_wasValue, .ref m_wasNumber, .ref m_path, .int 0, .ref m_heavyValue, .ref m_heavyTimes, .int 0, .ref m_fewest, .ref m_which, .ref m_met, .int 0]))]) [7] rfl
  have hKc := hK.sub (tys' := []) [] rfl
  have hDc := hD.sub (ws' := [(m0, .inr (5, [.ref m_row, .int 0, .int 2, .int 0, .ref m_many, .ref m_loss, .ref m_less, .ref m_voteValue, .ref m_voteNumber, .ref m_allValue, .ref m_allNumber, .int 0, .ref m_nodeL, .ref m_nodeR, .int 0, .ref m_part, .int 0, .ref m_wasMany, .ref m_wasLoss, .ref m_wasValue, .ref m_wasNumber, .ref m_path, .int 0, .ref m_heavyValue, .ref m_heavyTimes, .int 0, .ref m_fewest, .ref m_which, .ref m_met, .int 0]))]) [7] (by decide) rfl
  have hFc := va_free (wc := [(m0, .inr (5, [.ref m_row, .int 0, .int 2, .int 0, .ref m_many, .ref m_loss, .ref m_less, .ref m_voteValue, .ref m_voteNumber, .ref m_allValue, .ref m_allNumber, .int 0, .ref m_nodeL, .ref m_nodeR, .int 0, .ref m_part, .int 0, .ref m_wasMany, .ref m_wasLoss, .ref m_wasValue, .ref m_wasNumber, .ref m_path, .int 0, .ref m_heavyValue, .ref m_heavyTimes, .int 0, .ref m_fewest, .ref m_which, .ref m_met, .int 0]))]) hD hS hA [7] rfl
  refine va_calli (va_runV (As := [.int (xs (1 : Int32).toNatClampNeg), .int (xs (2 : Int32).toNatClampNeg), .int (xs (3 : Int32).toNatClampNeg)]) (rest := [.int (-1)]) ⟨hx, hb, hml, hown, (lwC_X5_fill hts0)⟩ (c_X5_fill l dC dI m0 m_row m_many m_loss m_less m_voteValue m_voteNumber m_allValue m_allNumber m_nodeL m_nodeR m_part m_wasMany m_wasLoss m_wasValue m_wasNumber m_path m_heavyValue m_heavyTimes m_fewest m_which m_met (xs (1 : Int32).toNatClampNeg) (xs (2 : Int32).toNatClampNeg) (xs (3 : Int32).toNatClampNeg) H.size) (cwV 3 (lwC_X5_fill hts0) lwG_X5_fill rfl rfl rfl (by decide +kernel) ⟨Nat.le_of_ble_eq_true rfl, Nat.le_of_ble_eq_true rfl⟩) ⟨fun a U g mk q => by obtain ⟨q0, q1, qP, qK, qD⟩ := q; exact ⟨q0, q1, qP, va_K.moved (u := U) (U := U.calling g mk a) (Vm.Alike.refl U.vm) qK, qD⟩, va_recv hKc hPc (ci := 5) (q0 := 0) rfl rfl, fun U hU hW => ⟨rfl, by rw [hU], by rw [hU]; exact hPc, va_K.moved hW.alike hKc, hDc.weaken (fun _ _ _ _ => trivial)⟩⟩ rfl rfl hl.1 rfl (lv_room (Nat.le_of_ble_eq_true rfl)) dL_law_397 ⟨Nat.le_of_ble_eq_true rfl, Nat.le_of_ble_eq_true rfl⟩) hS (fun q _ h => hFc q h) hFc (fun r_2 u t H1 locs ht hvm w_2 hB hz1 hk1 hS => ?_)
  obtain ⟨hP1, hK1, hD1⟩ := hB
  rw [ht] at hP1
  have hK1 := va_K.moved hvm.symm hK1
  obtain ⟨hP, hD⟩ := va_join (wr := [(x0, .inr (4, [.ref x_row, .ref x_tree, .ref x_tally, .ref x_votes, .ref x_otherVotes, .ref x_wins, .ref x_fewest, .int 2, .int 1])), (x_row, .inr (0, [.ref x_cell, .int 0])), (x_cell, .inl (cyI, 160, .inl fc)), (x_tree, .inr (2, [.ref x_row, .ref x_joined, .ref x_from, .ref x_to, .ref x_size, .ref x_lossOf, .ref x_lessBy, .ref x_tvalue, .ref x_tnumber, .int 0, .int 0])), (x_from, .inl (cyI, 319, .inl ff)), (x_to, .inl (cyI, 319, .inl ft)), (x_tally, .inr (1, [.ref x_kind, .ref x_often, .int 0, .int 0])), (m_row, .inl (cyI, 160, .inl fm))]) (w1 := []) hP hD [7] [0, 1, 2, 3, 4, 5, 6, 8] rfl rfl (by decide) (by decide) hk1 hFc hP1 hD1
  clear hP1 hD1 hK1 hk1 hz1 hFc hDc hPc hKc
  generalize H1 = H at hP hS ⊢
  have hP : va_P (dC, dI) vwCl [(x0, .inr (4, [.ref x_row, .ref x_tree, .ref x_tally, .ref x_votes, .ref x_otherVotes, .ref x_wins, .ref x_fewest, .int 2, .int 1])), (x_row, .inr (0, [.ref x_cell, .int 0])), (x_cell, .inl (cyI, 160, .inl fc)), (x_tree, .inr (2, [.ref x_row, .ref x_joined, .ref x_from, .ref x_to, .ref x_size, .ref x_lossOf, .ref x_lessBy, .ref x_tvalue, .ref x_tnumber, .int 0, .int 0])), (x_from, .inl (cyI, 319, .inl ff)), (x_to, .inl (cyI, 319, .inl ft)), (x_tally, .inr (1, [.ref x_kind, .ref x_often, .int 0, .int 0])), (m_row, .inl (cyI, 160, .inl fm))] H := hP
  have hD : va_D (fun q : Nat => s.heap.size ≤ q) [(x0, .inr (4, [.ref x_row, .ref x_tree, .ref x_tally, .ref x_votes, .ref x_otherVotes, .ref x_wins, .ref x_fewest, .int 2, .int 1])), (x_row, .inr (0, [.ref x_cell, .int 0])), (x_cell, .inl (cyI, 160, .inl fc)), (x_tree, .inr (2, [.ref x_row, .ref x_joined, .ref x_from, .ref x_to, .ref x_size, .ref x_lossOf, .ref x_lessBy, .ref x_tvalue, .ref x_tnumber, .int 0, .int 0])), (x_from, .inl (cyI, 319, .inl ff)), (x_to, .inl (cyI, 319, .inl ft)), (x_tally, .inr (1, [.ref x_kind, .ref x_often, .int 0, .int 0])), (m_row, .inl (cyI, 160, .inl fm))] := hD
  subst w_2
  refine lv_icmp_eq (tgt := 2400) hx hb dL_law_400 (by decide) (fun c_3 => ?_) (fun c_3 => ?_)
  · refine W.widen (k := 100) (n := 30000) (Nat.le_of_ble_eq_true rfl) (Nat.le_of_ble_eq_true rfl) ?_
    exact lc_end C0 hS (lv_sub hl [0, 4] rfl)
  · exact absurd c_3 (by decide)

set_option maxHeartbeats 4000000 in
set_option maxRecDepth 100000 in
theorem lc_5 {p : Program} {l : Launch} {e : Env} {s : State} {m : MethodId} {below : List Frame} {meth : Method} {c : Code} {dC : Nat → ClassId} {dI : Nat → Nat → Nat} {b : Nat} {xs : Nat → Int32} (hl0 : l.stackTraces = false) (C0 : lw_At p s m meth c b 8 xs) (hth : ki_Th s) {x0 x_row x_tree x_tally x_votes x_otherVotes x_wins x_fewest x_cell x_joined x_from x_to x_size x_lossOf x_lessBy x_tvalue x_tnumber x_kind x_often m0 m_row m_many m_loss m_less m_voteValue m_voteNumber m_allValue m_allNumber m_nodeL m_nodeR m_part m_wasMany m_wasLoss m_wasValue m_wasNumber m_path m_heavyValue m_heavyTimes m_fewest m_which m_met q_o : Nat} {cyI : ClassId} {fc ff ft fm : Nat → Int32} {H : Heap} {locs : List Loc} (hK : va_K (dC, dI) vwCl [(cyI, .int)] s) (hP : va_P (dC, dI) vwCl [(x0, .inr (4, [.ref x_row, .ref x_tree, .ref x_tally, .ref x_votes, .ref x_otherVotes, .ref x_wins, .ref x_fewest, .int 2, .int 1])), (x_row, .inr (0, [.ref x_cell, .int 0])), (x_cell, .inl (cyI, 160, .inl fc)), (x_tree, .inr (2, [.ref x_row, .ref x_joined, .ref x_from, .ref x_to, .ref x_size, .ref x_lossOf, .ref x_lessBy, .ref x_tvalue, .ref x_tnumber, .int 0, .int 0])), (x_from, .inl (cyI, 319, .inl ff)), (x_to, .inl (cyI, 319, .inl ft)), (x_tally, .inr (1, [.ref x_kind, .ref x_often, .int 0, .int 0])), (m0, .inr (5, [.ref m_row, .int 0, .int 2, .int 0, .ref m_many, .ref m_loss, .ref m_less, .ref m_voteValue, .ref m_voteNumber, .ref m_allValue, .ref m_allNumber, .int 0, .ref m_nodeL, .ref m_nodeR, .int 0, .ref m_part, .int 0, .ref m_wasMany, .ref m_wasLoss, .ref m_wasValue, .ref m_wasNumber, .ref m_path, .int 0, .ref m_heavyValue, .ref m_heavyTimes, .int 0, .ref m_fewest, .ref m_which, .ref m_met, .int 0])), (m_row, .inl (cyI, 160, .inl fm))] H) (hD : va_D (fun q : Nat => s.heap.size ≤ q) [(x0, .inr (4, [.ref x_row, .ref x_tree, .ref x_tally, .ref x_votes, .ref x_otherVotes, .ref x_wins, .ref x_fewest, .int 2, .int 1])), (x_row, .inr (0, [.ref x_cell, .int 0])), (x_cell, .inl (cyI, 160, .inl fc)), (x_tree, .inr (2, [.ref x_row, .ref x_joined, .ref x_from, .ref x_to, .ref x_size, .ref x_lossOf, .ref x_lessBy, .ref x_tvalue, .ref x_tnumber, .int 0, .int 0])), (x_from, .inl (cyI, 319, .inl ff)), (x_to, .inl (cyI, 319, .inl ft)), (x_tally, .inr (1, [.ref x_kind, .ref x_often, .int 0, .int 0])), (m0, .inr (5, [.ref m_row, .int 0, .int 2, .int 0, .ref m_many, .ref m_loss, .ref m_less, .ref m_voteValue, .ref m_voteNumber, .ref m_allValue, .ref m_allNumber, .int 0, .ref m_nodeL, .ref m_nodeR, .int 0, .ref m_part, .int 0, .ref m_wasMany, .ref m_wasLoss, .ref m_wasValue, .ref m_wasNumber, .ref m_path, .int 0, .ref m_heavyValue, .ref m_heavyTimes, .int 0, .ref m_fewest, .ref m_which, .ref m_met, .int 0])), (m_row, .inl (cyI, 160, .inl fm))]) (hS : va_S (fun q : Nat => s.heap.size ≤ q) s.heap H locs) {ls : Array Slot} (hl : lv_has ls 7 [(4, .int 0), (3, .ref q_o), (2, .ref m0), (1, .ref x0), (0, .ref b)]) : W p l e room_1 s m #[Value.ref b] below meth c H locs 60 20000 (lw_Z below #[Value.ref b] s) (F0 m 405 ls []) := by
  obtain ⟨hx, hb, hr, hml, hown, hts0, hX, hbl, hlocks, hgv⟩ := id C0
  have hts := hts0
  have hA : ∀ q : Nat, s.heap.size ≤ q → (fun q : Nat => s.heap.size ≤ q) q := fun _ h => h
  have hbA : ¬ (fun q : Nat => s.heap.size ≤ q) b := Nat.not_le.mpr hbl
  have hown : s.vm.findClass RL = some m.cls := hown
  have hb : c.code = cL_law := hb
  refine lv_aload_n hx hb dL_law_405 rfl (lv_at hl 3 rfl) ?_
  refine lv_aload_n hx hb dL_law_406 rfl (lv_at hl 4 rfl) ?_
  refine lv_iload hx hb dL_law_407 (lv_at hl 0 rfl) ?_
  refine lv_iconst (v := 1) hx hb dL_law_409 (by decide) ?_
  refine lv_iadd hx hb dL_law_410 ?_
  refine W.eq (g2 := F0 m 411 ls [.int 1, .ref b, .ref x0]) (by first | rfl | (congr 2; decide)) ?_
  refine va_sld hx hb hX hbl hbA hS (i := 1) (ki_inl (by decide)) dL_law_411 ?_
  refine lv_aload_n hx hb dL_law_412 rfl (lv_at hl 4 rfl) ?_
  refine lv_iload hx hb dL_law_413 (lv_at hl 0 rfl) ?_
  refine lv_iconst (v := 2) hx hb dL_law_415 (by decide) ?_
  refine lv_iadd hx hb dL_law_416 ?_
  refine W.eq (g2 := F0 m 417 ls [.int 2, .ref b, .int (xs (1 : Int32).toNatClampNeg), .ref x0]) (by first | rfl | (congr 2; decide)) ?_
  refine va_sld hx hb hX hbl hbA hS (i := 2) (ki_inl (by decide)) dL_law_417 ?_
  have hPc := hP.sub (ws' := [(x0, .inr (4, [.ref x_row, .ref x_tree, .ref x_tally, .ref x_votes, .ref x_otherVotes, .ref x_wins, .ref x_fewest, .int 2, .int 1])), (x_row, .inr (0, [.ref x_cell, .int 0]))]) [0, 1] rfl
  have hKc := hK.sub (tys' := []) [] rfl
  refine vp_callSi (W.runV (As := [.int (xs (1 : Int32).toNatClampNeg), .int (xs (2 : Int32).toNatClampNeg)]) (rest := []) ⟨hx, hb, hml, hown, (lwC_X4_turn hts0)⟩ (c_X4_turn l dC dI x0 x_row x_tree x_tally x_votes x_otherVotes x_wins x_fewest x_cell (xs (1 : Int32).toNatClampNeg) (xs (2 : Int32).toNatClampNeg)) (cwV 2 (lwC_X4_turn hts0) lwG_X4_turn rfl rfl rfl (by decide +kernel) ⟨Nat.le_of_ble_eq_true rfl, Nat.le_of_ble_eq_true rfl⟩) ⟨fun a U g mk q => by obtain ⟨q0, qP, qK⟩ := q; exact ⟨q0, qP, va_K.moved (u := U) (U := U.calling g mk a) (Vm.Alike.refl U.vm) qK⟩, va_recv hKc hPc (ci := 4) (q0 := 0) rfl rfl, fun U hU hW => ⟨rfl, by rw [hU]; exact hPc, va_K.moved hW.alike hKc⟩⟩ rfl rfl hl.1 rfl (lv_room (Nat.le_of_ble_eq_true rfl)) dL_law_418 ⟨Nat.le_of_ble_eq_true rfl, Nat.le_of_ble_eq_true rfl⟩) (fun r_1 w_1 => ?_)
  subst w_1
  refine lv_aload_n hx hb dL_law_421 rfl (lv_at hl 2 rfl) ?_
  refine lv_aload_n hx hb dL_law_422 rfl (lv_at hl 4 rfl) ?_
  refine lv_iload hx hb dL_law_423 (lv_at hl 0 rfl) ?_
  refine lv_iconst (v := 1) hx hb dL_law_425 (by decide) ?_
  refine lv_iadd hx hb dL_law_426 ?_
  refine W.eq (g2 := F0 m 427 ls [.int 1, .ref b, .ref m0, .int (-1)]) (by first | rfl | (congr 2; decide)) ?_
  refine va_sld hx hb hX hbl hbA hS (i := 1) (ki_inl (by decide)) dL_law_427 ?_
  refine lv_aload_n hx hb dL_law_428 rfl (lv_at hl 4 rfl) ?_
  refine lv_iload hx hb dL_law_429 (lv_at hl 0 rfl) ?_
  refine lv_iconst (v := 2) hx hb dL_law_431 (by decide) ?_
  refine lv_iadd hx hb dL_law_432 ?_
  refine W.eq (g2 := F0 m 433 ls [.int 2, .ref b, .int (xs (1 : Int32).toNatClampNeg), .ref m0, .int (-1)]) (by first | rfl | (congr 2; decide)) ?_
  refine va_sld hx hb hX hbl hbA hS (i := 2) (ki_inl (by decide)) dL_law_433 ?_
  have hPc := hP.sub (ws' := [(m0, .inr (5, [.ref m_row, .int 0, .int 2, .int 0, .ref m_many, .ref m_loss, .ref m_less, .ref m_voteValue, .ref m_voteNumber, .ref m_allValue, .ref m_allNumber, .int 0, .ref m_nodeL, .ref m_nodeR, .int 0, .ref m_part, .int 0, .ref m_wasMany, .ref m_wasLoss, .ref m_wasValue, .ref m_wasNumber, .ref m_path, .int 0, .ref m_heavyValue, .ref m_heavyTimes, .int 0, .ref m_fewest, .ref m_which, .ref m_met, .int 0]))]) [7] rfl
  have hKc := hK.sub (tys' := []) [] rfl
  have hDc := hD.sub (ws' := [(m0, .inr (5, [.ref m_row, .int 0, .int 2, .int 0, .ref m_many, .ref m_loss, .ref m_less, .ref m_voteValue, .ref m_voteNumber, .ref m_allValue, .ref m_allNumber, .int 0, .ref m_nodeL, .ref m_nodeR, .int 0, .ref m_part, .int 0, .ref m_wasMany, .ref m_wasLoss, .ref m_wasValue, .ref m_wasNumber, .ref m_path, .int 0, .ref m_heavyValue, .ref m_heavyTimes, .int 0, .ref m_fewest, .ref m_which, .ref m_met, .int 0]))]) [7] (by decide) rfl
  have hFc := va_free (wc := [(m0, .inr (5, [.ref m_row, .int 0, .int 2, .int 0, .ref m_many, .ref m_loss, .ref m_less, .ref m_voteValue, .ref m_voteNumber, .ref m_allValue, .ref m_allNumber, .int 0, .ref m_nodeL, .ref m_nodeR, .int 0, .ref m_part, .int 0, .ref m_wasMany, .ref m_wasLoss, .ref m_wasValue, .ref m_wasNumber, .ref m_path, .int 0, .ref m_heavyValue, .ref m_heavyTimes, .int 0, .ref m_fewest, .ref m_which, .ref m_met, .int 0]))]) hD hS hA [7] rfl
  refine va_calli (va_runV (As := [.int (xs (1 : Int32).toNatClampNeg), .int (xs (2 : Int32).toNatClampNeg)]) (rest := [.int (-1)]) ⟨hx, hb, hml, hown, (lwC_X5_turn hts0)⟩ (c_X5_turn l dC dI m0 m_row m_many m_loss m_less m_voteValue m_voteNumber m_allValue m_allNumber m_nodeL m_nodeR m_part m_wasMany m_wasLoss m_wasValue m_wasNumber m_path m_heavyValue m_heavyTimes m_fewest m_which m_met (xs (1 : Int32).toNatClampNeg) (xs (2 : Int32).toNatClampNeg) H.size) (cwV 2 (lwC_X5_turn hts0) lwG_X5_turn rfl rfl rfl (by decide +kernel) ⟨Nat.le_of_ble_eq_true rfl, Nat.le_of_ble_eq_true rfl⟩) ⟨fun a U g mk q => by obtain ⟨q0, q1, qP, qK, qD⟩ := q; exact ⟨q0, q1, qP, va_K.moved (u := U) (U := U.calling g mk a) (Vm.Alike.refl U.vm) qK, qD⟩, va_recv hKc hPc (ci := 5) (q0 := 0) rfl rfl, fun U hU hW => ⟨rfl, by rw [hU], by rw [hU]; exact hPc, va_K.moved hW.alike hKc, hDc.weaken (fun _ _ _ _ => trivial)⟩⟩ rfl rfl hl.1 rfl (lv_room (Nat.le_of_ble_eq_true rfl)) dL_law_434 ⟨Nat.le_of_ble_eq_true rfl, Nat.le_of_ble_eq_true rfl⟩) hS (fun q _ h => hFc q h) hFc (fun r_2 u t H1 locs ht hvm w_2 hB hz1 hk1 hS => ?_)
  obtain ⟨hP1, hK1, hD1⟩ := hB
  rw [ht] at hP1
  have hK1 := va_K.moved hvm.symm hK1
  obtain ⟨hP, hD⟩ := va_join (wr := [(x0, .inr (4, [.ref x_row, .ref x_tree, .ref x_tally, .ref x_votes, .ref x_otherVotes, .ref x_wins, .ref x_fewest, .int 2, .int 1])), (x_row, .inr (0, [.ref x_cell, .int 0])), (x_cell, .inl (cyI, 160, .inl fc)), (x_tree, .inr (2, [.ref x_row, .ref x_joined, .ref x_from, .ref x_to, .ref x_size, .ref x_lossOf, .ref x_lessBy, .ref x_tvalue, .ref x_tnumber, .int 0, .int 0])), (x_from, .inl (cyI, 319, .inl ff)), (x_to, .inl (cyI, 319, .inl ft)), (x_tally, .inr (1, [.ref x_kind, .ref x_often, .int 0, .int 0])), (m_row, .inl (cyI, 160, .inl fm))]) (w1 := []) hP hD [7] [0, 1, 2, 3, 4, 5, 6, 8] rfl rfl (by decide) (by decide) hk1 hFc hP1 hD1
  clear hP1 hD1 hK1 hk1 hz1 hFc hDc hPc hKc
  generalize H1 = H at hP hS ⊢
  have hP : va_P (dC, dI) vwCl [(x0, .inr (4, [.ref x_row, .ref x_tree, .ref x_tally, .ref x_votes, .ref x_otherVotes, .ref x_wins, .ref x_fewest, .int 2, .int 1])), (x_row, .inr (0, [.ref x_cell, .int 0])), (x_cell, .inl (cyI, 160, .inl fc)), (x_tree, .inr (2, [.ref x_row, .ref x_joined, .ref x_from, .ref x_to, .ref x_size, .ref x_lossOf, .ref x_lessBy, .ref x_tvalue, .ref x_tnumber, .int 0, .int 0])), (x_from, .inl (cyI, 319, .inl ff)), (x_to, .inl (cyI, 319, .inl ft)), (x_tally, .inr (1, [.ref x_kind, .ref x_often, .int 0, .int 0])), (m_row, .inl (cyI, 160, .inl fm))] H := hP
  have hD : va_D (fun q : Nat => s.heap.size ≤ q) [(x0, .inr (4, [.ref x_row, .ref x_tree, .ref x_tally, .ref x_votes, .ref x_otherVotes, .ref x_wins, .ref x_fewest, .int 2, .int 1])), (x_row, .inr (0, [.ref x_cell, .int 0])), (x_cell, .inl (cyI, 160, .inl fc)), (x_tree, .inr (2, [.ref x_row, .ref x_joined, .ref x_from, .ref x_to, .ref x_size, .ref x_lossOf, .ref x_lessBy, .ref x_tvalue, .ref x_tnumber, .int 0, .int 0])), (x_from, .inl (cyI, 319, .inl ff)), (x_to, .inl (cyI, 319, .inl ft)), (x_tally, .inr (1, [.ref x_kind, .ref x_often, .int 0, .int 0])), (m_row, .inl (cyI, 160, .inl fm))] := hD
  subst w_2
  refine lv_icmp_eq (tgt := 2400) hx hb dL_law_437 (by decide) (fun c_3 => ?_) (fun c_3 => ?_)
  · refine W.widen (k := 100) (n := 30000) (Nat.le_of_ble_eq_true rfl) (Nat.le_of_ble_eq_true rfl) ?_
    exact lc_end C0 hS (lv_sub hl [0, 4] rfl)
  · exact absurd c_3 (by decide)

set_option maxHeartbeats 4000000 in
set_option maxRecDepth 100000 in
theorem lc_6 {p : Program} {l : Launch} {e : Env} {s : State} {m : MethodId} {below : List Frame} {meth : Method} {c : Code} {dC : Nat → ClassId} {dI : Nat → Nat → Nat} {b : Nat} {xs : Nat → Int32} (hl0 : l.stackTraces = false) (C0 : lw_At p s m meth c b 8 xs) (hth : ki_Th s) {x0 x_row x_tree x_tally x_votes x_otherVotes x_wins x_fewest x_cell x_joined x_from x_to x_size x_lossOf x_lessBy x_tvalue x_tnumber x_kind x_often m0 m_row m_many m_loss m_less m_voteValue m_voteNumber m_allValue m_allNumber m_nodeL m_nodeR m_part m_wasMany m_wasLoss m_wasValue m_wasNumber m_path m_heavyValue m_heavyTimes m_fewest m_which m_met q_o : Nat} {cyI : ClassId} {fc ff ft fm : Nat → Int32} {H : Heap} {locs : List Loc} (hK : va_K (dC, dI) vwCl [(cyI, .int)] s) (hP : va_P (dC, dI) vwCl [(x0, .inr (4, [.ref x_row, .ref x_tree, .ref x_tally, .ref x_votes, .ref x_otherVotes, .ref x_wins, .ref x_fewest, .int 2, .int 1])), (x_row, .inr (0, [.ref x_cell, .int 0])), (x_cell, .inl (cyI, 160, .inl fc)), (x_tree, .inr (2, [.ref x_row, .ref x_joined, .ref x_from, .ref x_to, .ref x_size, .ref x_lossOf, .ref x_lessBy, .ref x_tvalue, .ref x_tnumber, .int 0, .int 0])), (x_from, .inl (cyI, 319, .inl ff)), (x_to, .inl (cyI, 319, .inl ft)), (x_tally, .inr (1, [.ref x_kind, .ref x_often, .int 0, .int 0])), (m0, .inr (5, [.ref m_row, .int 0, .int 2, .int 0, .ref m_many, .ref m_loss, .ref m_less, .ref m_voteValue, .ref m_voteNumber, .ref m_allValue, .ref m_allNumber, .int 0, .ref m_nodeL, .ref m_nodeR, .int 0, .ref m_part, .int 0, .ref m_wasMany, .ref m_wasLoss, .ref m_wasValue, .ref m_wasNumber, .ref m_path, .int 0, .ref m_heavyValue, .ref m_heavyTimes, .int 0, .ref m_fewest, .ref m_which, .ref m_met, .int 0])), (m_row, .inl (cyI, 160, .inl fm))] H) (hD : va_D (fun q : Nat => s.heap.size ≤ q) [(x0, .inr (4, [.ref x_row, .ref x_tree, .ref x_tally, .ref x_votes, .ref x_otherVotes, .ref x_wins, .ref x_fewest, .int 2, .int 1])), (x_row, .inr (0, [.ref x_cell, .int 0])), (x_cell, .inl (cyI, 160, .inl fc)), (x_tree, .inr (2, [.ref x_row, .ref x_joined, .ref x_from, .ref x_to, .ref x_size, .ref x_lossOf, .ref x_lessBy, .ref x_tvalue, .ref x_tnumber, .int 0, .int 0])), (x_from, .inl (cyI, 319, .inl ff)), (x_to, .inl (cyI, 319, .inl ft)), (x_tally, .inr (1, [.ref x_kind, .ref x_often, .int 0, .int 0])), (m0, .inr (5, [.ref m_row, .int 0, .int 2, .int 0, .ref m_many, .ref m_loss, .ref m_less, .ref m_voteValue, .ref m_voteNumber, .ref m_allValue, .ref m_allNumber, .int 0, .ref m_nodeL, .ref m_nodeR, .int 0, .ref m_part, .int 0, .ref m_wasMany, .ref m_wasLoss, .ref m_wasValue, .ref m_wasNumber, .ref m_path, .int 0, .ref m_heavyValue, .ref m_heavyTimes, .int 0, .ref m_fewest, .ref m_which, .ref m_met, .int 0])), (m_row, .inl (cyI, 160, .inl fm))]) (hS : va_S (fun q : Nat => s.heap.size ≤ q) s.heap H locs) {ls : Array Slot} (hl : lv_has ls 7 [(4, .int 0), (3, .ref q_o), (2, .ref m0), (1, .ref x0), (0, .ref b)]) : W p l e room_1 s m #[Value.ref b] below meth c H locs 60 20000 (lw_Z below #[Value.ref b] s) (F0 m 442 ls []) := by
  obtain ⟨hx, hb, hr, hml, hown, hts0, hX, hbl, hlocks, hgv⟩ := id C0
  have hts := hts0
  have hA : ∀ q : Nat, s.heap.size ≤ q → (fun q : Nat => s.heap.size ≤ q) q := fun _ h => h
  have hbA : ¬ (fun q : Nat => s.heap.size ≤ q) b := Nat.not_le.mpr hbl
  have hown : s.vm.findClass RL = some m.cls := hown
  have hb : c.code = cL_law := hb
  refine lv_aload_n hx hb dL_law_442 rfl (lv_at hl 3 rfl) ?_
  refine lv_aload_n hx hb dL_law_443 rfl (lv_at hl 4 rfl) ?_
  refine lv_iload hx hb dL_law_444 (lv_at hl 0 rfl) ?_
  refine lv_iconst (v := 1) hx hb dL_law_446 (by decide) ?_
  refine lv_iadd hx hb dL_law_447 ?_
  refine W.eq (g2 := F0 m 448 ls [.int 1, .ref b, .ref x0]) (by first | rfl | (congr 2; decide)) ?_
  refine va_sld hx hb hX hbl hbA hS (i := 1) (ki_inl (by decide)) dL_law_448 ?_
  refine lv_aload_n hx hb dL_law_449 rfl (lv_at hl 4 rfl) ?_
  refine lv_iload hx hb dL_law_450 (lv_at hl 0 rfl) ?_
  refine lv_iconst (v := 2) hx hb dL_law_452 (by decide) ?_
  refine lv_iadd hx hb dL_law_453 ?_
  refine W.eq (g2 := F0 m 454 ls [.int 2, .ref b, .int (xs (1 : Int32).toNatClampNeg), .ref x0]) (by first | rfl | (congr 2; decide)) ?_
  refine va_sld hx hb hX hbl hbA hS (i := 2) (ki_inl (by decide)) dL_law_454 ?_
  have hPc := hP.sub (ws' := [(x0, .inr (4, [.ref x_row, .ref x_tree, .ref x_tally, .ref x_votes, .ref x_otherVotes, .ref x_wins, .ref x_fewest, .int 2, .int 1])), (x_row, .inr (0, [.ref x_cell, .int 0]))]) [0, 1] rfl
  have hKc := hK.sub (tys' := []) [] rfl
  refine vp_callSi (W.runV (As := [.int (xs (1 : Int32).toNatClampNeg), .int (xs (2 : Int32).toNatClampNeg)]) (rest := []) ⟨hx, hb, hml, hown, (lwC_X4_swap hts0)⟩ (c_X4_swap l dC dI x0 x_row x_tree x_tally x_votes x_otherVotes x_wins x_fewest x_cell (xs (1 : Int32).toNatClampNeg) (xs (2 : Int32).toNatClampNeg)) (cwV 2 (lwC_X4_swap hts0) lwG_X4_swap rfl rfl rfl (by decide +kernel) ⟨Nat.le_of_ble_eq_true rfl, Nat.le_of_ble_eq_true rfl⟩) ⟨fun a U g mk q => by obtain ⟨q0, qP, qK⟩ := q; exact ⟨q0, qP, va_K.moved (u := U) (U := U.calling g mk a) (Vm.Alike.refl U.vm) qK⟩, va_recv hKc hPc (ci := 4) (q0 := 0) rfl rfl, fun U hU hW => ⟨rfl, by rw [hU]; exact hPc, va_K.moved hW.alike hKc⟩⟩ rfl rfl hl.1 rfl (lv_room (Nat.le_of_ble_eq_true rfl)) dL_law_455 ⟨Nat.le_of_ble_eq_true rfl, Nat.le_of_ble_eq_true rfl⟩) (fun r_1 w_1 => ?_)
  subst w_1
  refine lv_aload_n hx hb dL_law_458 rfl (lv_at hl 2 rfl) ?_
  refine lv_aload_n hx hb dL_law_459 rfl (lv_at hl 4 rfl) ?_
  refine lv_iload hx hb dL_law_460 (lv_at hl 0 rfl) ?_
  refine lv_iconst (v := 1) hx hb dL_law_462 (by decide) ?_
  refine lv_iadd hx hb dL_law_463 ?_
  refine W.eq (g2 := F0 m 464 ls [.int 1, .ref b, .ref m0, .int (-1)]) (by first | rfl | (congr 2; decide)) ?_
  refine va_sld hx hb hX hbl hbA hS (i := 1) (ki_inl (by decide)) dL_law_464 ?_
  refine lv_aload_n hx hb dL_law_465 rfl (lv_at hl 4 rfl) ?_
  refine lv_iload hx hb dL_law_466 (lv_at hl 0 rfl) ?_
  refine lv_iconst (v := 2) hx hb dL_law_468 (by decide) ?_
  refine lv_iadd hx hb dL_law_469 ?_
  refine W.eq (g2 := F0 m 470 ls [.int 2, .ref b, .int (xs (1 : Int32).toNatClampNeg), .ref m0, .int (-1)]) (by first | rfl | (congr 2; decide)) ?_
  refine va_sld hx hb hX hbl hbA hS (i := 2) (ki_inl (by decide)) dL_law_470 ?_
  have hPc := hP.sub (ws' := [(m0, .inr (5, [.ref m_row, .int 0, .int 2, .int 0, .ref m_many, .ref m_loss, .ref m_less, .ref m_voteValue, .ref m_voteNumber, .ref m_allValue, .ref m_allNumber, .int 0, .ref m_nodeL, .ref m_nodeR, .int 0, .ref m_part, .int 0, .ref m_wasMany, .ref m_wasLoss, .ref m_wasValue, .ref m_wasNumber, .ref m_path, .int 0, .ref m_heavyValue, .ref m_heavyTimes, .int 0, .ref m_fewest, .ref m_which, .ref m_met, .int 0]))]) [7] rfl
  have hKc := hK.sub (tys' := []) [] rfl
  have hDc := hD.sub (ws' := [(m0, .inr (5, [.ref m_row, .int 0, .int 2, .int 0, .ref m_many, .ref m_loss, .ref m_less, .ref m_voteValue, .ref m_voteNumber, .ref m_allValue, .ref m_allNumber, .int 0, .ref m_nodeL, .ref m_nodeR, .int 0, .ref m_part, .int 0, .ref m_wasMany, .ref m_wasLoss, .ref m_wasValue, .ref m_wasNumber, .ref m_path, .int 0, .ref m_heavyValue, .ref m_heavyTimes, .int 0, .ref m_fewest, .ref m_which, .ref m_met, .int 0]))]) [7] (by decide) rfl
  have hFc := va_free (wc := [(m0, .inr (5, [.ref m_row, .int 0, .int 2, .int 0, .ref m_many, .ref m_loss, .ref m_less, .ref m_voteValue, .ref m_voteNumber, .ref m_allValue, .ref m_allNumber, .int 0, .ref m_nodeL, .ref m_nodeR, .int 0, .ref m_part, .int 0, .ref m_wasMany, .ref m_wasLoss, .ref m_wasValue, .ref m_wasNumber, .ref m_path, .int 0, .ref m_heavyValue, .ref m_heavyTimes, .int 0, .ref m_fewest, .ref m_which, .ref m_met, .int 0]))]) hD hS hA [7] rfl
  refine va_calli (va_runV (As := [.int (xs (1 : Int32).toNatClampNeg), .int (xs (2 : Int32).toNatClampNeg)]) (rest := [.int (-1)]) ⟨hx, hb, hml, hown, (lwC_X5_swap hts0)⟩ (c_X5_swap l dC dI m0 m_row m_many m_loss m_less m_voteValue m_voteNumber m_allValue m_allNumber m_nodeL m_nodeR m_part m_wasMany m_wasLoss m_wasValue m_wasNumber m_path m_heavyValue m_heavyTimes m_fewest m_which m_met (xs (1 : Int32).toNatClampNeg) (xs (2 : Int32).toNatClampNeg) H.size) (cwV 2 (lwC_X5_swap hts0) lwG_X5_swap rfl rfl rfl (by decide +kernel) ⟨Nat.le_of_ble_eq_true rfl, Nat.le_of_ble_eq_true rfl⟩) ⟨fun a U g mk q => by obtain ⟨q0, q1, qP, qK, qD⟩ := q; exact ⟨q0, q1, qP, va_K.moved (u := U) (U := U.calling g mk a) (Vm.Alike.refl U.vm) qK, qD⟩, va_recv hKc hPc (ci := 5) (q0 := 0) rfl rfl, fun U hU hW => ⟨rfl, by rw [hU], by rw [hU]; exact hPc, va_K.moved hW.alike hKc, hDc.weaken (fun _ _ _ _ => trivial)⟩⟩ rfl rfl hl.1 rfl (lv_room (Nat.le_of_ble_eq_true rfl)) dL_law_471 ⟨Nat.le_of_ble_eq_true rfl, Nat.le_of_ble_eq_true rfl⟩) hS (fun q _ h => hFc q h) hFc (fun r_2 u t H1 locs ht hvm w_2 hB hz1 hk1 hS => ?_)
  obtain ⟨hP1, hK1, hD1⟩ := hB
  rw [ht] at hP1
  have hK1 := va_K.moved hvm.symm hK1
  obtain ⟨hP, hD⟩ := va_join (wr := [(x0, .inr (4, [.ref x_row, .ref x_tree, .ref x_tally, .ref x_votes, .ref x_otherVotes, .ref x_wins, .ref x_fewest, .int 2, .int 1])), (x_row, .inr (0, [.ref x_cell, .int 0])), (x_cell, .inl (cyI, 160, .inl fc)), (x_tree, .inr (2, [.ref x_row, .ref x_joined, .ref x_from, .ref x_to, .ref x_size, .ref x_lossOf, .ref x_lessBy, .ref x_tvalue, .ref x_tnumber, .int 0, .int 0])), (x_from, .inl (cyI, 319, .inl ff)), (x_to, .inl (cyI, 319, .inl ft)), (x_tally, .inr (1, [.ref x_kind, .ref x_often, .int 0, .int 0])), (m_row, .inl (cyI, 160, .inl fm))]) (w1 := []) hP hD [7] [0, 1, 2, 3, 4, 5, 6, 8] rfl rfl (by decide) (by decide) hk1 hFc hP1 hD1
  clear hP1 hD1 hK1 hk1 hz1 hFc hDc hPc hKc
  generalize H1 = H at hP hS ⊢
  have hP : va_P (dC, dI) vwCl [(x0, .inr (4, [.ref x_row, .ref x_tree, .ref x_tally, .ref x_votes, .ref x_otherVotes, .ref x_wins, .ref x_fewest, .int 2, .int 1])), (x_row, .inr (0, [.ref x_cell, .int 0])), (x_cell, .inl (cyI, 160, .inl fc)), (x_tree, .inr (2, [.ref x_row, .ref x_joined, .ref x_from, .ref x_to, .ref x_size, .ref x_lossOf, .ref x_lessBy, .ref x_tvalue, .ref x_tnumber, .int 0, .int 0])), (x_from, .inl (cyI, 319, .inl ff)), (x_to, .inl (cyI, 319, .inl ft)), (x_tally, .inr (1, [.ref x_kind, .ref x_often, .int 0, .int 0])), (m_row, .inl (cyI, 160, .inl fm))] H := hP
  have hD : va_D (fun q : Nat => s.heap.size ≤ q) [(x0, .inr (4, [.ref x_row, .ref x_tree, .ref x_tally, .ref x_votes, .ref x_otherVotes, .ref x_wins, .ref x_fewest, .int 2, .int 1])), (x_row, .inr (0, [.ref x_cell, .int 0])), (x_cell, .inl (cyI, 160, .inl fc)), (x_tree, .inr (2, [.ref x_row, .ref x_joined, .ref x_from, .ref x_to, .ref x_size, .ref x_lossOf, .ref x_lessBy, .ref x_tvalue, .ref x_tnumber, .int 0, .int 0])), (x_from, .inl (cyI, 319, .inl ff)), (x_to, .inl (cyI, 319, .inl ft)), (x_tally, .inr (1, [.ref x_kind, .ref x_often, .int 0, .int 0])), (m_row, .inl (cyI, 160, .inl fm))] := hD
  subst w_2
  refine lv_icmp_eq (tgt := 2400) hx hb dL_law_474 (by decide) (fun c_3 => ?_) (fun c_3 => ?_)
  · refine W.widen (k := 100) (n := 30000) (Nat.le_of_ble_eq_true rfl) (Nat.le_of_ble_eq_true rfl) ?_
    exact lc_end C0 hS (lv_sub hl [0, 4] rfl)
  · exact absurd c_3 (by decide)

set_option maxHeartbeats 4000000 in
set_option maxRecDepth 100000 in
theorem lc_7 {p : Program} {l : Launch} {e : Env} {s : State} {m : MethodId} {below : List Frame} {meth : Method} {c : Code} {dC : Nat → ClassId} {dI : Nat → Nat → Nat} {b : Nat} {xs : Nat → Int32} (hl0 : l.stackTraces = false) (C0 : lw_At p s m meth c b 8 xs) (hth : ki_Th s) {x0 x_row x_tree x_tally x_votes x_otherVotes x_wins x_fewest x_cell x_joined x_from x_to x_size x_lossOf x_lessBy x_tvalue x_tnumber x_kind x_often m0 m_row m_many m_loss m_less m_voteValue m_voteNumber m_allValue m_allNumber m_nodeL m_nodeR m_part m_wasMany m_wasLoss m_wasValue m_wasNumber m_path m_heavyValue m_heavyTimes m_fewest m_which m_met q_o : Nat} {cyI : ClassId} {fc ff ft fm : Nat → Int32} {H : Heap} {locs : List Loc} (hK : va_K (dC, dI) vwCl [(cyI, .int)] s) (hP : va_P (dC, dI) vwCl [(x0, .inr (4, [.ref x_row, .ref x_tree, .ref x_tally, .ref x_votes, .ref x_otherVotes, .ref x_wins, .ref x_fewest, .int 2, .int 1])), (x_row, .inr (0, [.ref x_cell, .int 0])), (x_cell, .inl (cyI, 160, .inl fc)), (x_tree, .inr (2, [.ref x_row, .ref x_joined, .ref x_from, .ref x_to, .ref x_size, .ref x_lossOf, .ref x_lessBy, .ref x_tvalue, .ref x_tnumber, .int 0, .int 0])), (x_from, .inl (cyI, 319, .inl ff)), (x_to, .inl (cyI, 319, .inl ft)), (x_tally, .inr (1, [.ref x_kind, .ref x_often, .int 0, .int 0])), (m0, .inr (5, [.ref m_row, .int 0, .int 2, .int 0, .ref m_many, .ref m_loss, .ref m_less, .ref m_voteValue, .ref m_voteNumber, .ref m_allValue, .ref m_allNumber, .int 0, .ref m_nodeL, .ref m_nodeR, .int 0, .ref m_part, .int 0, .ref m_wasMany, .ref m_wasLoss, .ref m_wasValue, .ref m_wasNumber, .ref m_path, .int 0, .ref m_heavyValue, .ref m_heavyTimes, .int 0, .ref m_fewest, .ref m_which, .ref m_met, .int 0])), (m_row, .inl (cyI, 160, .inl fm))] H) (hD : va_D (fun q : Nat => s.heap.size ≤ q) [(x0, .inr (4, [.ref x_row, .ref x_tree, .ref x_tally, .ref x_votes, .ref x_otherVotes, .ref x_wins, .ref x_fewest, .int 2, .int 1])), (x_row, .inr (0, [.ref x_cell, .int 0])), (x_cell, .inl (cyI, 160, .inl fc)), (x_tree, .inr (2, [.ref x_row, .ref x_joined, .ref x_from, .ref x_to, .ref x_size, .ref x_lossOf, .ref x_lessBy, .ref x_tvalue, .ref x_tnumber, .int 0, .int 0])), (x_from, .inl (cyI, 319, .inl ff)), (x_to, .inl (cyI, 319, .inl ft)), (x_tally, .inr (1, [.ref x_kind, .ref x_often, .int 0, .int 0])), (m0, .inr (5, [.ref m_row, .int 0, .int 2, .int 0, .ref m_many, .ref m_loss, .ref m_less, .ref m_voteValue, .ref m_voteNumber, .ref m_allValue, .ref m_allNumber, .int 0, .ref m_nodeL, .ref m_nodeR, .int 0, .ref m_part, .int 0, .ref m_wasMany, .ref m_wasLoss, .ref m_wasValue, .ref m_wasNumber, .ref m_path, .int 0, .ref m_heavyValue, .ref m_heavyTimes, .int 0, .ref m_fewest, .ref m_which, .ref m_met, .int 0])), (m_row, .inl (cyI, 160, .inl fm))]) (hS : va_S (fun q : Nat => s.heap.size ≤ q) s.heap H locs) {ls : Array Slot} (hl : lv_has ls 7 [(4, .int 0), (3, .ref q_o), (2, .ref m0), (1, .ref x0), (0, .ref b)]) : W p l e room_1 s m #[Value.ref b] below meth c H locs 60 20000 (lw_Z below #[Value.ref b] s) (F0 m 479 ls []) := by
  obtain ⟨hx, hb, hr, hml, hown, hts0, hX, hbl, hlocks, hgv⟩ := id C0
  have hts := hts0
  have hA : ∀ q : Nat, s.heap.size ≤ q → (fun q : Nat => s.heap.size ≤ q) q := fun _ h => h
  have hbA : ¬ (fun q : Nat => s.heap.size ≤ q) b := Nat.not_le.mpr hbl
  have hown : s.vm.findClass RL = some m.cls := hown
  have hb : c.code = cL_law := hb
  refine lv_aload_n hx hb dL_law_479 rfl (lv_at hl 3 rfl) ?_
  refine lv_aload_n hx hb dL_law_480 rfl (lv_at hl 4 rfl) ?_
  refine lv_iload hx hb dL_law_481 (lv_at hl 0 rfl) ?_
  refine lv_iconst (v := 1) hx hb dL_law_483 (by decide) ?_
  refine lv_iadd hx hb dL_law_484 ?_
  refine W.eq (g2 := F0 m 485 ls [.int 1, .ref b, .ref x0]) (by first | rfl | (congr 2; decide)) ?_
  refine va_sld hx hb hX hbl hbA hS (i := 1) (ki_inl (by decide)) dL_law_485 ?_
  refine lv_aload_n hx hb dL_law_486 rfl (lv_at hl 4 rfl) ?_
  refine lv_iload hx hb dL_law_487 (lv_at hl 0 rfl) ?_
  refine lv_iconst (v := 2) hx hb dL_law_489 (by decide) ?_
  refine lv_iadd hx hb dL_law_490 ?_
  refine W.eq (g2 := F0 m 491 ls [.int 2, .ref b, .int (xs (1 : Int32).toNatClampNeg), .ref x0]) (by first | rfl | (congr 2; decide)) ?_
  refine va_sld hx hb hX hbl hbA hS (i := 2) (ki_inl (by decide)) dL_law_491 ?_
  have hPc := hP.sub (ws' := [(x0, .inr (4, [.ref x_row, .ref x_tree, .ref x_tally, .ref x_votes, .ref x_otherVotes, .ref x_wins, .ref x_fewest, .int 2, .int 1])), (x_row, .inr (0, [.ref x_cell, .int 0])), (x_cell, .inl (cyI, 160, .inl fc))]) [0, 1, 2] rfl
  have hKc := hK.sub (tys' := [(cyI, .int)]) [0] rfl
  have hDc := hD.sub (ws' := [(x0, .inr (4, [.ref x_row, .ref x_tree, .ref x_tally, .ref x_votes, .ref x_otherVotes, .ref x_wins, .ref x_fewest, .int 2, .int 1])), (x_row, .inr (0, [.ref x_cell, .int 0])), (x_cell, .inl (cyI, 160, .inl fc))]) [0, 1, 2] (by decide) rfl
  have hFc := va_free (wc := [(x0, .inr (4, [.ref x_row, .ref x_tree, .ref x_tally, .ref x_votes, .ref x_otherVotes, .ref x_wins, .ref x_fewest, .int 2, .int 1])), (x_row, .inr (0, [.ref x_cell, .int 0])), (x_cell, .inl (cyI, 160, .inl fc))]) hD hS hA [0, 1, 2] rfl
  refine va_calli (va_runV (As := [.int (xs (1 : Int32).toNatClampNeg), .int (xs (2 : Int32).toNatClampNeg)]) (rest := []) ⟨hx, hb, hml, hown, (lwC_X4_insert hts0)⟩ (c_X4_insert l dC dI x0 x_row x_tree x_tally x_votes x_otherVotes x_wins x_fewest x_cell cyI fc (xs (1 : Int32).toNatClampNeg) (xs (2 : Int32).toNatClampNeg) H.size) (cwV 2 (lwC_X4_insert hts0) lwG_X4_insert rfl rfl rfl (by decide +kernel) ⟨Nat.le_of_ble_eq_true rfl, Nat.le_of_ble_eq_true rfl⟩) ⟨fun a U g mk q => by obtain ⟨q0, q1, qP, qK, qD⟩ := q; exact ⟨q0, q1, qP, va_K.moved (u := U) (U := U.calling g mk a) (Vm.Alike.refl U.vm) qK, qD⟩, va_recv hKc hPc (ci := 4) (q0 := 0) rfl rfl, fun U hU hW => ⟨rfl, by rw [hU], by rw [hU]; exact hPc, va_K.moved hW.alike hKc, hDc.weaken (fun _ _ _ _ => trivial)⟩⟩ rfl rfl hl.1 rfl (lv_room (Nat.le_of_ble_eq_true rfl)) dL_law_492 ⟨Nat.le_of_ble_eq_true rfl, Nat.le_of_ble_eq_true rfl⟩) hS (fun q _ h => hFc q h) hFc (fun r_1 u t H1 locs ht hvm w_1 hB hz1 hk1 hS => ?_)
  obtain ⟨hP1, hK1, hD1⟩ := hB
  rw [ht] at hP1
  have hK1 := va_K.moved hvm.symm hK1
  obtain ⟨hP, hD⟩ := va_join (wr := [(x_tree, .inr (2, [.ref x_row, .ref x_joined, .ref x_from, .ref x_to, .ref x_size, .ref x_lossOf, .ref x_lessBy, .ref x_tvalue, .ref x_tnumber, .int 0, .int 0])), (x_from, .inl (cyI, 319, .inl ff)), (x_to, .inl (cyI, 319, .inl ft)), (x_tally, .inr (1, [.ref x_kind, .ref x_often, .int 0, .int 0])), (m0, .inr (5, [.ref m_row, .int 0, .int 2, .int 0, .ref m_many, .ref m_loss, .ref m_less, .ref m_voteValue, .ref m_voteNumber, .ref m_allValue, .ref m_allNumber, .int 0, .ref m_nodeL, .ref m_nodeR, .int 0, .ref m_part, .int 0, .ref m_wasMany, .ref m_wasLoss, .ref m_wasValue, .ref m_wasNumber, .ref m_path, .int 0, .ref m_heavyValue, .ref m_heavyTimes, .int 0, .ref m_fewest, .ref m_which, .ref m_met, .int 0])), (m_row, .inl (cyI, 160, .inl fm))]) (w1 := []) hP hD [0, 1, 2] [3, 4, 5, 6, 7, 8] rfl rfl (by decide) (by decide) hk1 hFc hP1 hD1
  clear hP1 hD1 hK1 hk1 hz1 hFc hDc hPc hKc
  generalize H1 = H at hP hS ⊢
  have hP : va_P (dC, dI) vwCl [(x_tree, .inr (2, [.ref x_row, .ref x_joined, .ref x_from, .ref x_to, .ref x_size, .ref x_lossOf, .ref x_lessBy, .ref x_tvalue, .ref x_tnumber, .int 0, .int 0])), (x_from, .inl (cyI, 319, .inl ff)), (x_to, .inl (cyI, 319, .inl ft)), (x_tally, .inr (1, [.ref x_kind, .ref x_often, .int 0, .int 0])), (m0, .inr (5, [.ref m_row, .int 0, .int 2, .int 0, .ref m_many, .ref m_loss, .ref m_less, .ref m_voteValue, .ref m_voteNumber, .ref m_allValue, .ref m_allNumber, .int 0, .ref m_nodeL, .ref m_nodeR, .int 0, .ref m_part, .int 0, .ref m_wasMany, .ref m_wasLoss, .ref m_wasValue, .ref m_wasNumber, .ref m_path, .int 0, .ref m_heavyValue, .ref m_heavyTimes, .int 0, .ref m_fewest, .ref m_which, .ref m_met, .int 0])), (m_row, .inl (cyI, 160, .inl fm))] H := hP
  have hD : va_D (fun q : Nat => s.heap.size ≤ q) [(x_tree, .inr (2, [.ref x_row, .ref x_joined, .ref x_from, .ref x_to, .ref x_size, .ref x_lossOf, .ref x_lessBy, .ref x_tvalue, .ref x_tnumber, .int 0, .int 0])), (x_from, .inl (cyI, 319, .inl ff)), (x_to, .inl (cyI, 319, .inl ft)), (x_tally, .inr (1, [.ref x_kind, .ref x_often, .int 0, .int 0])), (m0, .inr (5, [.ref m_row, .int 0, .int 2, .int 0, .ref m_many, .ref m_loss, .ref m_less, .ref m_voteValue, .ref m_voteNumber, .ref m_allValue, .ref m_allNumber, .int 0, .ref m_nodeL, .ref m_nodeR, .int 0, .ref m_part, .int 0, .ref m_wasMany, .ref m_wasLoss, .ref m_wasValue, .ref m_wasNumber, .ref m_path, .int 0, .ref m_heavyValue, .ref m_heavyTimes, .int 0, .ref m_fewest, .ref m_which, .ref m_met, .int 0])), (m_row, .inl (cyI, 160, .inl fm))] := hD
  rcases w_1 with ⟨rfl, w_1⟩ | ⟨rfl, w_1⟩
  · have w_1 : ((xs (1 : Int32).toNatClampNeg).toInt = 0 ∧ -32768 ≤ (xs (2 : Int32).toNatClampNeg).toInt ∧ (xs (2 : Int32).toNatClampNeg).toInt ≤ 32767) := w_1
    refine lv_aload_n hx hb dL_law_495 rfl (lv_at hl 2 rfl) ?_
    refine lv_aload_n hx hb dL_law_496 rfl (lv_at hl 4 rfl) ?_
    refine lv_iload hx hb dL_law_497 (lv_at hl 0 rfl) ?_
    refine lv_iconst (v := 1) hx hb dL_law_499 (by decide) ?_
    refine lv_iadd hx hb dL_law_500 ?_
    refine W.eq (g2 := F0 m 501 ls [.int 1, .ref b, .ref m0, .int 1]) (by first | rfl | (congr 2; decide)) ?_
    refine va_sld hx hb hX hbl hbA hS (i := 1) (ki_inl (by decide)) dL_law_501 ?_
    refine lv_aload_n hx hb dL_law_502 rfl (lv_at hl 4 rfl) ?_
    refine lv_iload hx hb dL_law_503 (lv_at hl 0 rfl) ?_
    refine lv_iconst (v := 2) hx hb dL_law_505 (by decide) ?_
    refine lv_iadd hx hb dL_law_506 ?_
    refine W.eq (g2 := F0 m 507 ls [.int 2, .ref b, .int (xs (1 : Int32).toNatClampNeg), .ref m0, .int 1]) (by first | rfl | (congr 2; decide)) ?_
    refine va_sld hx hb hX hbl hbA hS (i := 2) (ki_inl (by decide)) dL_law_507 ?_
    have hPc := hP.sub (ws' := [(m0, .inr (5, [.ref m_row, .int 0, .int 2, .int 0, .ref m_many, .ref m_loss, .ref m_less, .ref m_voteValue, .ref m_voteNumber, .ref m_allValue, .ref m_allNumber, .int 0, .ref m_nodeL, .ref m_nodeR, .int 0, .ref m_part, .int 0, .ref m_wasMany, .ref m_wasLoss, .ref m_wasValue, .ref m_wasNumber, .ref m_path, .int 0, .ref m_heavyValue, .ref m_heavyTimes, .int 0, .ref m_fewest, .ref m_which, .ref m_met, .int 0])), (m_row, .inl (cyI, 160, .inl fm))]) [4, 5] rfl
    have hKc := hK.sub (tys' := [(cyI, .int)]) [0] rfl
    have hDc := hD.sub (ws' := [(m0, .inr (5, [.ref m_row, .int 0, .int 2, .int 0, .ref m_many, .ref m_loss, .ref m_less, .ref m_voteValue, .ref m_voteNumber, .ref m_allValue, .ref m_allNumber, .int 0, .ref m_nodeL, .ref m_nodeR, .int 0, .ref m_part, .int 0, .ref m_wasMany, .ref m_wasLoss, .ref m_wasValue, .ref m_wasNumber, .ref m_path, .int 0, .ref m_heavyValue, .ref m_heavyTimes, .int 0, .ref m_fewest, .ref m_which, .ref m_met, .int 0])), (m_row, .inl (cyI, 160, .inl fm))]) [4, 5] (by decide) rfl
    have hFc := va_free (wc := [(m0, .inr (5, [.ref m_row, .int 0, .int 2, .int 0, .ref m_many, .ref m_loss, .ref m_less, .ref m_voteValue, .ref m_voteNumber, .ref m_allValue, .ref m_allNumber, .int 0, .ref m_nodeL, .ref m_nodeR, .int 0, .ref m_part, .int 0, .ref m_wasMany, .ref m_wasLoss, .ref m_wasValue, .ref m_wasNumber, .ref m_path, .int 0, .ref m_heavyValue, .ref m_heavyTimes, .int 0, .ref m_fewest, .ref m_which, .ref m_met, .int 0])), (m_row, .inl (cyI, 160, .inl fm))]) hD hS hA [4, 5] rfl
    refine va_calli (va_runV (As := [.int (xs (1 : Int32).toNatClampNeg), .int (xs (2 : Int32).toNatClampNeg)]) (rest := [.int 1]) ⟨hx, hb, hml, hown, (lwC_X5_insert hts0)⟩ (c_X5_insert l dC dI m0 m_row m_many m_loss m_less m_voteValue m_voteNumber m_allValue m_allNumber m_nodeL m_nodeR m_part m_wasMany m_wasLoss m_wasValue m_wasNumber m_path m_heavyValue m_heavyTimes m_fewest m_which m_met cyI fm (xs (1 : Int32).toNatClampNeg) (xs (2 : Int32).toNatClampNeg) H.size) (cwV 2 (lwC_X5_insert hts0) lwG_X5_insert rfl rfl rfl (by decide +kernel) ⟨Nat.le_of_ble_eq_true rfl, Nat.le_of_ble_eq_true rfl⟩) ⟨fun a U g mk q => by obtain ⟨q0, q1, qP, qK, qD⟩ := q; exact ⟨q0, q1, qP, va_K.moved (u := U) (U := U.calling g mk a) (Vm.Alike.refl U.vm) qK, qD⟩, va_recv hKc hPc (ci := 5) (q0 := 0) rfl rfl, fun U hU hW => ⟨rfl, by rw [hU], by rw [hU]; exact hPc, va_K.moved hW.alike hKc, hDc.weaken (fun _ _ _ _ => trivial)⟩⟩ rfl rfl hl.1 rfl (lv_room (Nat.le_of_ble_eq_true rfl)) dL_law_508 ⟨Nat.le_of_ble_eq_true rfl, Nat.le_of_ble_eq_true rfl⟩) hS (fun q _ h => hFc q h) hFc (fun r_2 u t H1 locs ht hvm w_2 hB hz1 hk1 hS => ?_)
    obtain ⟨hP1, hK1, hD1⟩ := hB
    rw [ht] at hP1
    have hK1 := va_K.moved hvm.symm hK1
    obtain ⟨hP, hD⟩ := va_join (wr := [(x_tree, .inr (2, [.ref x_row, .ref x_joined, .ref x_from, .ref x_to, .ref x_size, .ref x_lossOf, .ref x_lessBy, .ref x_tvalue, .ref x_tnumber, .int 0, .int 0])), (x_from, .inl (cyI, 319, .inl ff)), (x_to, .inl (cyI, 319, .inl ft)), (x_tally, .inr (1, [.ref x_kind, .ref x_often, .int 0, .int 0]))]) (w1 := []) hP hD [4, 5] [0, 1, 2, 3] rfl rfl (by decide) (by decide) hk1 hFc hP1 hD1
    clear hP1 hD1 hK1 hk1 hz1 hFc hDc hPc hKc
    generalize H1 = H at hP hS ⊢
    have hP : va_P (dC, dI) vwCl [(x_tree, .inr (2, [.ref x_row, .ref x_joined, .ref x_from, .ref x_to, .ref x_size, .ref x_lossOf, .ref x_lessBy, .ref x_tvalue, .ref x_tnumber, .int 0, .int 0])), (x_from, .inl (cyI, 319, .inl ff)), (x_to, .inl (cyI, 319, .inl ft)), (x_tally, .inr (1, [.ref x_kind, .ref x_often, .int 0, .int 0]))] H := hP
    have hD : va_D (fun q : Nat => s.heap.size ≤ q) [(x_tree, .inr (2, [.ref x_row, .ref x_joined, .ref x_from, .ref x_to, .ref x_size, .ref x_lossOf, .ref x_lessBy, .ref x_tvalue, .ref x_tnumber, .int 0, .int 0])), (x_from, .inl (cyI, 319, .inl ff)), (x_to, .inl (cyI, 319, .inl ft)), (x_tally, .inr (1, [.ref x_kind, .ref x_often, .int 0, .int 0]))] := hD
    rcases w_2 with ⟨rfl, w_2⟩ | ⟨rfl, w_2⟩
    · have w_2 : ((xs (1 : Int32).toNatClampNeg).toInt = 0 ∧ -32768 ≤ (xs (2 : Int32).toNatClampNeg).toInt ∧ (xs (2 : Int32).toNatClampNeg).toInt ≤ 32767) := w_2
      refine lv_icmp_eq (tgt := 2400) hx hb dL_law_511 (by decide) (fun c_3 => ?_) (fun c_3 => ?_)
      · refine W.widen (k := 100) (n := 30000) (Nat.le_of_ble_eq_true rfl) (Nat.le_of_ble_eq_true rfl) ?_
        exact lc_end C0 hS (lv_sub hl [0, 4] rfl)
      · exact absurd c_3 (by decide)
    · have w_2 : ((xs (1 : Int32).toNatClampNeg).toInt < 0 ∨ 0 < (xs (1 : Int32).toNatClampNeg).toInt ∨ (xs (2 : Int32).toNatClampNeg).toInt < -32768 ∨ 32767 < (xs (2 : Int32).toNatClampNeg).toInt) := w_2
      refine lv_icmp_eq (tgt := 2400) hx hb dL_law_511 (by decide) (fun c_4 => ?_) (fun c_4 => ?_)
      · exact absurd c_4 (by decide)
      · refine lv_iconst (v := 0) hx hb dL_law_514 (by decide) ?_
        exfalso; omega
  · have w_1 : ((xs (1 : Int32).toNatClampNeg).toInt < 0 ∨ 0 < (xs (1 : Int32).toNatClampNeg).toInt ∨ (xs (2 : Int32).toNatClampNeg).toInt < -32768 ∨ 32767 < (xs (2 : Int32).toNatClampNeg).toInt) := w_1
    refine lv_aload_n hx hb dL_law_495 rfl (lv_at hl 2 rfl) ?_
    refine lv_aload_n hx hb dL_law_496 rfl (lv_at hl 4 rfl) ?_
    refine lv_iload hx hb dL_law_497 (lv_at hl 0 rfl) ?_
    refine lv_iconst (v := 1) hx hb dL_law_499 (by decide) ?_
    refine lv_iadd hx hb dL_law_500 ?_
    refine W.eq (g2 := F0 m 501 ls [.int 1, .ref b, .ref m0, .int (-1)]) (by first | rfl | (congr 2; decide)) ?_
    refine va_sld hx hb hX hbl hbA hS (i := 1) (ki_inl (by decide)) dL_law_501 ?_
    refine lv_aload_n hx hb dL_law_502 rfl (lv_at hl 4 rfl) ?_
    refine lv_iload hx hb dL_law_503 (lv_at hl 0 rfl) ?_
    refine lv_iconst (v := 2) hx hb dL_law_505 (by decide) ?_
    refine lv_iadd hx hb dL_law_506 ?_
    refine W.eq (g2 := F0 m 507 ls [.int 2, .ref b, .int (xs (1 : Int32).toNatClampNeg), .ref m0, .int (-1)]) (by first | rfl | (congr 2; decide)) ?_
    refine va_sld hx hb hX hbl hbA hS (i := 2) (ki_inl (by decide)) dL_law_507 ?_
    have hPc := hP.sub (ws' := [(m0, .inr (5, [.ref m_row, .int 0, .int 2, .int 0, .ref m_many, .ref m_loss, .ref m_less, .ref m_voteValue, .ref m_voteNumber, .ref m_allValue, .ref m_allNumber, .int 0, .ref m_nodeL, .ref m_nodeR, .int 0, .ref m_part, .int 0, .ref m_wasMany, .ref m_wasLoss, .ref m_wasValue, .ref m_wasNumber, .ref m_path, .int 0, .ref m_heavyValue, .ref m_heavyTimes, .int 0, .ref m_fewest, .ref m_which, .ref m_met, .int 0])), (m_row, .inl (cyI, 160, .inl fm))]) [4, 5] rfl
    have hKc := hK.sub (tys' := [(cyI, .int)]) [0] rfl
    have hDc := hD.sub (ws' := [(m0, .inr (5, [.ref m_row, .int 0, .int 2, .int 0, .ref m_many, .ref m_loss, .ref m_less, .ref m_voteValue, .ref m_voteNumber, .ref m_allValue, .ref m_allNumber, .int 0, .ref m_nodeL, .ref m_nodeR, .int 0, .ref m_part, .int 0, .ref m_wasMany, .ref m_wasLoss, .ref m_wasValue, .ref m_wasNumber, .ref m_path, .int 0, .ref m_heavyValue, .ref m_heavyTimes, .int 0, .ref m_fewest, .ref m_which, .ref m_met, .int 0])), (m_row, .inl (cyI, 160, .inl fm))]) [4, 5] (by decide) rfl
    have hFc := va_free (wc := [(m0, .inr (5, [.ref m_row, .int 0, .int 2, .int 0, .ref m_many, .ref m_loss, .ref m_less, .ref m_voteValue, .ref m_voteNumber, .ref m_allValue, .ref m_allNumber, .int 0, .ref m_nodeL, .ref m_nodeR, .int 0, .ref m_part, .int 0, .ref m_wasMany, .ref m_wasLoss, .ref m_wasValue, .ref m_wasNumber, .ref m_path, .int 0, .ref m_heavyValue, .ref m_heavyTimes, .int 0, .ref m_fewest, .ref m_which, .ref m_met, .int 0])), (m_row, .inl (cyI, 160, .inl fm))]) hD hS hA [4, 5] rfl
    refine va_calli (va_runV (As := [.int (xs (1 : Int32).toNatClampNeg), .int (xs (2 : Int32).toNatClampNeg)]) (rest := [.int (-1)]) ⟨hx, hb, hml, hown, (lwC_X5_insert hts0)⟩ (c_X5_insert l dC dI m0 m_row m_many m_loss m_less m_voteValue m_voteNumber m_allValue m_allNumber m_nodeL m_nodeR m_part m_wasMany m_wasLoss m_wasValue m_wasNumber m_path m_heavyValue m_heavyTimes m_fewest m_which m_met cyI fm (xs (1 : Int32).toNatClampNeg) (xs (2 : Int32).toNatClampNeg) H.size) (cwV 2 (lwC_X5_insert hts0) lwG_X5_insert rfl rfl rfl (by decide +kernel) ⟨Nat.le_of_ble_eq_true rfl, Nat.le_of_ble_eq_true rfl⟩) ⟨fun a U g mk q => by obtain ⟨q0, q1, qP, qK, qD⟩ := q; exact ⟨q0, q1, qP, va_K.moved (u := U) (U := U.calling g mk a) (Vm.Alike.refl U.vm) qK, qD⟩, va_recv hKc hPc (ci := 5) (q0 := 0) rfl rfl, fun U hU hW => ⟨rfl, by rw [hU], by rw [hU]; exact hPc, va_K.moved hW.alike hKc, hDc.weaken (fun _ _ _ _ => trivial)⟩⟩ rfl rfl hl.1 rfl (lv_room (Nat.le_of_ble_eq_true rfl)) dL_law_508 ⟨Nat.le_of_ble_eq_true rfl, Nat.le_of_ble_eq_true rfl⟩) hS (fun q _ h => hFc q h) hFc (fun r_5 u t H1 locs ht hvm w_5 hB hz1 hk1 hS => ?_)
    obtain ⟨hP1, hK1, hD1⟩ := hB
    rw [ht] at hP1
    have hK1 := va_K.moved hvm.symm hK1
    obtain ⟨hP, hD⟩ := va_join (wr := [(x_tree, .inr (2, [.ref x_row, .ref x_joined, .ref x_from, .ref x_to, .ref x_size, .ref x_lossOf, .ref x_lessBy, .ref x_tvalue, .ref x_tnumber, .int 0, .int 0])), (x_from, .inl (cyI, 319, .inl ff)), (x_to, .inl (cyI, 319, .inl ft)), (x_tally, .inr (1, [.ref x_kind, .ref x_often, .int 0, .int 0]))]) (w1 := []) hP hD [4, 5] [0, 1, 2, 3] rfl rfl (by decide) (by decide) hk1 hFc hP1 hD1
    clear hP1 hD1 hK1 hk1 hz1 hFc hDc hPc hKc
    generalize H1 = H at hP hS ⊢
    have hP : va_P (dC, dI) vwCl [(x_tree, .inr (2, [.ref x_row, .ref x_joined, .ref x_from, .ref x_to, .ref x_size, .ref x_lossOf, .ref x_lessBy, .ref x_tvalue, .ref x_tnumber, .int 0, .int 0])), (x_from, .inl (cyI, 319, .inl ff)), (x_to, .inl (cyI, 319, .inl ft)), (x_tally, .inr (1, [.ref x_kind, .ref x_often, .int 0, .int 0]))] H := hP
    have hD : va_D (fun q : Nat => s.heap.size ≤ q) [(x_tree, .inr (2, [.ref x_row, .ref x_joined, .ref x_from, .ref x_to, .ref x_size, .ref x_lossOf, .ref x_lessBy, .ref x_tvalue, .ref x_tnumber, .int 0, .int 0])), (x_from, .inl (cyI, 319, .inl ff)), (x_to, .inl (cyI, 319, .inl ft)), (x_tally, .inr (1, [.ref x_kind, .ref x_often, .int 0, .int 0]))] := hD
    rcases w_5 with ⟨rfl, w_5⟩ | ⟨rfl, w_5⟩
    · have w_5 : ((xs (1 : Int32).toNatClampNeg).toInt = 0 ∧ -32768 ≤ (xs (2 : Int32).toNatClampNeg).toInt ∧ (xs (2 : Int32).toNatClampNeg).toInt ≤ 32767) := w_5
      refine lv_icmp_eq (tgt := 2400) hx hb dL_law_511 (by decide) (fun c_6 => ?_) (fun c_6 => ?_)
      · exact absurd c_6 (by decide)
      · refine lv_iconst (v := 0) hx hb dL_law_514 (by decide) ?_
        exfalso; omega
    · have w_5 : ((xs (1 : Int32).toNatClampNeg).toInt < 0 ∨ 0 < (xs (1 : Int32).toNatClampNeg).toInt ∨ (xs (2 : Int32).toNatClampNeg).toInt < -32768 ∨ 32767 < (xs (2 : Int32).toNatClampNeg).toInt) := w_5
      refine lv_icmp_eq (tgt := 2400) hx hb dL_law_511 (by decide) (fun c_7 => ?_) (fun c_7 => ?_)
      · refine W.widen (k := 100) (n := 30000) (Nat.le_of_ble_eq_true rfl) (Nat.le_of_ble_eq_true rfl) ?_
        exact lc_end C0 hS (lv_sub hl [0, 4] rfl)
      · exact absurd c_7 (by decide)

set_option maxHeartbeats 4000000 in
set_option maxRecDepth 100000 in
theorem lc_8 {p : Program} {l : Launch} {e : Env} {s : State} {m : MethodId} {below : List Frame} {meth : Method} {c : Code} {dC : Nat → ClassId} {dI : Nat → Nat → Nat} {b : Nat} {xs : Nat → Int32} (hl0 : l.stackTraces = false) (C0 : lw_At p s m meth c b 8 xs) (hth : ki_Th s) {x0 x_row x_tree x_tally x_votes x_otherVotes x_wins x_fewest x_cell x_joined x_from x_to x_size x_lossOf x_lessBy x_tvalue x_tnumber x_kind x_often m0 m_row m_many m_loss m_less m_voteValue m_voteNumber m_allValue m_allNumber m_nodeL m_nodeR m_part m_wasMany m_wasLoss m_wasValue m_wasNumber m_path m_heavyValue m_heavyTimes m_fewest m_which m_met q_o : Nat} {cyI : ClassId} {fc ff ft fm : Nat → Int32} {H : Heap} {locs : List Loc} (hK : va_K (dC, dI) vwCl [(cyI, .int)] s) (hP : va_P (dC, dI) vwCl [(x0, .inr (4, [.ref x_row, .ref x_tree, .ref x_tally, .ref x_votes, .ref x_otherVotes, .ref x_wins, .ref x_fewest, .int 2, .int 1])), (x_row, .inr (0, [.ref x_cell, .int 0])), (x_cell, .inl (cyI, 160, .inl fc)), (x_tree, .inr (2, [.ref x_row, .ref x_joined, .ref x_from, .ref x_to, .ref x_size, .ref x_lossOf, .ref x_lessBy, .ref x_tvalue, .ref x_tnumber, .int 0, .int 0])), (x_from, .inl (cyI, 319, .inl ff)), (x_to, .inl (cyI, 319, .inl ft)), (x_tally, .inr (1, [.ref x_kind, .ref x_often, .int 0, .int 0])), (m0, .inr (5, [.ref m_row, .int 0, .int 2, .int 0, .ref m_many, .ref m_loss, .ref m_less, .ref m_voteValue, .ref m_voteNumber, .ref m_allValue, .ref m_allNumber, .int 0, .ref m_nodeL, .ref m_nodeR, .int 0, .ref m_part, .int 0, .ref m_wasMany, .ref m_wasLoss, .ref m_wasValue, .ref m_wasNumber, .ref m_path, .int 0, .ref m_heavyValue, .ref m_heavyTimes, .int 0, .ref m_fewest, .ref m_which, .ref m_met, .int 0])), (m_row, .inl (cyI, 160, .inl fm))] H) (hD : va_D (fun q : Nat => s.heap.size ≤ q) [(x0, .inr (4, [.ref x_row, .ref x_tree, .ref x_tally, .ref x_votes, .ref x_otherVotes, .ref x_wins, .ref x_fewest, .int 2, .int 1])), (x_row, .inr (0, [.ref x_cell, .int 0])), (x_cell, .inl (cyI, 160, .inl fc)), (x_tree, .inr (2, [.ref x_row, .ref x_joined, .ref x_from, .ref x_to, .ref x_size, .ref x_lossOf, .ref x_lessBy, .ref x_tvalue, .ref x_tnumber, .int 0, .int 0])), (x_from, .inl (cyI, 319, .inl ff)), (x_to, .inl (cyI, 319, .inl ft)), (x_tally, .inr (1, [.ref x_kind, .ref x_often, .int 0, .int 0])), (m0, .inr (5, [.ref m_row, .int 0, .int 2, .int 0, .ref m_many, .ref m_loss, .ref m_less, .ref m_voteValue, .ref m_voteNumber, .ref m_allValue, .ref m_allNumber, .int 0, .ref m_nodeL, .ref m_nodeR, .int 0, .ref m_part, .int 0, .ref m_wasMany, .ref m_wasLoss, .ref m_wasValue, .ref m_wasNumber, .ref m_path, .int 0, .ref m_heavyValue, .ref m_heavyTimes, .int 0, .ref m_fewest, .ref m_which, .ref m_met, .int 0])), (m_row, .inl (cyI, 160, .inl fm))]) (hS : va_S (fun q : Nat => s.heap.size ≤ q) s.heap H locs) {ls : Array Slot} (hl : lv_has ls 7 [(4, .int 0), (3, .ref q_o), (2, .ref m0), (1, .ref x0), (0, .ref b)]) : W p l e room_1 s m #[Value.ref b] below meth c H locs 60 20000 (lw_Z below #[Value.ref b] s) (F0 m 516 ls []) := by
  obtain ⟨hx, hb, hr, hml, hown, hts0, hX, hbl, hlocks, hgv⟩ := id C0
  have hts := hts0
  have hA : ∀ q : Nat, s.heap.size ≤ q → (fun q : Nat => s.heap.size ≤ q) q := fun _ h => h
  have hbA : ¬ (fun q : Nat => s.heap.size ≤ q) b := Nat.not_le.mpr hbl
  have hown : s.vm.findClass RL = some m.cls := hown
  have hb : c.code = cL_law := hb
  refine lv_aload_n hx hb dL_law_516 rfl (lv_at hl 3 rfl) ?_
  refine lv_aload_n hx hb dL_law_517 rfl (lv_at hl 4 rfl) ?_
  refine lv_iload hx hb dL_law_518 (lv_at hl 0 rfl) ?_
  refine lv_iconst (v := 1) hx hb dL_law_520 (by decide) ?_
  refine lv_iadd hx hb dL_law_521 ?_
  refine W.eq (g2 := F0 m 522 ls [.int 1, .ref b, .ref x0]) (by first | rfl | (congr 2; decide)) ?_
  refine va_sld hx hb hX hbl hbA hS (i := 1) (ki_inl (by decide)) dL_law_522 ?_
  have hPc := hP.sub (ws' := [(x0, .inr (4, [.ref x_row, .ref x_tree, .ref x_tally, .ref x_votes, .ref x_otherVotes, .ref x_wins, .ref x_fewest, .int 2, .int 1])), (x_row, .inr (0, [.ref x_cell, .int 0]))]) [0, 1] rfl
  have hKc := hK.sub (tys' := []) [] rfl
  refine vp_callSi (W.runV (As := [.int (xs (1 : Int32).toNatClampNeg)]) (rest := []) ⟨hx, hb, hml, hown, (lwC_X4_remove hts0)⟩ (c_X4_remove l dC dI x0 x_row x_tree x_tally x_votes x_otherVotes x_wins x_fewest x_cell (xs (1 : Int32).toNatClampNeg)) (cwV 1 (lwC_X4_remove hts0) lwG_X4_remove rfl rfl rfl (by decide +kernel) ⟨Nat.le_of_ble_eq_true rfl, Nat.le_of_ble_eq_true rfl⟩) ⟨fun a U g mk q => by obtain ⟨q0, qP, qK⟩ := q; exact ⟨q0, qP, va_K.moved (u := U) (U := U.calling g mk a) (Vm.Alike.refl U.vm) qK⟩, va_recv hKc hPc (ci := 4) (q0 := 0) rfl rfl, fun U hU hW => ⟨rfl, by rw [hU]; exact hPc, va_K.moved hW.alike hKc⟩⟩ rfl rfl hl.1 rfl (lv_room (Nat.le_of_ble_eq_true rfl)) dL_law_523 ⟨Nat.le_of_ble_eq_true rfl, Nat.le_of_ble_eq_true rfl⟩) (fun r_1 w_1 => ?_)
  subst w_1
  refine lv_aload_n hx hb dL_law_526 rfl (lv_at hl 2 rfl) ?_
  refine lv_aload_n hx hb dL_law_527 rfl (lv_at hl 4 rfl) ?_
  refine lv_iload hx hb dL_law_528 (lv_at hl 0 rfl) ?_
  refine lv_iconst (v := 1) hx hb dL_law_530 (by decide) ?_
  refine lv_iadd hx hb dL_law_531 ?_
  refine W.eq (g2 := F0 m 532 ls [.int 1, .ref b, .ref m0, .int (-40000)]) (by first | rfl | (congr 2; decide)) ?_
  refine va_sld hx hb hX hbl hbA hS (i := 1) (ki_inl (by decide)) dL_law_532 ?_
  have hPc := hP.sub (ws' := [(m0, .inr (5, [.ref m_row, .int 0, .int 2, .int 0, .ref m_many, .ref m_loss, .ref m_less, .ref m_voteValue, .ref m_voteNumber, .ref m_allValue, .ref m_allNumber, .int 0, .ref m_nodeL, .ref m_nodeR, .int 0, .ref m_part, .int 0, .ref m_wasMany, .ref m_wasLoss, .ref m_wasValue, .ref m_wasNumber, .ref m_path, .int 0, .ref m_heavyValue, .ref m_heavyTimes, .int 0, .ref m_fewest, .ref m_which, .ref m_met, .int 0]))]) [7] rfl
  have hKc := hK.sub (tys' := []) [] rfl
  have hDc := hD.sub (ws' := [(m0, .inr (5, [.ref m_row, .int 0, .int 2, .int 0, .ref m_many, .ref m_loss, .ref m_less, .ref m_voteValue, .ref m_voteNumber, .ref m_allValue, .ref m_allNumber, .int 0, .ref m_nodeL, .ref m_nodeR, .int 0, .ref m_part, .int 0, .ref m_wasMany, .ref m_wasLoss, .ref m_wasValue, .ref m_wasNumber, .ref m_path, .int 0, .ref m_heavyValue, .ref m_heavyTimes, .int 0, .ref m_fewest, .ref m_which, .ref m_met, .int 0]))]) [7] (by decide) rfl
  have hFc := va_free (wc := [(m0, .inr (5, [.ref m_row, .int 0, .int 2, .int 0, .ref m_many, .ref m_loss, .ref m_less, .ref m_voteValue, .ref m_voteNumber, .ref m_allValue, .ref m_allNumber, .int 0, .ref m_nodeL, .ref m_nodeR, .int 0, .ref m_part, .int 0, .ref m_wasMany, .ref m_wasLoss, .ref m_wasValue, .ref m_wasNumber, .ref m_path, .int 0, .ref m_heavyValue, .ref m_heavyTimes, .int 0, .ref m_fewest, .ref m_which, .ref m_met, .int 0]))]) hD hS hA [7] rfl
  refine va_calli (va_runV (As := [.int (xs (1 : Int32).toNatClampNeg)]) (rest := [.int (-40000)]) ⟨hx, hb, hml, hown, (lwC_X5_remove hts0)⟩ (c_X5_remove l dC dI m0 m_row m_many m_loss m_less m_voteValue m_voteNumber m_allValue m_allNumber m_nodeL m_nodeR m_part m_wasMany m_wasLoss m_wasValue m_wasNumber m_path m_heavyValue m_heavyTimes m_fewest m_which m_met (xs (1 : Int32).toNatClampNeg) H.size) (cwV 1 (lwC_X5_remove hts0) lwG_X5_remove rfl rfl rfl (by decide +kernel) ⟨Nat.le_of_ble_eq_true rfl, Nat.le_of_ble_eq_true rfl⟩) ⟨fun a U g mk q => by obtain ⟨q0, q1, qP, qK, qD⟩ := q; exact ⟨q0, q1, qP, va_K.moved (u := U) (U := U.calling g mk a) (Vm.Alike.refl U.vm) qK, qD⟩, va_recv hKc hPc (ci := 5) (q0 := 0) rfl rfl, fun U hU hW => ⟨rfl, by rw [hU], by rw [hU]; exact hPc, va_K.moved hW.alike hKc, hDc.weaken (fun _ _ _ _ => trivial)⟩⟩ rfl rfl hl.1 rfl (lv_room (Nat.le_of_ble_eq_true rfl)) dL_law_533 ⟨Nat.le_of_ble_eq_true rfl, Nat.le_of_ble_eq_true rfl⟩) hS (fun q _ h => hFc q h) hFc (fun r_2 u t H1 locs ht hvm w_2 hB hz1 hk1 hS => ?_)
  obtain ⟨hP1, hK1, hD1⟩ := hB
  rw [ht] at hP1
  have hK1 := va_K.moved hvm.symm hK1
  obtain ⟨hP, hD⟩ := va_join (wr := [(x0, .inr (4, [.ref x_row, .ref x_tree, .ref x_tally, .ref x_votes, .ref x_otherVotes, .ref x_wins, .ref x_fewest, .int 2, .int 1])), (x_row, .inr (0, [.ref x_cell, .int 0])), (x_cell, .inl (cyI, 160, .inl fc)), (x_tree, .inr (2, [.ref x_row, .ref x_joined, .ref x_from, .ref x_to, .ref x_size, .ref x_lossOf, .ref x_lessBy, .ref x_tvalue, .ref x_tnumber, .int 0, .int 0])), (x_from, .inl (cyI, 319, .inl ff)), (x_to, .inl (cyI, 319, .inl ft)), (x_tally, .inr (1, [.ref x_kind, .ref x_often, .int 0, .int 0])), (m_row, .inl (cyI, 160, .inl fm))]) (w1 := []) hP hD [7] [0, 1, 2, 3, 4, 5, 6, 8] rfl rfl (by decide) (by decide) hk1 hFc hP1 hD1
  clear hP1 hD1 hK1 hk1 hz1 hFc hDc hPc hKc
  generalize H1 = H at hP hS ⊢
  have hP : va_P (dC, dI) vwCl [(x0, .inr (4, [.ref x_row, .ref x_tree, .ref x_tally, .ref x_votes, .ref x_otherVotes, .ref x_wins, .ref x_fewest, .int 2, .int 1])), (x_row, .inr (0, [.ref x_cell, .int 0])), (x_cell, .inl (cyI, 160, .inl fc)), (x_tree, .inr (2, [.ref x_row, .ref x_joined, .ref x_from, .ref x_to, .ref x_size, .ref x_lossOf, .ref x_lessBy, .ref x_tvalue, .ref x_tnumber, .int 0, .int 0])), (x_from, .inl (cyI, 319, .inl ff)), (x_to, .inl (cyI, 319, .inl ft)), (x_tally, .inr (1, [.ref x_kind, .ref x_often, .int 0, .int 0])), (m_row, .inl (cyI, 160, .inl fm))] H := hP
  have hD : va_D (fun q : Nat => s.heap.size ≤ q) [(x0, .inr (4, [.ref x_row, .ref x_tree, .ref x_tally, .ref x_votes, .ref x_otherVotes, .ref x_wins, .ref x_fewest, .int 2, .int 1])), (x_row, .inr (0, [.ref x_cell, .int 0])), (x_cell, .inl (cyI, 160, .inl fc)), (x_tree, .inr (2, [.ref x_row, .ref x_joined, .ref x_from, .ref x_to, .ref x_size, .ref x_lossOf, .ref x_lessBy, .ref x_tvalue, .ref x_tnumber, .int 0, .int 0])), (x_from, .inl (cyI, 319, .inl ff)), (x_to, .inl (cyI, 319, .inl ft)), (x_tally, .inr (1, [.ref x_kind, .ref x_often, .int 0, .int 0])), (m_row, .inl (cyI, 160, .inl fm))] := hD
  subst w_2
  refine lv_icmp_eq (tgt := 2400) hx hb dL_law_536 (by decide) (fun c_3 => ?_) (fun c_3 => ?_)
  · refine W.widen (k := 100) (n := 30000) (Nat.le_of_ble_eq_true rfl) (Nat.le_of_ble_eq_true rfl) ?_
    exact lc_end C0 hS (lv_sub hl [0, 4] rfl)
  · exact absurd c_3 (by decide)

set_option maxHeartbeats 4000000 in
set_option maxRecDepth 100000 in
theorem lc_9 {p : Program} {l : Launch} {e : Env} {s : State} {m : MethodId} {below : List Frame} {meth : Method} {c : Code} {dC : Nat → ClassId} {dI : Nat → Nat → Nat} {b : Nat} {xs : Nat → Int32} (hl0 : l.stackTraces = false) (C0 : lw_At p s m meth c b 8 xs) (hth : ki_Th s) {x0 x_row x_tree x_tally x_votes x_otherVotes x_wins x_fewest x_cell x_joined x_from x_to x_size x_lossOf x_lessBy x_tvalue x_tnumber x_kind x_often m0 m_row m_many m_loss m_less m_voteValue m_voteNumber m_allValue m_allNumber m_nodeL m_nodeR m_part m_wasMany m_wasLoss m_wasValue m_wasNumber m_path m_heavyValue m_heavyTimes m_fewest m_which m_met q_o : Nat} {cyI : ClassId} {fc ff ft fm : Nat → Int32} {H : Heap} {locs : List Loc} (hK : va_K (dC, dI) vwCl [(cyI, .int)] s) (hP : va_P (dC, dI) vwCl [(x0, .inr (4, [.ref x_row, .ref x_tree, .ref x_tally, .ref x_votes, .ref x_otherVotes, .ref x_wins, .ref x_fewest, .int 2, .int 1])), (x_row, .inr (0, [.ref x_cell, .int 0])), (x_cell, .inl (cyI, 160, .inl fc)), (x_tree, .inr (2, [.ref x_row, .ref x_joined, .ref x_from, .ref x_to, .ref x_size, .ref x_lossOf, .ref x_lessBy, .ref x_tvalue, .ref x_tnumber, .int 0, .int 0])), (x_from, .inl (cyI, 319, .inl ff)), (x_to, .inl (cyI, 319, .inl ft)), (x_tally, .inr (1, [.ref x_kind, .ref x_often, .int 0, .int 0])), (m0, .inr (5, [.ref m_row, .int 0, .int 2, .int 0, .ref m_many, .ref m_loss, .ref m_less, .ref m_voteValue, .ref m_voteNumber, .ref m_allValue, .ref m_allNumber, .int 0, .ref m_nodeL, .ref m_nodeR, .int 0, .ref m_part, .int 0, .ref m_wasMany, .ref m_wasLoss, .ref m_wasValue, .ref m_wasNumber, .ref m_path, .int 0, .ref m_heavyValue, .ref m_heavyTimes, .int 0, .ref m_fewest, .ref m_which, .ref m_met, .int 0])), (m_row, .inl (cyI, 160, .inl fm))] H) (hD : va_D (fun q : Nat => s.heap.size ≤ q) [(x0, .inr (4, [.ref x_row, .ref x_tree, .ref x_tally, .ref x_votes, .ref x_otherVotes, .ref x_wins, .ref x_fewest, .int 2, .int 1])), (x_row, .inr (0, [.ref x_cell, .int 0])), (x_cell, .inl (cyI, 160, .inl fc)), (x_tree, .inr (2, [.ref x_row, .ref x_joined, .ref x_from, .ref x_to, .ref x_size, .ref x_lossOf, .ref x_lessBy, .ref x_tvalue, .ref x_tnumber, .int 0, .int 0])), (x_from, .inl (cyI, 319, .inl ff)), (x_to, .inl (cyI, 319, .inl ft)), (x_tally, .inr (1, [.ref x_kind, .ref x_often, .int 0, .int 0])), (m0, .inr (5, [.ref m_row, .int 0, .int 2, .int 0, .ref m_many, .ref m_loss, .ref m_less, .ref m_voteValue, .ref m_voteNumber, .ref m_allValue, .ref m_allNumber, .int 0, .ref m_nodeL, .ref m_nodeR, .int 0, .ref m_part, .int 0, .ref m_wasMany, .ref m_wasLoss, .ref m_wasValue, .ref m_wasNumber, .ref m_path, .int 0, .ref m_heavyValue, .ref m_heavyTimes, .int 0, .ref m_fewest, .ref m_which, .ref m_met, .int 0])), (m_row, .inl (cyI, 160, .inl fm))]) (hS : va_S (fun q : Nat => s.heap.size ≤ q) s.heap H locs) {ls : Array Slot} (hl : lv_has ls 7 [(4, .int 0), (3, .ref q_o), (2, .ref m0), (1, .ref x0), (0, .ref b)]) : W p l e room_1 s m #[Value.ref b] below meth c H locs 60 20000 (lw_Z below #[Value.ref b] s) (F0 m 541 ls []) := by
  obtain ⟨hx, hb, hr, hml, hown, hts0, hX, hbl, hlocks, hgv⟩ := id C0
  have hts := hts0
  have hA : ∀ q : Nat, s.heap.size ≤ q → (fun q : Nat => s.heap.size ≤ q) q := fun _ h => h
  have hbA : ¬ (fun q : Nat => s.heap.size ≤ q) b := Nat.not_le.mpr hbl
  have hown : s.vm.findClass RL = some m.cls := hown
  have hb : c.code = cL_law := hb
  refine lv_aload_n hx hb dL_law_541 rfl (lv_at hl 3 rfl) ?_
  refine lv_aload_n hx hb dL_law_542 rfl (lv_at hl 4 rfl) ?_
  refine lv_iload hx hb dL_law_543 (lv_at hl 0 rfl) ?_
  refine lv_iconst (v := 1) hx hb dL_law_545 (by decide) ?_
  refine lv_iadd hx hb dL_law_546 ?_
  refine W.eq (g2 := F0 m 547 ls [.int 1, .ref b, .ref x0]) (by first | rfl | (congr 2; decide)) ?_
  refine va_sld hx hb hX hbl hbA hS (i := 1) (ki_inl (by decide)) dL_law_547 ?_
  refine lv_aload_n hx hb dL_law_548 rfl (lv_at hl 1 rfl) ?_
  have hPc := hP.sub (ws' := [(x0, .inr (4, [.ref x_row, .ref x_tree, .ref x_tally, .ref x_votes, .ref x_otherVotes, .ref x_wins, .ref x_fewest, .int 2, .int 1])), (x_row, .inr (0, [.ref x_cell, .int 0]))]) [0, 1] rfl
  have hKc := hK.sub (tys' := []) [] rfl
  refine va_calli (vx_runSW (As := [.ref x0, .int (xs (1 : Int32).toNatClampNeg), .ref q_o]) (rest := []) ⟨hx, hb, hml, hown, (lwC_L_at hts0)⟩ (c_L_at l hl0 dC dI x0 x_row x_tree x_tally x_votes x_otherVotes x_wins x_fewest x_cell (xs (1 : Int32).toNatClampNeg) q_o) (vx_cwSW 3 (lwC_L_at hts0) lwG_L_at rfl rfl rfl (by decide +kernel) ⟨Nat.le_of_ble_eq_true rfl, Nat.le_of_ble_eq_true rfl⟩) ⟨fun a U g mk q => by obtain ⟨q0, qP, qK, qT⟩ := q; exact ⟨q0, qP, va_K.moved (u := U) (U := U.calling g mk a) (Vm.Alike.refl U.vm) qK, qT.call g mk a⟩, fun U hU hW => ⟨rfl, by rw [hU]; exact hPc, va_K.moved hW.alike hKc, hth.from hS hU hW⟩⟩ rfl rfl hl.1 rfl (lv_room (Nat.le_of_ble_eq_true rfl)) dL_law_549 ⟨Nat.le_of_ble_eq_true rfl, Nat.le_of_ble_eq_true rfl⟩) hS (fun q _ h => h.elim) (fun q h => h.elim) (fun r_1 u t H1 locs ht hvm w_1 hB hz1 hk1 hS => ?_)
  have hP := hP.kept (H1 := H1) (fun k x hx => hk1 x.1 ((hP k x hx).lt) (fun h => h))
  clear hPc hKc hk1 hz1
  generalize H1 = H at hP hS ⊢
  have hP : va_P (dC, dI) vwCl [(x0, .inr (4, [.ref x_row, .ref x_tree, .ref x_tally, .ref x_votes, .ref x_otherVotes, .ref x_wins, .ref x_fewest, .int 2, .int 1])), (x_row, .inr (0, [.ref x_cell, .int 0])), (x_cell, .inl (cyI, 160, .inl fc)), (x_tree, .inr (2, [.ref x_row, .ref x_joined, .ref x_from, .ref x_to, .ref x_size, .ref x_lossOf, .ref x_lessBy, .ref x_tvalue, .ref x_tnumber, .int 0, .int 0])), (x_from, .inl (cyI, 319, .inl ff)), (x_to, .inl (cyI, 319, .inl ft)), (x_tally, .inr (1, [.ref x_kind, .ref x_often, .int 0, .int 0])), (m0, .inr (5, [.ref m_row, .int 0, .int 2, .int 0, .ref m_many, .ref m_loss, .ref m_less, .ref m_voteValue, .ref m_voteNumber, .ref m_allValue, .ref m_allNumber, .int 0, .ref m_nodeL, .ref m_nodeR, .int 0, .ref m_part, .int 0, .ref m_wasMany, .ref m_wasLoss, .ref m_wasValue, .ref m_wasNumber, .ref m_path, .int 0, .ref m_heavyValue, .ref m_heavyTimes, .int 0, .ref m_fewest, .ref m_which, .ref m_met, .int 0])), (m_row, .inl (cyI, 160, .inl fm))] H := hP
  have hD : va_D (fun q : Nat => s.heap.size ≤ q) [(x0, .inr (4, [.ref x_row, .ref x_tree, .ref x_tally, .ref x_votes, .ref x_otherVotes, .ref x_wins, .ref x_fewest, .int 2, .int 1])), (x_row, .inr (0, [.ref x_cell, .int 0])), (x_cell, .inl (cyI, 160, .inl fc)), (x_tree, .inr (2, [.ref x_row, .ref x_joined, .ref x_from, .ref x_to, .ref x_size, .ref x_lossOf, .ref x_lessBy, .ref x_tvalue, .ref x_tnumber, .int 0, .int 0])), (x_from, .inl (cyI, 319, .inl ff)), (x_to, .inl (cyI, 319, .inl ft)), (x_tally, .inr (1, [.ref x_kind, .ref x_often, .int 0, .int 0])), (m0, .inr (5, [.ref m_row, .int 0, .int 2, .int 0, .ref m_many, .ref m_loss, .ref m_less, .ref m_voteValue, .ref m_voteNumber, .ref m_allValue, .ref m_allNumber, .int 0, .ref m_nodeL, .ref m_nodeR, .int 0, .ref m_part, .int 0, .ref m_wasMany, .ref m_wasLoss, .ref m_wasValue, .ref m_wasNumber, .ref m_path, .int 0, .ref m_heavyValue, .ref m_heavyTimes, .int 0, .ref m_fewest, .ref m_which, .ref m_met, .int 0])), (m_row, .inl (cyI, 160, .inl fm))] := hD
  refine W.widen (k := 61) (n := 20006) (Nat.le_of_ble_eq_true rfl) (Nat.le_of_ble_eq_true rfl) ?_
  subst w_1
  refine lv_istore (lv' := [(5, .int 1), (4, .int 0), (3, .ref q_o), (2, .ref m0), (1, .ref x0), (0, .ref b)]) hx hb dL_law_552 hl (by decide) rfl (fun ls hl => ?_)
  refine lv_aload_n hx hb dL_law_554 rfl (lv_at hl 3 rfl) ?_
  refine lv_aload_n hx hb dL_law_555 rfl (lv_at hl 5 rfl) ?_
  refine lv_iload hx hb dL_law_556 (lv_at hl 1 rfl) ?_
  refine lv_iconst (v := 1) hx hb dL_law_558 (by decide) ?_
  refine lv_iadd hx hb dL_law_559 ?_
  refine W.eq (g2 := F0 m 560 ls [.int 1, .ref b, .ref m0]) (by first | rfl | (congr 2; decide)) ?_
  refine va_sld hx hb hX hbl hbA hS (i := 1) (ki_inl (by decide)) dL_law_560 ?_
  have hPc := hP.sub (ws' := [(m0, .inr (5, [.ref m_row, .int 0, .int 2, .int 0, .ref m_many, .ref m_loss, .ref m_less, .ref m_voteValue, .ref m_voteNumber, .ref m_allValue, .ref m_allNumber, .int 0, .ref m_nodeL, .ref m_nodeR, .int 0, .ref m_part, .int 0, .ref m_wasMany, .ref m_wasLoss, .ref m_wasValue, .ref m_wasNumber, .ref m_path, .int 0, .ref m_heavyValue, .ref m_heavyTimes, .int 0, .ref m_fewest, .ref m_which, .ref m_met, .int 0]))]) [7] rfl
  have hKc := hK.sub (tys' := []) [] rfl
  have hDc := hD.sub (ws' := [(m0, .inr (5, [.ref m_row, .int 0, .int 2, .int 0, .ref m_many, .ref m_loss, .ref m_less, .ref m_voteValue, .ref m_voteNumber, .ref m_allValue, .ref m_allNumber, .int 0, .ref m_nodeL, .ref m_nodeR, .int 0, .ref m_part, .int 0, .ref m_wasMany, .ref m_wasLoss, .ref m_wasValue, .ref m_wasNumber, .ref m_path, .int 0, .ref m_heavyValue, .ref m_heavyTimes, .int 0, .ref m_fewest, .ref m_which, .ref m_met, .int 0]))]) [7] (by decide) rfl
  have hFc := va_free (wc := [(m0, .inr (5, [.ref m_row, .int 0, .int 2, .int 0, .ref m_many, .ref m_loss, .ref m_less, .ref m_voteValue, .ref m_voteNumber, .ref m_allValue, .ref m_allNumber, .int 0, .ref m_nodeL, .ref m_nodeR, .int 0, .ref m_part, .int 0, .ref m_wasMany, .ref m_wasLoss, .ref m_wasValue, .ref m_wasNumber, .ref m_path, .int 0, .ref m_heavyValue, .ref m_heavyTimes, .int 0, .ref m_fewest, .ref m_which, .ref m_met, .int 0]))]) hD hS hA [7] rfl
  refine va_calli (va_runV (As := [.int (xs (1 : Int32).toNatClampNeg)]) (rest := []) ⟨hx, hb, hml, hown, (lwC_X5_at hts0)⟩ (c_X5_at l dC dI m0 m_row m_many m_loss m_less m_voteValue m_voteNumber m_allValue m_allNumber m_nodeL m_nodeR m_part m_wasMany m_wasLoss m_wasValue m_wasNumber m_path m_heavyValue m_heavyTimes m_fewest m_which m_met (xs (1 : Int32).toNatClampNeg) H.size) (cwV 1 (lwC_X5_at hts0) lwG_X5_at rfl rfl rfl (by decide +kernel) ⟨Nat.le_of_ble_eq_true rfl, Nat.le_of_ble_eq_true rfl⟩) ⟨fun a U g mk q => by obtain ⟨q0, q1, qP, qK, qD⟩ := q; exact ⟨q0, q1, qP, va_K.moved (u := U) (U := U.calling g mk a) (Vm.Alike.refl U.vm) qK, qD⟩, va_recv hKc hPc (ci := 5) (q0 := 0) rfl rfl, fun U hU hW => ⟨rfl, by rw [hU], by rw [hU]; exact hPc, va_K.moved hW.alike hKc, hDc.weaken (fun _ _ _ _ => trivial)⟩⟩ rfl rfl hl.1 rfl (lv_room (Nat.le_of_ble_eq_true rfl)) dL_law_561 ⟨Nat.le_of_ble_eq_true rfl, Nat.le_of_ble_eq_true rfl⟩) hS (fun q _ h => hFc q h) hFc (fun r_2 u t H1 locs ht hvm w_2 hB hz1 hk1 hS => ?_)
  obtain ⟨hP1, hK1, hD1⟩ := hB
  rw [ht] at hP1
  have hK1 := va_K.moved hvm.symm hK1
  obtain ⟨hP, hD⟩ := va_join (wr := [(x0, .inr (4, [.ref x_row, .ref x_tree, .ref x_tally, .ref x_votes, .ref x_otherVotes, .ref x_wins, .ref x_fewest, .int 2, .int 1])), (x_row, .inr (0, [.ref x_cell, .int 0])), (x_cell, .inl (cyI, 160, .inl fc)), (x_tree, .inr (2, [.ref x_row, .ref x_joined, .ref x_from, .ref x_to, .ref x_size, .ref x_lossOf, .ref x_lessBy, .ref x_tvalue, .ref x_tnumber, .int 0, .int 0])), (x_from, .inl (cyI, 319, .inl ff)), (x_to, .inl (cyI, 319, .inl ft)), (x_tally, .inr (1, [.ref x_kind, .ref x_often, .int 0, .int 0])), (m_row, .inl (cyI, 160, .inl fm))]) (w1 := [(m0, .inr (5, [.ref m_row, .int 0, .int 2, .int 1, .ref m_many, .ref m_loss, .ref m_less, .ref m_voteValue, .ref m_voteNumber, .ref m_allValue, .ref m_allNumber, .int 0, .ref m_nodeL, .ref m_nodeR, .int 0, .ref m_part, .int 0, .ref m_wasMany, .ref m_wasLoss, .ref m_wasValue, .ref m_wasNumber, .ref m_path, .int 0, .ref m_heavyValue, .ref m_heavyTimes, .int 0, .ref m_fewest, .ref m_which, .ref m_met, .int 0]))]) hP hD [7] [0, 1, 2, 3, 4, 5, 6, 8] rfl rfl (by decide) (by decide) hk1 hFc hP1 hD1
  clear hP1 hD1 hK1 hk1 hz1 hFc hDc hPc hKc
  generalize H1 = H at hP hS ⊢
  have hP : va_P (dC, dI) vwCl [(x0, .inr (4, [.ref x_row, .ref x_tree, .ref x_tally, .ref x_votes, .ref x_otherVotes, .ref x_wins, .ref x_fewest, .int 2, .int 1])), (x_row, .inr (0, [.ref x_cell, .int 0])), (x_cell, .inl (cyI, 160, .inl fc)), (x_tree, .inr (2, [.ref x_row, .ref x_joined, .ref x_from, .ref x_to, .ref x_size, .ref x_lossOf, .ref x_lessBy, .ref x_tvalue, .ref x_tnumber, .int 0, .int 0])), (x_from, .inl (cyI, 319, .inl ff)), (x_to, .inl (cyI, 319, .inl ft)), (x_tally, .inr (1, [.ref x_kind, .ref x_often, .int 0, .int 0])), (m_row, .inl (cyI, 160, .inl fm)), (m0, .inr (5, [.ref m_row, .int 0, .int 2, .int 1, .ref m_many, .ref m_loss, .ref m_less, .ref m_voteValue, .ref m_voteNumber, .ref m_allValue, .ref m_allNumber, .int 0, .ref m_nodeL, .ref m_nodeR, .int 0, .ref m_part, .int 0, .ref m_wasMany, .ref m_wasLoss, .ref m_wasValue, .ref m_wasNumber, .ref m_path, .int 0, .ref m_heavyValue, .ref m_heavyTimes, .int 0, .ref m_fewest, .ref m_which, .ref m_met, .int 0]))] H := hP
  have hD : va_D (fun q : Nat => s.heap.size ≤ q) [(x0, .inr (4, [.ref x_row, .ref x_tree, .ref x_tally, .ref x_votes, .ref x_otherVotes, .ref x_wins, .ref x_fewest, .int 2, .int 1])), (x_row, .inr (0, [.ref x_cell, .int 0])), (x_cell, .inl (cyI, 160, .inl fc)), (x_tree, .inr (2, [.ref x_row, .ref x_joined, .ref x_from, .ref x_to, .ref x_size, .ref x_lossOf, .ref x_lessBy, .ref x_tvalue, .ref x_tnumber, .int 0, .int 0])), (x_from, .inl (cyI, 319, .inl ff)), (x_to, .inl (cyI, 319, .inl ft)), (x_tally, .inr (1, [.ref x_kind, .ref x_often, .int 0, .int 0])), (m_row, .inl (cyI, 160, .inl fm)), (m0, .inr (5, [.ref m_row, .int 0, .int 2, .int 1, .ref m_many, .ref m_loss, .ref m_less, .ref m_voteValue, .ref m_voteNumber, .ref m_allValue, .ref m_allNumber, .int 0, .ref m_nodeL, .ref m_nodeR, .int 0, .ref m_part, .int 0, .ref m_wasMany, .ref m_wasLoss, .ref m_wasValue, .ref m_wasNumber, .ref m_path, .int 0, .ref m_heavyValue, .ref m_heavyTimes, .int 0, .ref m_fewest, .ref m_which, .ref m_met, .int 0]))] := hD
  subst w_2
  refine lv_istore (lv' := [(6, .int 0), (5, .int 1), (4, .int 0), (3, .ref q_o), (2, .ref m0), (1, .ref x0), (0, .ref b)]) hx hb dL_law_564 hl (by decide) rfl (fun ls hl => ?_)
  refine lv_aload_n hx hb dL_law_566 rfl (lv_at hl 4 rfl) ?_
  have hPc := hP.sub (ws' := [(m0, .inr (5, [.ref m_row, .int 0, .int 2, .int 1, .ref m_many, .ref m_loss, .ref m_less, .ref m_voteValue, .ref m_voteNumber, .ref m_allValue, .ref m_allNumber, .int 0, .ref m_nodeL, .ref m_nodeR, .int 0, .ref m_part, .int 0, .ref m_wasMany, .ref m_wasLoss, .ref m_wasValue, .ref m_wasNumber, .ref m_path, .int 0, .ref m_heavyValue, .ref m_heavyTimes, .int 0, .ref m_fewest, .ref m_which, .ref m_met, .int 0]))]) [8] rfl
  have hKc := hK.sub (tys' := []) [] rfl
  refine vp_callSi (W.runV (As := []) (rest := []) ⟨hx, hb, hml, hown, (lwC_X5_thrown hts0)⟩ (c_X5_thrown l dC dI m0 m_row m_many m_loss m_less m_voteValue m_voteNumber m_allValue m_allNumber m_nodeL m_nodeR m_part m_wasMany m_wasLoss m_wasValue m_wasNumber m_path m_heavyValue m_heavyTimes m_fewest m_which m_met 1) (cwV 0 (lwC_X5_thrown hts0) lwG_X5_thrown rfl rfl rfl (by decide +kernel) ⟨Nat.le_of_ble_eq_true rfl, Nat.le_of_ble_eq_true rfl⟩) ⟨fun a U g mk q => by obtain ⟨q0, qP, qK⟩ := q; exact ⟨q0, qP, va_K.moved (u := U) (U := U.calling g mk a) (Vm.Alike.refl U.vm) qK⟩, va_recv hKc hPc (ci := 5) (q0 := 0) rfl rfl, fun U hU hW => ⟨rfl, by rw [hU]; exact hPc, va_K.moved hW.alike hKc⟩⟩ rfl rfl hl.1 rfl (lv_room (Nat.le_of_ble_eq_true rfl)) dL_law_567 ⟨Nat.le_of_ble_eq_true rfl, Nat.le_of_ble_eq_true rfl⟩) (fun r_3 w_3 => ?_)
  subst w_3
  refine lv_iload hx hb dL_law_570 (lv_at hl 1 rfl) ?_
  refine lv_icmp_eq (tgt := 577) hx hb dL_law_572 (by decide) (fun c_4 => ?_) (fun c_4 => ?_)
  · refine lv_iload hx hb dL_law_577 (lv_at hl 1 rfl) ?_
    refine lv_if_ne (tgt := 594) hx hb dL_law_579 (by decide) (fun c_5 => ?_) (fun c_5 => ?_)
    · refine lv_goto (tgt := 2400) hx hb dL_law_594 (by decide) ?_
      refine W.widen (k := 100) (n := 30000) (Nat.le_of_ble_eq_true rfl) (Nat.le_of_ble_eq_true rfl) ?_
      exact lc_end C0 hS (lv_sub hl [2, 6] rfl)
    · exact absurd c_5 (by decide)
  · exact absurd c_4 (by decide)

set_option maxHeartbeats 4000000 in
set_option maxRecDepth 100000 in
theorem lc_10 {p : Program} {l : Launch} {e : Env} {s : State} {m : MethodId} {below : List Frame} {meth : Method} {c : Code} {dC : Nat → ClassId} {dI : Nat → Nat → Nat} {b : Nat} {xs : Nat → Int32} (hl0 : l.stackTraces = false) (C0 : lw_At p s m meth c b 8 xs) (hth : ki_Th s) {x0 x_row x_tree x_tally x_votes x_otherVotes x_wins x_fewest x_cell x_joined x_from x_to x_size x_lossOf x_lessBy x_tvalue x_tnumber x_kind x_often m0 m_row m_many m_loss m_less m_voteValue m_voteNumber m_allValue m_allNumber m_nodeL m_nodeR m_part m_wasMany m_wasLoss m_wasValue m_wasNumber m_path m_heavyValue m_heavyTimes m_fewest m_which m_met q_o : Nat} {cyI : ClassId} {fc ff ft fm : Nat → Int32} {H : Heap} {locs : List Loc} (hK : va_K (dC, dI) vwCl [(cyI, .int)] s) (hP : va_P (dC, dI) vwCl [(x0, .inr (4, [.ref x_row, .ref x_tree, .ref x_tally, .ref x_votes, .ref x_otherVotes, .ref x_wins, .ref x_fewest, .int 2, .int 1])), (x_row, .inr (0, [.ref x_cell, .int 0])), (x_cell, .inl (cyI, 160, .inl fc)), (x_tree, .inr (2, [.ref x_row, .ref x_joined, .ref x_from, .ref x_to, .ref x_size, .ref x_lossOf, .ref x_lessBy, .ref x_tvalue, .ref x_tnumber, .int 0, .int 0])), (x_from, .inl (cyI, 319, .inl ff)), (x_to, .inl (cyI, 319, .inl ft)), (x_tally, .inr (1, [.ref x_kind, .ref x_often, .int 0, .int 0])), (m0, .inr (5, [.ref m_row, .int 0, .int 2, .int 0, .ref m_many, .ref m_loss, .ref m_less, .ref m_voteValue, .ref m_voteNumber, .ref m_allValue, .ref m_allNumber, .int 0, .ref m_nodeL, .ref m_nodeR, .int 0, .ref m_part, .int 0, .ref m_wasMany, .ref m_wasLoss, .ref m_wasValue, .ref m_wasNumber, .ref m_path, .int 0, .ref m_heavyValue, .ref m_heavyTimes, .int 0, .ref m_fewest, .ref m_which, .ref m_met, .int 0])), (m_row, .inl (cyI, 160, .inl fm))] H) (hD : va_D (fun q : Nat => s.heap.size ≤ q) [(x0, .inr (4, [.ref x_row, .ref x_tree, .ref x_tally, .ref x_votes, .ref x_otherVotes, .ref x_wins, .ref x_fewest, .int 2, .int 1])), (x_row, .inr (0, [.ref x_cell, .int 0])), (x_cell, .inl (cyI, 160, .inl fc)), (x_tree, .inr (2, [.ref x_row, .ref x_joined, .ref x_from, .ref x_to, .ref x_size, .ref x_lossOf, .ref x_lessBy, .ref x_tvalue, .ref x_tnumber, .int 0, .int 0])), (x_from, .inl (cyI, 319, .inl ff)), (x_to, .inl (cyI, 319, .inl ft)), (x_tally, .inr (1, [.ref x_kind, .ref x_often, .int 0, .int 0])), (m0, .inr (5, [.ref m_row, .int 0, .int 2, .int 0, .ref m_many, .ref m_loss, .ref m_less, .ref m_voteValue, .ref m_voteNumber, .ref m_allValue, .ref m_allNumber, .int 0, .ref m_nodeL, .ref m_nodeR, .int 0, .ref m_part, .int 0, .ref m_wasMany, .ref m_wasLoss, .ref m_wasValue, .ref m_wasNumber, .ref m_path, .int 0, .ref m_heavyValue, .ref m_heavyTimes, .int 0, .ref m_fewest, .ref m_which, .ref m_met, .int 0])), (m_row, .inl (cyI, 160, .inl fm))]) (hS : va_S (fun q : Nat => s.heap.size ≤ q) s.heap H locs) {ls : Array Slot} (hl : lv_has ls 7 [(4, .int 0), (3, .ref q_o), (2, .ref m0), (1, .ref x0), (0, .ref b)]) : W p l e room_1 s m #[Value.ref b] below meth c H locs 60 20000 (lw_Z below #[Value.ref b] s) (F0 m 597 ls []) := by
  obtain ⟨hx, hb, hr, hml, hown, hts0, hX, hbl, hlocks, hgv⟩ := id C0
  have hts := hts0
  have hA : ∀ q : Nat, s.heap.size ≤ q → (fun q : Nat => s.heap.size ≤ q) q := fun _ h => h
  have hbA : ¬ (fun q : Nat => s.heap.size ≤ q) b := Nat.not_le.mpr hbl
  have hown : s.vm.findClass RL = some m.cls := hown
  have hb : c.code = cL_law := hb
  refine lv_aload_n hx hb dL_law_597 rfl (lv_at hl 3 rfl) ?_
  refine lv_aload_n hx hb dL_law_598 rfl (lv_at hl 4 rfl) ?_
  refine lv_iload hx hb dL_law_599 (lv_at hl 0 rfl) ?_
  refine lv_iconst (v := 1) hx hb dL_law_601 (by decide) ?_
  refine lv_iadd hx hb dL_law_602 ?_
  refine W.eq (g2 := F0 m 603 ls [.int 1, .ref b, .ref x0]) (by first | rfl | (congr 2; decide)) ?_
  refine va_sld hx hb hX hbl hbA hS (i := 1) (ki_inl (by decide)) dL_law_603 ?_
  refine lv_aload_n hx hb dL_law_604 rfl (lv_at hl 4 rfl) ?_
  refine lv_iload hx hb dL_law_605 (lv_at hl 0 rfl) ?_
  refine lv_iconst (v := 2) hx hb dL_law_607 (by decide) ?_
  refine lv_iadd hx hb dL_law_608 ?_
  refine W.eq (g2 := F0 m 609 ls [.int 2, .ref b, .int (xs (1 : Int32).toNatClampNeg), .ref x0]) (by first | rfl | (congr 2; decide)) ?_
  refine va_sld hx hb hX hbl hbA hS (i := 2) (ki_inl (by decide)) dL_law_609 ?_
  refine lv_aload_n hx hb dL_law_610 rfl (lv_at hl 4 rfl) ?_
  refine lv_iload hx hb dL_law_611 (lv_at hl 0 rfl) ?_
  refine lv_iconst (v := 3) hx hb dL_law_613 (by decide) ?_
  refine lv_iadd hx hb dL_law_614 ?_
  refine W.eq (g2 := F0 m 615 ls [.int 3, .ref b, .int (xs (2 : Int32).toNatClampNeg), .int (xs (1 : Int32).toNatClampNeg), .ref x0]) (by first | rfl | (congr 2; decide)) ?_
  refine va_sld hx hb hX hbl hbA hS (i := 3) (ki_inl (by decide)) dL_law_615 ?_
  have hPc := hP.sub (ws' := [(x0, .inr (4, [.ref x_row, .ref x_tree, .ref x_tally, .ref x_votes, .ref x_otherVotes, .ref x_wins, .ref x_fewest, .int 2, .int 1])), (x_row, .inr (0, [.ref x_cell, .int 0]))]) [0, 1] rfl
  have hKc := hK.sub (tys' := []) [] rfl
  refine vp_callSi (W.runV (As := [.int (xs (1 : Int32).toNatClampNeg), .int (xs (2 : Int32).toNatClampNeg), .int (xs (3 : Int32).toNatClampNeg)]) (rest := []) ⟨hx, hb, hml, hown, (lwC_X4_count hts0)⟩ (c_X4_count l dC dI x0 x_row x_tree x_tally x_votes x_otherVotes x_wins x_fewest x_cell (xs (1 : Int32).toNatClampNeg) (xs (2 : Int32).toNatClampNeg) (xs (3 : Int32).toNatClampNeg)) (cwV 3 (lwC_X4_count hts0) lwG_X4_count rfl rfl rfl (by decide +kernel) ⟨Nat.le_of_ble_eq_true rfl, Nat.le_of_ble_eq_true rfl⟩) ⟨fun a U g mk q => by obtain ⟨q0, qP, qK⟩ := q; exact ⟨q0, qP, va_K.moved (u := U) (U := U.calling g mk a) (Vm.Alike.refl U.vm) qK⟩, va_recv hKc hPc (ci := 4) (q0 := 0) rfl rfl, fun U hU hW => ⟨rfl, by rw [hU]; exact hPc, va_K.moved hW.alike hKc⟩⟩ rfl rfl hl.1 rfl (lv_room (Nat.le_of_ble_eq_true rfl)) dL_law_616 ⟨Nat.le_of_ble_eq_true rfl, Nat.le_of_ble_eq_true rfl⟩) (fun r_1 w_1 => ?_)
  subst w_1
  refine lv_aload_n hx hb dL_law_619 rfl (lv_at hl 2 rfl) ?_
  refine lv_aload_n hx hb dL_law_620 rfl (lv_at hl 4 rfl) ?_
  refine lv_iload hx hb dL_law_621 (lv_at hl 0 rfl) ?_
  refine lv_iconst (v := 1) hx hb dL_law_623 (by decide) ?_
  refine lv_iadd hx hb dL_law_624 ?_
  refine W.eq (g2 := F0 m 625 ls [.int 1, .ref b, .ref m0, .int (-1)]) (by first | rfl | (congr 2; decide)) ?_
  refine va_sld hx hb hX hbl hbA hS (i := 1) (ki_inl (by decide)) dL_law_625 ?_
  refine lv_aload_n hx hb dL_law_626 rfl (lv_at hl 4 rfl) ?_
  refine lv_iload hx hb dL_law_627 (lv_at hl 0 rfl) ?_
  refine lv_iconst (v := 2) hx hb dL_law_629 (by decide) ?_
  refine lv_iadd hx hb dL_law_630 ?_
  refine W.eq (g2 := F0 m 631 ls [.int 2, .ref b, .int (xs (1 : Int32).toNatClampNeg), .ref m0, .int (-1)]) (by first | rfl | (congr 2; decide)) ?_
  refine va_sld hx hb hX hbl hbA hS (i := 2) (ki_inl (by decide)) dL_law_631 ?_
  refine lv_aload_n hx hb dL_law_632 rfl (lv_at hl 4 rfl) ?_
  refine lv_iload hx hb dL_law_633 (lv_at hl 0 rfl) ?_
  refine lv_iconst (v := 3) hx hb dL_law_635 (by decide) ?_
  refine lv_iadd hx hb dL_law_636 ?_
  refine W.eq (g2 := F0 m 637 ls [.int 3, .ref b, .int (xs (2 : Int32).toNatClampNeg), .int (xs (1 : Int32).toNatClampNeg), .ref m0, .int (-1)]) (by first | rfl | (congr 2; decide)) ?_
  refine va_sld hx hb hX hbl hbA hS (i := 3) (ki_inl (by decide)) dL_law_637 ?_
  have hPc := hP.sub (ws' := [(m0, .inr (5, [.ref m_row, .int 0, .int 2, .int 0, .ref m_many, .ref m_loss, .ref m_less, .ref m_voteValue, .ref m_voteNumber, .ref m_allValue, .ref m_allNumber, .int 0, .ref m_nodeL, .ref m_nodeR, .int 0, .ref m_part, .int 0, .ref m_wasMany, .ref m_wasLoss, .ref m_wasValue, .ref m_wasNumber, .ref m_path, .int 0, .ref m_heavyValue, .ref m_heavyTimes, .int 0, .ref m_fewest, .ref m_which, .ref m_met, .int 0]))]) [7] rfl
  have hKc := hK.sub (tys' := []) [] rfl
  have hDc := hD.sub (ws' := [(m0, .inr (5, [.ref m_row, .int 0, .int 2, .int 0, .ref m_many, .ref m_loss, .ref m_less, .ref m_voteValue, .ref m_voteNumber, .ref m_allValue, .ref m_allNumber, .int 0, .ref m_nodeL, .ref m_nodeR, .int 0, .ref m_part, .int 0, .ref m_wasMany, .ref m_wasLoss, .ref m_wasValue, .ref m_wasNumber, .ref m_path, .int 0, .ref m_heavyValue, .ref m_heavyTimes, .int 0, .ref m_fewest, .ref m_which, .ref m_met, .int 0]))]) [7] (by decide) rfl
  have hFc := va_free (wc := [(m0, .inr (5, [.ref m_row, .int 0, .int 2, .int 0, .ref m_many, .ref m_loss, .ref m_less, .ref m_voteValue, .ref m_voteNumber, .ref m_allValue, .ref m_allNumber, .int 0, .ref m_nodeL, .ref m_nodeR, .int 0, .ref m_part, .int 0, .ref m_wasMany, .ref m_wasLoss, .ref m_wasValue, .ref m_wasNumber, .ref m_path, .int 0, .ref m_heavyValue, .ref m_heavyTimes, .int 0, .ref m_fewest, .ref m_which, .ref m_met, .int 0]))]) hD hS hA [7] rfl
  refine va_calli (va_runV (As := [.int (xs (1 : Int32).toNatClampNeg), .int (xs (2 : Int32).toNatClampNeg), .int (xs (3 : Int32).toNatClampNeg)]) (rest := [.int (-1)]) ⟨hx, hb, hml, hown, (lwC_X5_count hts0)⟩ (c_X5_count l dC dI m0 m_row m_many m_loss m_less m_voteValue m_voteNumber m_allValue m_allNumber m_nodeL m_nodeR m_part m_wasMany m_wasLoss m_wasValue m_wasNumber m_path m_heavyValue m_heavyTimes m_fewest m_which m_met (xs (1 : Int32).toNatClampNeg) (xs (2 : Int32).toNatClampNeg) (xs (3 : Int32).toNatClampNeg) H.size) (cwV 3 (lwC_X5_count hts0) lwG_X5_count rfl rfl rfl (by decide +kernel) ⟨Nat.le_of_ble_eq_true rfl, Nat.le_of_ble_eq_true rfl⟩) ⟨fun a U g mk q => by obtain ⟨q0, q1, qP, qK, qD⟩ := q; exact ⟨q0, q1, qP, va_K.moved (u := U) (U := U.calling g mk a) (Vm.Alike.refl U.vm) qK, qD⟩, va_recv hKc hPc (ci := 5) (q0 := 0) rfl rfl, fun U hU hW => ⟨rfl, by rw [hU], by rw [hU]; exact hPc, va_K.moved hW.alike hKc, hDc.weaken (fun _ _ _ _ => trivial)⟩⟩ rfl rfl hl.1 rfl (lv_room (Nat.le_of_ble_eq_true rfl)) dL_law_638 ⟨Nat.le_of_ble_eq_true rfl, Nat.le_of_ble_eq_true rfl⟩) hS (fun q _ h => hFc q h) hFc (fun r_2 u t H1 locs ht hvm w_2 hB hz1 hk1 hS => ?_)
  obtain ⟨hP1, hK1, hD1⟩ := hB
  rw [ht] at hP1
  have hK1 := va_K.moved hvm.symm hK1
  obtain ⟨hP, hD⟩ := va_join (wr := [(x0, .inr (4, [.ref x_row, .ref x_tree, .ref x_tally, .ref x_votes, .ref x_otherVotes, .ref x_wins, .ref x_fewest, .int 2, .int 1])), (x_row, .inr (0, [.ref x_cell, .int 0])), (x_cell, .inl (cyI, 160, .inl fc)), (x_tree, .inr (2, [.ref x_row, .ref x_joined, .ref x_from, .ref x_to, .ref x_size, .ref x_lossOf, .ref x_lessBy, .ref x_tvalue, .ref x_tnumber, .int 0, .int 0])), (x_from, .inl (cyI, 319, .inl ff)), (x_to, .inl (cyI, 319, .inl ft)), (x_tally, .inr (1, [.ref x_kind, .ref x_often, .int 0, .int 0])), (m_row, .inl (cyI, 160, .inl fm))]) (w1 := []) hP hD [7] [0, 1, 2, 3, 4, 5, 6, 8] rfl rfl (by decide) (by decide) hk1 hFc hP1 hD1
  clear hP1 hD1 hK1 hk1 hz1 hFc hDc hPc hKc
  generalize H1 = H at hP hS ⊢
  have hP : va_P (dC, dI) vwCl [(x0, .inr (4, [.ref x_row, .ref x_tree, .ref x_tally, .ref x_votes, .ref x_otherVotes, .ref x_wins, .ref x_fewest, .int 2, .int 1])), (x_row, .inr (0, [.ref x_cell, .int 0])), (x_cell, .inl (cyI, 160, .inl fc)), (x_tree, .inr (2, [.ref x_row, .ref x_joined, .ref x_from, .ref x_to, .ref x_size, .ref x_lossOf, .ref x_lessBy, .ref x_tvalue, .ref x_tnumber, .int 0, .int 0])), (x_from, .inl (cyI, 319, .inl ff)), (x_to, .inl (cyI, 319, .inl ft)), (x_tally, .inr (1, [.ref x_kind, .ref x_often, .int 0, .int 0])), (m_row, .inl (cyI, 160, .inl fm))] H := hP
  have hD : va_D (fun q : Nat => s.heap.size ≤ q) [(x0, .inr (4, [.ref x_row, .ref x_tree, .ref x_tally, .ref x_votes, .ref x_otherVotes, .ref x_wins, .ref x_fewest, .int 2, .int 1])), (x_row, .inr (0, [.ref x_cell, .int 0])), (x_cell, .inl (cyI, 160, .inl fc)), (x_tree, .inr (2, [.ref x_row, .ref x_joined, .ref x_from, .ref x_to, .ref x_size, .ref x_lossOf, .ref x_lessBy, .ref x_tvalue, .ref x_tnumber, .int 0, .int 0])), (x_from, .inl (cyI, 319, .inl ff)), (x_to, .inl (cyI, 319, .inl ft)), (x_tally, .inr (1, [.ref x_kind, .ref x_often, .int 0, .int 0])), (m_row, .inl (cyI, 160, .inl fm))] := hD
  subst w_2
  refine lv_icmp_eq (tgt := 2400) hx hb dL_law_641 (by decide) (fun c_3 => ?_) (fun c_3 => ?_)
  · refine W.widen (k := 100) (n := 30000) (Nat.le_of_ble_eq_true rfl) (Nat.le_of_ble_eq_true rfl) ?_
    exact lc_end C0 hS (lv_sub hl [0, 4] rfl)
  · exact absurd c_3 (by decide)
