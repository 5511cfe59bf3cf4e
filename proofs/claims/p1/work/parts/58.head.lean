set_option maxHeartbeats 4000000 in
set_option maxRecDepth 100000 in
theorem law_head {p : Program} {l : Launch} {e : Env} {s : State} {m : MethodId} {below : List Frame} {meth : Method} {c : Code} {dC : Nat → ClassId} {dI : Nat → Nat → Nat} {b : Nat} {xs : Nat → Int32} (hl0 : l.stackTraces = false) {L : Nat} (hL : L ≤ 8) (C0 : lw_At p s m meth c b L xs) (hth : ki_Th s) {x0 x_row x_tree x_tally x_votes x_otherVotes x_wins x_fewest x_cell x_joined x_from x_to x_size x_lossOf x_lessBy x_tvalue x_tnumber x_kind x_often m0 m_row m_many m_loss m_less m_voteValue m_voteNumber m_allValue m_allNumber m_nodeL m_nodeR m_part m_wasMany m_wasLoss m_wasValue m_wasNumber m_path m_heavyValue m_heavyTimes m_fewest m_which m_met q_o : Nat} {cyI : ClassId} {fc ff ft fm : Nat → Int32} {H : Heap} {locs : List Loc} (hK : va_K (dC, dI) vwCl [(cyI, .int)] s) (hP : va_P (dC, dI) vwCl [(x0, .inr (4, [.ref x_row, .ref x_tree, .ref x_tally, .ref x_votes, .ref x_otherVotes, .ref x_wins, .ref x_fewest, .int 2, .int 1])), (x_row, .inr (0, [.ref x_cell, .int 0])), (x_cell, .inl (cyI, 160, .inl fc)), (x_tree, .inr (2, [.ref x_row, .ref x_joined, .ref x_from, .ref x_to, .ref x_size, .ref x_lossOf, .ref x_lessBy, .ref x_tvalue, .ref x_tnumber, .int 0, .int 0])), (x_from, .inl (cyI, 319, .inl ff)), (x_to, .inl (cyI, 319, .inl ft)), (x_tally, .inr (1, [.ref x_kind, .ref x_often, .int 0, .int 0])), (m0, .inr (5, [.ref m_row, .int 0, .int 2, .int 0, .ref m_many, .ref m_loss, .ref m_less, .ref m_voteValue, .ref m_voteNumber, .ref m_allValue, .ref m_allNumber, .int 0, .ref m_nodeL, .ref m_nodeR, .int 0, .ref m_part, .int 0, .ref m_wasMany, .ref m_wasLoss, .ref m_wasValue, .ref m_wasNumber, .ref m_path, .int 0, .ref m_heavyValue, .ref m_heavyTimes, .int 0, .ref m_fewest, .ref m_which, .ref m_met, .int 0])), (m_row, .inl (cyI, 160, .inl fm))] H) (hD : va_D (fun q : Nat => s.heap.size ≤ q) [(x0, .inr (4, [.ref x_row, .ref x_tree, .ref x_tally, .ref x_votes, .ref x_otherVotes, .ref x_wins, .ref x_fewest, .int 2, .int 1])), (x_row, .inr (0, [.ref x_cell, .int 0])), (x_cell, .inl (cyI, 160, .inl fc)), (x_tree, .inr (2, [.ref x_row, .ref x_joined, .ref x_from, .ref x_to, .ref x_size, .ref x_lossOf, .ref x_lessBy, .ref x_tvalue, .ref x_tnumber, .int 0, .int 0])), (x_from, .inl (cyI, 319, .inl ff)), (x_to, .inl (cyI, 319, .inl ft)), (x_tally, .inr (1, [.ref x_kind, .ref x_often, .int 0, .int 0])), (m0, .inr (5, [.ref m_row, .int 0, .int 2, .int 0, .ref m_many, .ref m_loss, .ref m_less, .ref m_voteValue, .ref m_voteNumber, .ref m_allValue, .ref m_allNumber, .int 0, .ref m_nodeL, .ref m_nodeR, .int 0, .ref m_part, .int 0, .ref m_wasMany, .ref m_wasLoss, .ref m_wasValue, .ref m_wasNumber, .ref m_path, .int 0, .ref m_heavyValue, .ref m_heavyTimes, .int 0, .ref m_fewest, .ref m_which, .ref m_met, .int 0])), (m_row, .inl (cyI, 160, .inl fm))]) (hS : va_S (fun q : Nat => s.heap.size ≤ q) s.heap H locs) {ls : Array Slot} (hl : lv_has ls 7 [(4, .int 0), (3, .ref q_o), (2, .ref m0), (1, .ref x0), (0, .ref b)]) : W p l e room_1 s m #[Value.ref b] below meth c H locs 60 20000 (lw_Z below #[Value.ref b] s) (F0 m 23 ls []) := by
  obtain ⟨hx, hb, hr, hml, hown, hts0, hX, hbl, hlocks, hgv⟩ := id C0
  have hts := hts0
  have hA : ∀ q : Nat, s.heap.size ≤ q → (fun q : Nat => s.heap.size ≤ q) q := fun _ h => h
  have hbA : ¬ (fun q : Nat => s.heap.size ≤ q) b := Nat.not_le.mpr hbl
  have hown : s.vm.findClass RL = some m.cls := hown
  have hb : c.code = cL_law := hb
  rcases Nat.lt_or_ge L 8 with hlt | hge
  · refine lv_iload hx hb dL_law_23 (lv_at hl 0 rfl) ?_
    refine lv_aload_n hx hb dL_law_25 rfl (lv_at hl 4 rfl) ?_
    refine va_slen hx hb hX hbl hbA hS dL_law_26 ?_
    refine lv_bipush (v := 8) hx hb dL_law_27 (by decide) ?_
    refine lv_isub hx hb dL_law_29 ?_
    refine lv_icmp_gt (tgt := 2406) hx hb dL_law_30 (by decide) (fun c_9 => ?_) (fun c_9 => absurd (ki_L L hlt) c_9)
    refine lv_iconst (v := 1) hx hb dL_law_2406 (by decide) ?_
    refine va_forget (fun q hq => hS.2.2 q hq) ?_
    refine W.widen (k := 600002) (n := 7302232) (Nat.le_of_ble_eq_true rfl) (Nat.le_of_ble_eq_true rfl) ?_
    exact lw_ret hx hb hr hlocks dL_law_2407
  · obtain rfl : L = 8 := Nat.le_antisymm hL hge
    refine lv_iload hx hb dL_law_23 (lv_at hl 0 rfl) ?_
    refine lv_aload_n hx hb dL_law_25 rfl (lv_at hl 4 rfl) ?_
    refine va_slen hx hb hX hbl hbA hS dL_law_26 ?_
    refine lv_bipush (v := 8) hx hb dL_law_27 (by decide) ?_
    refine lv_isub hx hb dL_law_29 ?_
    refine lv_icmp_gt (tgt := 2406) hx hb dL_law_30 (by decide) (fun c_9 => absurd c_9 (by decide)) (fun c_9 => ?_)
    refine lv_aload_n hx hb dL_law_33 rfl (lv_at hl 4 rfl) ?_
    refine lv_iload hx hb dL_law_34 (lv_at hl 0 rfl) ?_
    refine va_sld hx hb hX hbl hbA hS (i := 0) (ki_inl (by decide)) dL_law_36 ?_
    refine lv_bipush (v := 63) hx hb dL_law_37 (by decide) ?_
    refine lv_iand hx hb dL_law_39 ?_
    refine lv_topi (fun y ey => ?_)
    by_cases hr9 : 0 ≤ y.toInt ∧ y.toInt ≤ 43
    · have h9 : y.toInt = 0 ∨ y.toInt = 1 ∨ y.toInt = 2 ∨ y.toInt = 3 ∨ y.toInt = 4 ∨ y.toInt = 5 ∨ y.toInt = 6 ∨ y.toInt = 7 ∨ y.toInt = 8 ∨ y.toInt = 9 ∨ y.toInt = 10 ∨ y.toInt = 11 ∨ y.toInt = 12 ∨ y.toInt = 13 ∨ y.toInt = 14 ∨ y.toInt = 15 ∨ y.toInt = 16 ∨ y.toInt = 17 ∨ y.toInt = 18 ∨ y.toInt = 19 ∨ y.toInt = 20 ∨ y.toInt = 21 ∨ y.toInt = 22 ∨ y.toInt = 23 ∨ y.toInt = 24 ∨ y.toInt = 25 ∨ y.toInt = 26 ∨ y.toInt = 27 ∨ y.toInt = 28 ∨ y.toInt = 29 ∨ y.toInt = 30 ∨ y.toInt = 31 ∨ y.toInt = 32 ∨ y.toInt = 33 ∨ y.toInt = 34 ∨ y.toInt = 35 ∨ y.toInt = 36 ∨ y.toInt = 37 ∨ y.toInt = 38 ∨ y.toInt = 39 ∨ y.toInt = 40 ∨ y.toInt = 41 ∨ y.toInt = 42 ∨ y.toInt = 43 := by omega
      rcases h9 with h9 | h9 | h9 | h9 | h9 | h9 | h9 | h9 | h9 | h9 | h9 | h9 | h9 | h9 | h9 | h9 | h9 | h9 | h9 | h9 | h9 | h9 | h9 | h9 | h9 | h9 | h9 | h9 | h9 | h9 | h9 | h9 | h9 | h9 | h9 | h9 | h9 | h9 | h9 | h9 | h9 | h9 | h9 | h9
      · refine lv_tableIn (tgt := 232) (off := 192) hx hb dL_law_40 (by omega) (by omega) (by rw [h9]; rfl) (by decide) ?_
        exact lc_0 hl0 C0 hth hK hP hD hS hl
      · refine lv_tableIn (tgt := 269) (off := 229) hx hb dL_law_40 (by omega) (by omega) (by rw [h9]; rfl) (by decide) ?_
        exact lc_1 hl0 C0 hth hK hP hD hS hl
      · refine lv_tableIn (tgt := 294) (off := 254) hx hb dL_law_40 (by omega) (by omega) (by rw [h9]; rfl) (by decide) ?_
        exact lc_2 hl0 C0 hth hK hP hD hS hl
      · refine lv_tableIn (tgt := 319) (off := 279) hx hb dL_law_40 (by omega) (by omega) (by rw [h9]; rfl) (by decide) ?_
        exact lc_3 hl0 C0 hth hK hP hD hS hl
      · refine lv_tableIn (tgt := 356) (off := 316) hx hb dL_law_40 (by omega) (by omega) (by rw [h9]; rfl) (by decide) ?_
        exact lc_4 hl0 C0 hth hK hP hD hS hl
      · refine lv_tableIn (tgt := 405) (off := 365) hx hb dL_law_40 (by omega) (by omega) (by rw [h9]; rfl) (by decide) ?_
        exact lc_5 hl0 C0 hth hK hP hD hS hl
      · refine lv_tableIn (tgt := 442) (off := 402) hx hb dL_law_40 (by omega) (by omega) (by rw [h9]; rfl) (by decide) ?_
        exact lc_6 hl0 C0 hth hK hP hD hS hl
      · refine lv_tableIn (tgt := 479) (off := 439) hx hb dL_law_40 (by omega) (by omega) (by rw [h9]; rfl) (by decide) ?_
        exact lc_7 hl0 C0 hth hK hP hD hS hl
      · refine lv_tableIn (tgt := 516) (off := 476) hx hb dL_law_40 (by omega) (by omega) (by rw [h9]; rfl) (by decide) ?_
        exact lc_8 hl0 C0 hth hK hP hD hS hl
      · refine lv_tableIn (tgt := 541) (off := 501) hx hb dL_law_40 (by omega) (by omega) (by rw [h9]; rfl) (by decide) ?_
        exact lc_9 hl0 C0 hth hK hP hD hS hl
      · refine lv_tableIn (tgt := 597) (off := 557) hx hb dL_law_40 (by omega) (by omega) (by rw [h9]; rfl) (by decide) ?_
        exact lc_10 hl0 C0 hth hK hP hD hS hl
      · refine lv_tableIn (tgt := 646) (off := 606) hx hb dL_law_40 (by omega) (by omega) (by rw [h9]; rfl) (by decide) ?_
        exact lc_11 hl0 C0 hth hK hP hD hS hl
      · refine lv_tableIn (tgt := 683) (off := 643) hx hb dL_law_40 (by omega) (by omega) (by rw [h9]; rfl) (by decide) ?_
        exact lc_12 hl0 C0 hth hK hP hD hS hl
      · refine lv_tableIn (tgt := 696) (off := 656) hx hb dL_law_40 (by omega) (by omega) (by rw [h9]; rfl) (by decide) ?_
        exact lc_13 hl0 C0 hth hK hP hD hS hl
      · refine lv_tableIn (tgt := 733) (off := 693) hx hb dL_law_40 (by omega) (by omega) (by rw [h9]; rfl) (by decide) ?_
        exact lc_14 hl0 C0 hth hK hP hD hS hl
      · refine lv_tableIn (tgt := 825) (off := 785) hx hb dL_law_40 (by omega) (by omega) (by rw [h9]; rfl) (by decide) ?_
        exact lc_15 hl0 C0 hth hK hP hD hS hl
      · refine lv_tableIn (tgt := 862) (off := 822) hx hb dL_law_40 (by omega) (by omega) (by rw [h9]; rfl) (by decide) ?_
        exact lc_16 hl0 C0 hth hK hP hD hS hl
      · refine lv_tableIn (tgt := 899) (off := 859) hx hb dL_law_40 (by omega) (by omega) (by rw [h9]; rfl) (by decide) ?_
        exact lc_17 hl0 C0 hth hK hP hD hS hl
      · refine lv_tableIn (tgt := 948) (off := 908) hx hb dL_law_40 (by omega) (by omega) (by rw [h9]; rfl) (by decide) ?_
        exact lc_18 hl0 C0 hth hK hP hD hS hl
      · refine lv_tableIn (tgt := 973) (off := 933) hx hb dL_law_40 (by omega) (by omega) (by rw [h9]; rfl) (by decide) ?_
        exact lc_19 hl0 C0 hth hK hP hD hS hl
      · refine lv_tableIn (tgt := 1010) (off := 970) hx hb dL_law_40 (by omega) (by omega) (by rw [h9]; rfl) (by decide) ?_
        exact lc_20 hl0 C0 hth hK hP hD hS hl
      · refine lv_tableIn (tgt := 1071) (off := 1031) hx hb dL_law_40 (by omega) (by omega) (by rw [h9]; rfl) (by decide) ?_
        exact lc_21 hl0 C0 hth hK hP hD hS hl
      · refine lv_tableIn (tgt := 1120) (off := 1080) hx hb dL_law_40 (by omega) (by omega) (by rw [h9]; rfl) (by decide) ?_
        exact lc_22 hl0 C0 hth hK hP hD hS hl
      · refine lv_tableIn (tgt := 1212) (off := 1172) hx hb dL_law_40 (by omega) (by omega) (by rw [h9]; rfl) (by decide) ?_
        exact lc_23 hl0 C0 hth hK hP hD hS hl
      · refine lv_tableIn (tgt := 1261) (off := 1221) hx hb dL_law_40 (by omega) (by omega) (by rw [h9]; rfl) (by decide) ?_
        exact lc_24 hl0 C0 hth hK hP hD hS hl
      · refine lv_tableIn (tgt := 1298) (off := 1258) hx hb dL_law_40 (by omega) (by omega) (by rw [h9]; rfl) (by decide) ?_
        exact lc_25 hl0 C0 hth hK hP hD hS hl
      · refine lv_tableIn (tgt := 1359) (off := 1319) hx hb dL_law_40 (by omega) (by omega) (by rw [h9]; rfl) (by decide) ?_
        exact lc_26 hl0 C0 hth hK hP hD hS hl
      · refine lv_tableIn (tgt := 1477) (off := 1437) hx hb dL_law_40 (by omega) (by omega) (by rw [h9]; rfl) (by decide) ?_
        exact lc_27 hl0 C0 hth hK hP hD hS hl
      · refine lv_tableIn (tgt := 1538) (off := 1498) hx hb dL_law_40 (by omega) (by omega) (by rw [h9]; rfl) (by decide) ?_
        exact lc_28 hl0 C0 hth hK hP hD hS hl
      · refine lv_tableIn (tgt := 1599) (off := 1559) hx hb dL_law_40 (by omega) (by omega) (by rw [h9]; rfl) (by decide) ?_
        exact lc_29 hl0 C0 hth hK hP hD hS hl
      · refine lv_tableIn (tgt := 1636) (off := 1596) hx hb dL_law_40 (by omega) (by omega) (by rw [h9]; rfl) (by decide) ?_
        exact lc_30 hl0 C0 hth hK hP hD hS hl
      · refine lv_tableIn (tgt := 1685) (off := 1645) hx hb dL_law_40 (by omega) (by omega) (by rw [h9]; rfl) (by decide) ?_
        exact lc_31 hl0 C0 hth hK hP hD hS hl
      · refine lv_tableIn (tgt := 1772) (off := 1732) hx hb dL_law_40 (by omega) (by omega) (by rw [h9]; rfl) (by decide) ?_
        exact lc_32 hl0 C0 hth hK hP hD hS hl
      · refine lv_tableIn (tgt := 1873) (off := 1833) hx hb dL_law_40 (by omega) (by omega) (by rw [h9]; rfl) (by decide) ?_
        exact lc_33 hl0 C0 hth hK hP hD hS hl
      · refine lv_tableIn (tgt := 1934) (off := 1894) hx hb dL_law_40 (by omega) (by omega) (by rw [h9]; rfl) (by decide) ?_
        exact lc_34 hl0 C0 hth hK hP hD hS hl
      · refine lv_tableIn (tgt := 1959) (off := 1919) hx hb dL_law_40 (by omega) (by omega) (by rw [h9]; rfl) (by decide) ?_
        exact lc_35 hl0 C0 hth hK hP hD hS hl
      · refine lv_tableIn (tgt := 1996) (off := 1956) hx hb dL_law_40 (by omega) (by omega) (by rw [h9]; rfl) (by decide) ?_
        exact lc_36 hl0 C0 hth hK hP hD hS hl
      · refine lv_tableIn (tgt := 2033) (off := 1993) hx hb dL_law_40 (by omega) (by omega) (by rw [h9]; rfl) (by decide) ?_
        exact lc_37 hl0 C0 hth hK hP hD hS hl
      · refine lv_tableIn (tgt := 2046) (off := 2006) hx hb dL_law_40 (by omega) (by omega) (by rw [h9]; rfl) (by decide) ?_
        exact lc_38 hl0 C0 hth hK hP hD hS hl
      · refine lv_tableIn (tgt := 2107) (off := 2067) hx hb dL_law_40 (by omega) (by omega) (by rw [h9]; rfl) (by decide) ?_
        exact lc_39 hl0 C0 hth hK hP hD hS hl
      · refine lv_tableIn (tgt := 2180) (off := 2140) hx hb dL_law_40 (by omega) (by omega) (by rw [h9]; rfl) (by decide) ?_
        exact lc_40 hl0 C0 hth hK hP hD hS hl
      · refine lv_tableIn (tgt := 2253) (off := 2213) hx hb dL_law_40 (by omega) (by omega) (by rw [h9]; rfl) (by decide) ?_
        exact lc_41 hl0 C0 hth hK hP hD hS hl
      · refine lv_tableIn (tgt := 2314) (off := 2274) hx hb dL_law_40 (by omega) (by omega) (by rw [h9]; rfl) (by decide) ?_
        exact lc_42 hl0 C0 hth hK hP hD hS hl
      · refine lv_tableIn (tgt := 2375) (off := 2335) hx hb dL_law_40 (by omega) (by omega) (by rw [h9]; rfl) (by decide) ?_
        exact lc_43 hl0 C0 hth hK hP hD hS hl
    · refine lv_tableOut (tgt := 2400) hx hb dL_law_40 (by omega) (by decide) ?_
      refine W.widen (k := 100) (n := 30000) (Nat.le_of_ble_eq_true rfl) (Nat.le_of_ble_eq_true rfl) ?_
      exact lc_end C0 hS (lv_sub hl [0, 4] rfl)
