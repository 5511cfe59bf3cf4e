
abbrev EXN : String := "java/util/NoSuchElementException"
abbrev EXC : List String := ["java/lang/RuntimeException", "java/lang/Exception"]
abbrev EXD : List Cond := [.declares (Bundle.init0 "java/lang/RuntimeException"), .declares (Bundle.init0 "java/lang/Exception"), .declares (Bundle.init0 Bundle.tN), .castable EXN EXN]
def ki_Th (U : State) : Prop := (va_Nw (.castable EXN EXN) U ∧ va_Nw (.declares (Bundle.init0 "java/lang/RuntimeException")) U ∧ va_Nw (.declares (Bundle.init0 "java/lang/Exception")) U ∧ va_Nw (.declares (Bundle.init0 Bundle.tN)) U) ∧ vx_Zq Bundle.tN "UNASSIGNED_STACK" Bundle.steD (fun q => U.heap.size ≤ q) U U.heap ∧ vx_Zq Bundle.tN "SUPPRESSED_SENTINEL" Bundle.listD (fun q => U.heap.size ≤ q) U U.heap
theorem ki_Th.call {U : State} (h : ki_Th U) (g : JFrame) (mk : MethodId) (a : Array Value) : ki_Th (U.calling g mk a) :=
  ⟨⟨va_Nw.same (u := U) (U := U.calling g mk a) rfl rfl h.1.1, va_Nw.same (u := U) (U := U.calling g mk a) rfl rfl h.1.2.1, va_Nw.same (u := U) (U := U.calling g mk a) rfl rfl h.1.2.2.1, va_Nw.same (u := U) (U := U.calling g mk a) rfl rfl h.1.2.2.2⟩, vx_Zq.moved (u := U) (U := U.calling g mk a) (Vm.Alike.refl U.vm) h.2.1, vx_Zq.moved (u := U) (U := U.calling g mk a) (Vm.Alike.refl U.vm) h.2.2⟩
theorem ki_Th.from {s U : State} {H : Heap} {locs : List Loc} (h : ki_Th s) (hS : va_S (fun q => s.heap.size ≤ q) s.heap H locs) (hU : U.heap = H) (hW : s.WarmedH U.vm) : ki_Th U := by
  subst hU
  refine ⟨⟨va_Nw.warmC hW h.1.1, va_Nw.warmD hW h.1.2.1, va_Nw.warmD hW h.1.2.2.1, va_Nw.warmD hW h.1.2.2.2⟩, ?_, ?_⟩
  · exact vx_Zq.moved hW.alike ((h.2.1.kept (fun a h1 h2 => hS.2.1 a h1 h2)).narrow (fun q hq => Nat.le_trans hS.1 hq))
  · exact vx_Zq.moved hW.alike ((h.2.2.kept (fun a h1 h2 => hS.2.1 a h1 h2)).narrow (fun q hq => Nat.le_trans hS.1 hq))
theorem ki_ex {args : Array Value} {s : State} (h : ki_Th s) : ∀ w ∈ EXD, w.before args s = true := vx_c (va_Nw.use rfl h.1.2.1) (vx_c (va_Nw.use rfl h.1.2.2.1) (vx_c (va_Nw.use rfl h.1.2.2.2) (vx_c (va_Nw.use rfl h.1.1) vx_n)))
theorem ki_bad : ∀ w ∈ (vx_at0 RX4 109 EXN EXC).filter (fun w => !goodWord w), w ∈ EXD := by decide +kernel
theorem ki_ot : ∀ w ∈ Cond.classLink RX4 107 EXN :: Cond.initialized EXN :: vx_at0 RX4 109 EXN EXC, vx_ot w = true := by decide +kernel
theorem ki_ints {args : Array Value} {s : State} {D : va_G} {cl : List vw_C} (h : (Cond.arrayClass .int).before args s = true) (hK : va_K D cl [] s) : ∃ cA : ClassId, va_K D cl [(cA, .int)] s := by
  obtain ⟨cA, kA, comp, h1, h2, h3⟩ := Cond.arrayClass_spec h
  refine ⟨cA, hK.1, fun k q hq => ?_⟩
  have hz : k < 1 := (List.getElem?_eq_some_iff.mp hq).1
  rw [show k = 0 by omega] at hq
  cases hq
  exact ⟨fun n z => ⟨fun k h => (by cases h), kA, h2, comp, h3⟩, h1⟩

set_option maxHeartbeats 4000000 in
set_option maxRecDepth 100000 in
/-- at throws on a fresh object -/
theorem c_X4_at (l : Launch) (hl0 : l.stackTraces = false) (dC : Nat → ClassId) (dI : Nat → Nat → Nat) (h0 : Nat) (h_row : Nat) (h_tree : Nat) (h_tally : Nat) (h_votes : Nat) (h_otherVotes : Nat) (h_wins : Nat) (h_fewest : Nat) (h_cell : Nat) (p0 : Int32) : vx_Met l yX4_at wsX4_at ({ frames := 8, cells := 1, slots := 6, locals := 360 }) (va_Pc [.ref h0, .int p0] (fun U => va_P (dC, dI) vwCl [(h0, .inr (4, [.ref h_row, .ref h_tree, .ref h_tally, .ref h_votes, .ref h_otherVotes, .ref h_wins, .ref h_fewest, .int 2, .int 1])), (h_row, .inr (0, [.ref h_cell, .int 0]))] U.heap ∧ va_K (dC, dI) vwCl [] U ∧ ki_Th U)) (va_Qi (fun (_ : Int32) (_ : Unit) => False) (fun _ _ => True) (fun _ => False)) (vx_X (fun _ : Unit => True) (fun E _ _ => E = EXN) (fun _ => False)) 1 6 (fun _ => False) := by
  refine vx_ofW (cc := cX4_at) (maxL := 2) (ret := (some .int)) (by decide) rfl ?_
  intro p e s m args below meth c s₁ B hml htab hv
  obtain ⟨rfl, hP, hK, hth⟩ := hv
  have hx := B.exec
  have hb := B.bytes
  have hr := B.returns
  have hts := atoms_spec (ws := wsX4_at) B.pre
  have hown : s.vm.findClass RX4 = some m.cls := findClass_of_methodNamed B.named
  have hlocks := B.notSynchronized
  have hat : ∀ w ∈ vx_at0 RX4 109 EXN EXC, w.before _ s = true := vx_hat (B := EXD) (fun w h => hts w (List.mem_cons_of_mem _ (List.mem_append_right _ h))) ki_bad (ki_ex hth)
  have hP : va_P (dC, dI) vwCl [(h0, .inr (4, [.ref h_row, .ref h_tree, .ref h_tally, .ref h_votes, .ref h_otherVotes, .ref h_wins, .ref h_fewest, .int 2, .int 1])), (h_row, .inr (0, [.ref h_cell, .int 0]))] s.heap := hP
  have hl := lv_entry ([.ref h0, .int p0]) (n := 2) (Nat.le_of_ble_eq_true rfl)
  rw [lg_entry_eq]
  generalize (lg_sl ([.ref h0, .int p0]) ++ List.replicate (2 - (lg_sl ([.ref h0, .int p0])).length) Slot.unset).toArray = ls at hl ⊢
  have hl : lv_has ls 2 [(0, .ref h0), (1, .int p0)] := hl
  have hf_12 := hts (.fieldLink RX4 12 "MajorityIndex" "row" "LMajorityIndex$Row;") (by decide +kernel)
  have hi_4 : ∀ w ∈ u_ws RX4 TX4 9, w ∈ wsX4_at := by decide +kernel
  have hc_107 := hts (.classLink RX4 107 EXN) (by decide +kernel)
  have hz_ex := hts (.initialized EXN) (by decide +kernel)
  refine lv_aload_n hx hb dX4_at_0 rfl (lv_at hl 0 rfl) ?_
  refine va_get (D := (dC, dI)) (ci := 4) (v := .ref h_row) (C := RX4) (T := TX4) (N := 9) hx hb hts hi_4 hown hK hP 0 rfl rfl 0 (by decide) hf_12 (fun _ h9 => h9) rfl dX4_at_1 ?_
  refine lv_iload_n hx hb dX4_at_4 rfl (lv_at hl 1 rfl) ?_
  have hPc := hP.sub (ws' := [(h_row, .inr (0, [.ref h_cell, .int 0]))]) [1] rfl
  have hKc := hK.sub (tys' := []) [] rfl
  refine vp_callSi (W.runV (As := [.int p0]) (rest := []) ⟨hx, hb, hml, hown, hts⟩ (c_X0_hasPlace l dC dI h_row h_cell 0 p0) (cwV 1 hts gX4_at_X0_hasPlace rfl rfl rfl (by decide +kernel) ⟨Nat.le_of_ble_eq_true rfl, Nat.le_of_ble_eq_true rfl⟩) ⟨fun a U g mk q => by obtain ⟨q0, qP, qK⟩ := q; exact ⟨q0, qP, va_K.moved (u := U) (U := U.calling g mk a) (Vm.Alike.refl U.vm) qK⟩, va_recv hKc hPc (ci := 0) (q0 := 0) rfl rfl, fun U hU hW => ⟨rfl, by rw [hU]; exact hPc, va_K.moved hW.alike hKc⟩⟩ rfl rfl hl.1 rfl (lv_room (Nat.le_of_ble_eq_true rfl)) dX4_at_5 ⟨Nat.le_of_ble_eq_true rfl, Nat.le_of_ble_eq_true rfl⟩) (fun r_1 w_1 => ?_)
  rcases w_1 with ⟨rfl, w_1⟩ | ⟨rfl, w_1⟩
  · have w_1 : (0 ≤ p0.toInt ∧ p0.toInt < 0) := w_1
    exfalso; omega
  · have w_1 : (p0.toInt < 0 ∨ 0 ≤ p0.toInt) := w_1
    refine lv_if_ne (tgt := 19) hx hb dX4_at_8 (by decide) (fun c_2 => ?_) (fun c_2 => ?_)
    · exact absurd c_2 (by decide)
    · exact vx_throw0 (names := EXC) hx hb hl0 hown (by decide +kernel) (by decide +kernel) hc_107 hz_ex hat ki_ot hth.2.1 hth.2.2 va_S.rf (hl.1.trans hml.symm) dX4_at_11 dX4_at_14 dX4_at_15 dX4_at_18 (fun x h => (htab x h).elim) (Nat.le_of_ble_eq_true rfl) (Nat.le_of_ble_eq_true rfl) (Nat.le_of_ble_eq_true rfl) (Nat.le_of_ble_eq_true rfl) hlocks (fun t ha hz hk => ⟨(), trivial, rfl, hz, fun q hq _ => hk q hq⟩) (fun z hz => by cases hz) (Nat.le_refl _) (Nat.le_refl _)

set_option maxHeartbeats 4000000 in
set_option maxRecDepth 100000 in
theorem c_L_at (l : Launch) (hl0 : l.stackTraces = false) (dC : Nat → ClassId) (dI : Nat → Nat → Nat) (h0 : Nat) (h_row : Nat) (h_tree : Nat) (h_tally : Nat) (h_votes : Nat) (h_otherVotes : Nat) (h_wins : Nat) (h_fewest : Nat) (h_cell : Nat) (p0 : Int32) (ho : Nat) : Met l yL_at wsL_at ({ frames := 9, cells := 1, slots := 6, locals := 420 }) (va_Pc [.ref h0, .int p0, .ref ho] (fun U => va_P (dC, dI) vwCl [(h0, .inr (4, [.ref h_row, .ref h_tree, .ref h_tally, .ref h_votes, .ref h_otherVotes, .ref h_wins, .ref h_fewest, .int 2, .int 1])), (h_row, .inr (0, [.ref h_cell, .int 0]))] U.heap ∧ va_K (dC, dI) vwCl [] U ∧ ki_Th U)) (va_Qi (fun (r : Int32) (_ : Unit) => r = 1) (fun _ _ => True) (fun _ => False)) 1 6 (fun _ => False) := by
  refine va_MetW (cc := cL_at) (maxL := 4) (ret := (some .int)) (hh := [(0, 9, 12, 13)]) (by decide) rfl ?_
  intro p e s m args below meth c s₁ B hml hv
  obtain ⟨rfl, hP, hK, hth⟩ := hv
  have hx := B.exec
  have hb := B.bytes
  have hr := B.returns
  have hts := atoms_spec (ws := wsL_at) B.pre
  have hown : s.vm.findClass RL = some m.cls := findClass_of_methodNamed B.named
  have hlocks := B.notSynchronized
  have hS : va_S (fun _ => False) s.heap s.heap [] := va_S.rf
  have htb : c.exceptionTable.toList = tableOf [(0, 9, 12, 13)] := vx_table (x := yL_at) B (hts (.codeWith yL_at cL_at 4 (some .int) [(0, 9, 12, 13)]) List.mem_cons_self)
  have hl := lv_entry ([.ref h0, .int p0, .ref ho]) (n := 4) (Nat.le_of_ble_eq_true rfl)
  rw [lg_entry_eq]
  generalize (lg_sl ([.ref h0, .int p0, .ref ho]) ++ List.replicate (4 - (lg_sl ([.ref h0, .int p0, .ref ho])).length) Slot.unset).toArray = ls at hl ⊢
  have hl : lv_has ls 4 [(0, .ref h0), (1, .int p0), (2, .ref ho)] := hl
  refine lv_aload_n hx hb dL_at_0 rfl (lv_at hl 2 rfl) ?_
  refine lv_iconst (v := 0) hx hb dL_at_1 (by decide) ?_
  refine lv_aload_n hx hb dL_at_2 rfl (lv_at hl 0 rfl) ?_
  refine lv_iload_n hx hb dL_at_3 rfl (lv_at hl 1 rfl) ?_
  refine vx_calli (vx_runV (As := [.int p0]) (rest := [.int 0, .ref ho]) ⟨hx, hb, hml, hown, hts⟩ (c_X4_at l hl0 dC dI h0 h_row h_tree h_tally h_votes h_otherVotes h_wins h_fewest h_cell p0) (cwV 1 hts gL_at_X4_at rfl rfl rfl (by decide +kernel) ⟨Nat.le_of_ble_eq_true rfl, Nat.le_of_ble_eq_true rfl⟩) ⟨fun a U g mk q => by obtain ⟨q0, qP, qK, qT⟩ := q; exact ⟨q0, qP, va_K.moved (u := U) (U := U.calling g mk a) (Vm.Alike.refl U.vm) qK, qT.call g mk a⟩, va_recv hK hP (ci := 4) (q0 := 0) rfl rfl, fun U hU hW => ⟨rfl, by rw [hU]; exact hP, va_K.moved hW.alike hK, hth.from va_S.rf hU hW⟩⟩ rfl rfl hl.1 rfl (lv_room (Nat.le_of_ble_eq_true rfl)) dL_at_4 ⟨Nat.le_of_ble_eq_true rfl, Nat.le_of_ble_eq_true rfl⟩) hS (fun q _ h => h.elim) (fun q h => h) (fun q _ h => h.elim) (fun E ce q9 u t H1 locs1 ht hvm hpx hBX hz hk hS1 hce hcv hcl => ?_) (fun r u t H1 locs1 ht hvm hp hB hz hk hS1 => hp.elim)
  subst hBX
  refine vx_catch hown [] ⟨0, 9, 12, 13⟩ [] htb (fun z hz => by cases hz) (by decide) (by decide) (hts (.classLink RL 13 EXN) (by decide +kernel)) (va_Nw.use rfl hth.1.1) hce hcv hcl ?_
  refine W.eq (g2 := F0 m 12 ls [.ref q9]) rfl ?_
  refine lv_astore_n (lv' := [(3, .ref q9), (0, .ref h0), (1, .int p0), (2, .ref ho)]) hx hb dL_at_12 rfl hl (by decide) rfl (fun ls hl => ?_)
  refine lv_iconst (v := 1) hx hb dL_at_13 (by decide) ?_
  exact W.iret (v := 1) hx hb hr (fun t ht hW => ⟨⟨1, (), rfl, rfl, trivial⟩, by rw [ht]; exact hz, fun q h1 h2 => by rw [ht]; exact hk q h1 h2⟩) (fun q hq => hS1.2.2 q hq) dL_at_14

set_option maxHeartbeats 4000000 in
set_option maxRecDepth 100000 in
/-- vote throws on a fresh object -/
theorem c_X4_vote (l : Launch) (hl0 : l.stackTraces = false) (dC : Nat → ClassId) (dI : Nat → Nat → Nat) (h0 : Nat) (h_row : Nat) (h_tree : Nat) (h_tally : Nat) (h_votes : Nat) (h_otherVotes : Nat) (h_wins : Nat) (h_fewest : Nat) (h_cell : Nat) (p0 : Int32) (p1 : Int32) (p2 : Int32) (p3 : Int32) : vx_Met l yX4_vote wsX4_vote ({ frames := 8, cells := 1, slots := 6, locals := 360 }) (va_Pc [.ref h0, .int p0, .int p1, .int p2, .int p3] (fun U => va_P (dC, dI) vwCl [(h0, .inr (4, [.ref h_row, .ref h_tree, .ref h_tally, .ref h_votes, .ref h_otherVotes, .ref h_wins, .ref h_fewest, .int 2, .int 1])), (h_row, .inr (0, [.ref h_cell, .int 0]))] U.heap ∧ va_K (dC, dI) vwCl [] U ∧ ki_Th U)) (va_Qi (fun (_ : Int32) (_ : Unit) => False) (fun _ _ => True) (fun _ => False)) (vx_X (fun _ : Unit => True) (fun E _ _ => E = EXN) (fun _ => False)) 1 6 (fun _ => False) := by
  refine vx_ofW (cc := cX4_vote) (maxL := 7) (ret := (some .int)) (by decide) rfl ?_
  intro p e s m args below meth c s₁ B hml htab hv
  obtain ⟨rfl, hP, hK, hth⟩ := hv
  have hx := B.exec
  have hb := B.bytes
  have hr := B.returns
  have hts := atoms_spec (ws := wsX4_vote) B.pre
  have hown : s.vm.findClass RX4 = some m.cls := findClass_of_methodNamed B.named
  have hlocks := B.notSynchronized
  have hat : ∀ w ∈ vx_at0 RX4 109 EXN EXC, w.before _ s = true := vx_hat (B := EXD) (fun w h => hts w (List.mem_cons_of_mem _ (List.mem_append_right _ h))) ki_bad (ki_ex hth)
  have hP : va_P (dC, dI) vwCl [(h0, .inr (4, [.ref h_row, .ref h_tree, .ref h_tally, .ref h_votes, .ref h_otherVotes, .ref h_wins, .ref h_fewest, .int 2, .int 1])), (h_row, .inr (0, [.ref h_cell, .int 0]))] s.heap := hP
  have hl := lv_entry ([.ref h0, .int p0, .int p1, .int p2, .int p3]) (n := 7) (Nat.le_of_ble_eq_true rfl)
  rw [lg_entry_eq]
  generalize (lg_sl ([.ref h0, .int p0, .int p1, .int p2, .int p3]) ++ List.replicate (7 - (lg_sl ([.ref h0, .int p0, .int p1, .int p2, .int p3])).length) Slot.unset).toArray = ls at hl ⊢
  have hl : lv_has ls 7 [(0, .ref h0), (1, .int p0), (2, .int p1), (3, .int p2), (4, .int p3)] := hl
  have hf_12 := hts (.fieldLink RX4 12 "MajorityIndex" "row" "LMajorityIndex$Row;") (by decide +kernel)
  have hi_4 : ∀ w ∈ u_ws RX4 TX4 9, w ∈ wsX4_vote := by decide +kernel
  have hc_107 := hts (.classLink RX4 107 EXN) (by decide +kernel)
  have hz_ex := hts (.initialized EXN) (by decide +kernel)
  refine lv_aload_n hx hb dX4_vote_0 rfl (lv_at hl 0 rfl) ?_
  refine va_get (D := (dC, dI)) (ci := 4) (v := .ref h_row) (C := RX4) (T := TX4) (N := 9) hx hb hts hi_4 hown hK hP 0 rfl rfl 0 (by decide) hf_12 (fun _ h9 => h9) rfl dX4_vote_1 ?_
  refine lv_iload_n hx hb dX4_vote_4 rfl (lv_at hl 1 rfl) ?_
  refine lv_iload_n hx hb dX4_vote_5 rfl (lv_at hl 2 rfl) ?_
  have hPc := hP.sub (ws' := [(h_row, .inr (0, [.ref h_cell, .int 0]))]) [1] rfl
  have hKc := hK.sub (tys' := []) [] rfl
  refine vp_callSi (W.runV (As := [.int p0, .int p1]) (rest := []) ⟨hx, hb, hml, hown, hts⟩ (c_X0_hasRange l dC dI h_row h_cell 0 p0 p1) (cwV 2 hts gX4_vote_X0_hasRange rfl rfl rfl (by decide +kernel) ⟨Nat.le_of_ble_eq_true rfl, Nat.le_of_ble_eq_true rfl⟩) ⟨fun a U g mk q => by obtain ⟨q0, qP, qK⟩ := q; exact ⟨q0, qP, va_K.moved (u := U) (U := U.calling g mk a) (Vm.Alike.refl U.vm) qK⟩, va_recv hKc hPc (ci := 0) (q0 := 0) rfl rfl, fun U hU hW => ⟨rfl, by rw [hU]; exact hPc, va_K.moved hW.alike hKc⟩⟩ rfl rfl hl.1 rfl (lv_room (Nat.le_of_ble_eq_true rfl)) dX4_vote_6 ⟨Nat.le_of_ble_eq_true rfl, Nat.le_of_ble_eq_true rfl⟩) (fun r_1 w_1 => ?_)
  rcases w_1 with ⟨rfl, w_1⟩ | ⟨rfl, w_1⟩
  · have w_1 : (0 ≤ p0.toInt ∧ p0.toInt < p1.toInt ∧ p1.toInt ≤ 0) := w_1
    exfalso; omega
  · have w_1 : (p0.toInt < 0 ∨ p1.toInt ≤ p0.toInt ∨ 0 < p1.toInt) := w_1
    refine lv_if_eq (tgt := 23) hx hb dX4_vote_9 (by decide) (fun c_2 => ?_) (fun c_2 => ?_)
    · exact vx_throw0 (names := EXC) hx hb hl0 hown (by decide +kernel) (by decide +kernel) hc_107 hz_ex hat ki_ot hth.2.1 hth.2.2 va_S.rf (hl.1.trans hml.symm) dX4_vote_23 dX4_vote_26 dX4_vote_27 dX4_vote_30 (fun x h => (htab x h).elim) (Nat.le_of_ble_eq_true rfl) (Nat.le_of_ble_eq_true rfl) (Nat.le_of_ble_eq_true rfl) (Nat.le_of_ble_eq_true rfl) hlocks (fun t ha hz hk => ⟨(), trivial, rfl, hz, fun q hq _ => hk q hq⟩) (fun z hz => by cases hz) (Nat.le_refl _) (Nat.le_refl _)
    · exact absurd c_2 (by decide)

set_option maxHeartbeats 4000000 in
set_option maxRecDepth 100000 in
theorem c_L_vote (l : Launch) (hl0 : l.stackTraces = false) (dC : Nat → ClassId) (dI : Nat → Nat → Nat) (h0 : Nat) (h_row : Nat) (h_tree : Nat) (h_tally : Nat) (h_votes : Nat) (h_otherVotes : Nat) (h_wins : Nat) (h_fewest : Nat) (h_cell : Nat) (p0 : Int32) (p1 : Int32) (p2 : Int32) (p3 : Int32) (ho : Nat) : Met l yL_vote wsL_vote ({ frames := 9, cells := 1, slots := 6, locals := 420 }) (va_Pc [.ref h0, .int p0, .int p1, .int p2, .int p3, .ref ho] (fun U => va_P (dC, dI) vwCl [(h0, .inr (4, [.ref h_row, .ref h_tree, .ref h_tally, .ref h_votes, .ref h_otherVotes, .ref h_wins, .ref h_fewest, .int 2, .int 1])), (h_row, .inr (0, [.ref h_cell, .int 0]))] U.heap ∧ va_K (dC, dI) vwCl [] U ∧ ki_Th U)) (va_Qi (fun (r : Int32) (_ : Unit) => r = 1) (fun _ _ => True) (fun _ => False)) 1 6 (fun _ => False) := by
  refine va_MetW (cc := cL_vote) (maxL := 7) (ret := (some .int)) (hh := [(0, 14, 17, 13)]) (by decide) rfl ?_
  intro p e s m args below meth c s₁ B hml hv
  obtain ⟨rfl, hP, hK, hth⟩ := hv
  have hx := B.exec
  have hb := B.bytes
  have hr := B.returns
  have hts := atoms_spec (ws := wsL_vote) B.pre
  have hown : s.vm.findClass RL = some m.cls := findClass_of_methodNamed B.named
  have hlocks := B.notSynchronized
  have hS : va_S (fun _ => False) s.heap s.heap [] := va_S.rf
  have htb : c.exceptionTable.toList = tableOf [(0, 14, 17, 13)] := vx_table (x := yL_vote) B (hts (.codeWith yL_vote cL_vote 7 (some .int) [(0, 14, 17, 13)]) List.mem_cons_self)
  have hl := lv_entry ([.ref h0, .int p0, .int p1, .int p2, .int p3, .ref ho]) (n := 7) (Nat.le_of_ble_eq_true rfl)
  rw [lg_entry_eq]
  generalize (lg_sl ([.ref h0, .int p0, .int p1, .int p2, .int p3, .ref ho]) ++ List.replicate (7 - (lg_sl ([.ref h0, .int p0, .int p1, .int p2, .int p3, .ref ho])).length) Slot.unset).toArray = ls at hl ⊢
  have hl : lv_has ls 7 [(0, .ref h0), (1, .int p0), (2, .int p1), (3, .int p2), (4, .int p3), (5, .ref ho)] := hl
  refine lv_aload hx hb dL_vote_0 (lv_at hl 5 rfl) ?_
  refine lv_iconst (v := 0) hx hb dL_vote_2 (by decide) ?_
  refine lv_aload_n hx hb dL_vote_3 rfl (lv_at hl 0 rfl) ?_
  refine lv_iload_n hx hb dL_vote_4 rfl (lv_at hl 1 rfl) ?_
  refine lv_iload_n hx hb dL_vote_5 rfl (lv_at hl 2 rfl) ?_
  refine lv_iload_n hx hb dL_vote_6 rfl (lv_at hl 3 rfl) ?_
  refine lv_iload hx hb dL_vote_7 (lv_at hl 4 rfl) ?_
  refine vx_calli (vx_runV (As := [.int p0, .int p1, .int p2, .int p3]) (rest := [.int 0, .ref ho]) ⟨hx, hb, hml, hown, hts⟩ (c_X4_vote l hl0 dC dI h0 h_row h_tree h_tally h_votes h_otherVotes h_wins h_fewest h_cell p0 p1 p2 p3) (cwV 4 hts gL_vote_X4_vote rfl rfl rfl (by decide +kernel) ⟨Nat.le_of_ble_eq_true rfl, Nat.le_of_ble_eq_true rfl⟩) ⟨fun a U g mk q => by obtain ⟨q0, qP, qK, qT⟩ := q; exact ⟨q0, qP, va_K.moved (u := U) (U := U.calling g mk a) (Vm.Alike.refl U.vm) qK, qT.call g mk a⟩, va_recv hK hP (ci := 4) (q0 := 0) rfl rfl, fun U hU hW => ⟨rfl, by rw [hU]; exact hP, va_K.moved hW.alike hK, hth.from va_S.rf hU hW⟩⟩ rfl rfl hl.1 rfl (lv_room (Nat.le_of_ble_eq_true rfl)) dL_vote_9 ⟨Nat.le_of_ble_eq_true rfl, Nat.le_of_ble_eq_true rfl⟩) hS (fun q _ h => h.elim) (fun q h => h) (fun q _ h => h.elim) (fun E ce q9 u t H1 locs1 ht hvm hpx hBX hz hk hS1 hce hcv hcl => ?_) (fun r u t H1 locs1 ht hvm hp hB hz hk hS1 => hp.elim)
  subst hBX
  refine vx_catch hown [] ⟨0, 14, 17, 13⟩ [] htb (fun z hz => by cases hz) (by decide) (by decide) (hts (.classLink RL 13 EXN) (by decide +kernel)) (va_Nw.use rfl hth.1.1) hce hcv hcl ?_
  refine W.eq (g2 := F0 m 17 ls [.ref q9]) rfl ?_
  refine lv_astore (lv' := [(6, .ref q9), (0, .ref h0), (1, .int p0), (2, .int p1), (3, .int p2), (4, .int p3), (5, .ref ho)]) hx hb dL_vote_17 hl (by decide) rfl (fun ls hl => ?_)
  refine lv_iconst (v := 1) hx hb dL_vote_19 (by decide) ?_
  exact W.iret (v := 1) hx hb hr (fun t ht hW => ⟨⟨1, (), rfl, rfl, trivial⟩, by rw [ht]; exact hz, fun q h1 h2 => by rw [ht]; exact hk q h1 h2⟩) (fun q hq => hS1.2.2 q hq) dL_vote_20

set_option maxHeartbeats 4000000 in
set_option maxRecDepth 100000 in
/-- candidate throws on a fresh object -/
theorem c_X4_candidate (l : Launch) (hl0 : l.stackTraces = false) (dC : Nat → ClassId) (dI : Nat → Nat → Nat) (h0 : Nat) (h_row : Nat) (h_tree : Nat) (h_tally : Nat) (h_votes : Nat) (h_otherVotes : Nat) (h_wins : Nat) (h_fewest : Nat) (h_cell : Nat) (p0 : Int32) (p1 : Int32) (p2 : Int32) (p3 : Int32) : vx_Met l yX4_candidate wsX4_candidate ({ frames := 8, cells := 1, slots := 6, locals := 360 }) (va_Pc [.ref h0, .int p0, .int p1, .int p2, .int p3] (fun U => va_P (dC, dI) vwCl [(h0, .inr (4, [.ref h_row, .ref h_tree, .ref h_tally, .ref h_votes, .ref h_otherVotes, .ref h_wins, .ref h_fewest, .int 2, .int 1])), (h_row, .inr (0, [.ref h_cell, .int 0]))] U.heap ∧ va_K (dC, dI) vwCl [] U ∧ ki_Th U)) (va_Qi (fun (_ : Int32) (_ : Unit) => False) (fun _ _ => True) (fun _ => False)) (vx_X (fun _ : Unit => True) (fun E _ _ => E = EXN) (fun _ => False)) 1 6 (fun _ => False) := by
  refine vx_ofW (cc := cX4_candidate) (maxL := 5) (ret := (some .int)) (by decide) rfl ?_
  intro p e s m args below meth c s₁ B hml htab hv
  obtain ⟨rfl, hP, hK, hth⟩ := hv
  have hx := B.exec
  have hb := B.bytes
  have hr := B.returns
  have hts := atoms_spec (ws := wsX4_candidate) B.pre
  have hown : s.vm.findClass RX4 = some m.cls := findClass_of_methodNamed B.named
  have hlocks := B.notSynchronized
  have hat : ∀ w ∈ vx_at0 RX4 109 EXN EXC, w.before _ s = true := vx_hat (B := EXD) (fun w h => hts w (List.mem_cons_of_mem _ (List.mem_append_right _ h))) ki_bad (ki_ex hth)
  have hP : va_P (dC, dI) vwCl [(h0, .inr (4, [.ref h_row, .ref h_tree, .ref h_tally, .ref h_votes, .ref h_otherVotes, .ref h_wins, .ref h_fewest, .int 2, .int 1])), (h_row, .inr (0, [.ref h_cell, .int 0]))] s.heap := hP
  have hl := lv_entry ([.ref h0, .int p0, .int p1, .int p2, .int p3]) (n := 5) (Nat.le_of_ble_eq_true rfl)
  rw [lg_entry_eq]
  generalize (lg_sl ([.ref h0, .int p0, .int p1, .int p2, .int p3]) ++ List.replicate (5 - (lg_sl ([.ref h0, .int p0, .int p1, .int p2, .int p3])).length) Slot.unset).toArray = ls at hl ⊢
  have hl : lv_has ls 5 [(0, .ref h0), (1, .int p0), (2, .int p1), (3, .int p2), (4, .int p3)] := hl
  have hf_12 := hts (.fieldLink RX4 12 "MajorityIndex" "row" "LMajorityIndex$Row;") (by decide +kernel)
  have hi_4 : ∀ w ∈ u_ws RX4 TX4 9, w ∈ wsX4_candidate := by decide +kernel
  have hc_107 := hts (.classLink RX4 107 EXN) (by decide +kernel)
  have hz_ex := hts (.initialized EXN) (by decide +kernel)
  refine lv_aload_n hx hb dX4_candidate_0 rfl (lv_at hl 0 rfl) ?_
  refine va_get (D := (dC, dI)) (ci := 4) (v := .ref h_row) (C := RX4) (T := TX4) (N := 9) hx hb hts hi_4 hown hK hP 0 rfl rfl 0 (by decide) hf_12 (fun _ h9 => h9) rfl dX4_candidate_1 ?_
  refine lv_iload_n hx hb dX4_candidate_4 rfl (lv_at hl 1 rfl) ?_
  refine lv_iload_n hx hb dX4_candidate_5 rfl (lv_at hl 2 rfl) ?_
  have hPc := hP.sub (ws' := [(h_row, .inr (0, [.ref h_cell, .int 0]))]) [1] rfl
  have hKc := hK.sub (tys' := []) [] rfl
  refine vp_callSi (W.runV (As := [.int p0, .int p1]) (rest := []) ⟨hx, hb, hml, hown, hts⟩ (c_X0_hasRange l dC dI h_row h_cell 0 p0 p1) (cwV 2 hts gX4_candidate_X0_hasRange rfl rfl rfl (by decide +kernel) ⟨Nat.le_of_ble_eq_true rfl, Nat.le_of_ble_eq_true rfl⟩) ⟨fun a U g mk q => by obtain ⟨q0, qP, qK⟩ := q; exact ⟨q0, qP, va_K.moved (u := U) (U := U.calling g mk a) (Vm.Alike.refl U.vm) qK⟩, va_recv hKc hPc (ci := 0) (q0 := 0) rfl rfl, fun U hU hW => ⟨rfl, by rw [hU]; exact hPc, va_K.moved hW.alike hKc⟩⟩ rfl rfl hl.1 rfl (lv_room (Nat.le_of_ble_eq_true rfl)) dX4_candidate_6 ⟨Nat.le_of_ble_eq_true rfl, Nat.le_of_ble_eq_true rfl⟩) (fun r_1 w_1 => ?_)
  rcases w_1 with ⟨rfl, w_1⟩ | ⟨rfl, w_1⟩
  · have w_1 : (0 ≤ p0.toInt ∧ p0.toInt < p1.toInt ∧ p1.toInt ≤ 0) := w_1
    exfalso; omega
  · have w_1 : (p0.toInt < 0 ∨ p1.toInt ≤ p0.toInt ∨ 0 < p1.toInt) := w_1
    refine lv_if_eq (tgt := 27) hx hb dX4_candidate_9 (by decide) (fun c_2 => ?_) (fun c_2 => ?_)
    · exact vx_throw0 (names := EXC) hx hb hl0 hown (by decide +kernel) (by decide +kernel) hc_107 hz_ex hat ki_ot hth.2.1 hth.2.2 va_S.rf (hl.1.trans hml.symm) dX4_candidate_27 dX4_candidate_30 dX4_candidate_31 dX4_candidate_34 (fun x h => (htab x h).elim) (Nat.le_of_ble_eq_true rfl) (Nat.le_of_ble_eq_true rfl) (Nat.le_of_ble_eq_true rfl) (Nat.le_of_ble_eq_true rfl) hlocks (fun t ha hz hk => ⟨(), trivial, rfl, hz, fun q hq _ => hk q hq⟩) (fun z hz => by cases hz) (Nat.le_refl _) (Nat.le_refl _)
    · exact absurd c_2 (by decide)

set_option maxHeartbeats 4000000 in
set_option maxRecDepth 100000 in
theorem c_L_candidate (l : Launch) (hl0 : l.stackTraces = false) (dC : Nat → ClassId) (dI : Nat → Nat → Nat) (h0 : Nat) (h_row : Nat) (h_tree : Nat) (h_tally : Nat) (h_votes : Nat) (h_otherVotes : Nat) (h_wins : Nat) (h_fewest : Nat) (h_cell : Nat) (p0 : Int32) (p1 : Int32) (p2 : Int32) (p3 : Int32) (ho : Nat) : Met l yL_candidate wsL_candidate ({ frames := 9, cells := 1, slots := 6, locals := 420 }) (va_Pc [.ref h0, .int p0, .int p1, .int p2, .int p3, .ref ho] (fun U => va_P (dC, dI) vwCl [(h0, .inr (4, [.ref h_row, .ref h_tree, .ref h_tally, .ref h_votes, .ref h_otherVotes, .ref h_wins, .ref h_fewest, .int 2, .int 1])), (h_row, .inr (0, [.ref h_cell, .int 0]))] U.heap ∧ va_K (dC, dI) vwCl [] U ∧ ki_Th U)) (va_Qi (fun (r : Int32) (_ : Unit) => r = 1) (fun _ _ => True) (fun _ => False)) 1 6 (fun _ => False) := by
  refine va_MetW (cc := cL_candidate) (maxL := 7) (ret := (some .int)) (hh := [(0, 14, 17, 13)]) (by decide) rfl ?_
  intro p e s m args below meth c s₁ B hml hv
  obtain ⟨rfl, hP, hK, hth⟩ := hv
  have hx := B.exec
  have hb := B.bytes
  have hr := B.returns
  have hts := atoms_spec (ws := wsL_candidate) B.pre
  have hown : s.vm.findClass RL = some m.cls := findClass_of_methodNamed B.named
  have hlocks := B.notSynchronized
  have hS : va_S (fun _ => False) s.heap s.heap [] := va_S.rf
  have htb : c.exceptionTable.toList = tableOf [(0, 14, 17, 13)] := vx_table (x := yL_candidate) B (hts (.codeWith yL_candidate cL_candidate 7 (some .int) [(0, 14, 17, 13)]) List.mem_cons_self)
  have hl := lv_entry ([.ref h0, .int p0, .int p1, .int p2, .int p3, .ref ho]) (n := 7) (Nat.le_of_ble_eq_true rfl)
  rw [lg_entry_eq]
  generalize (lg_sl ([.ref h0, .int p0, .int p1, .int p2, .int p3, .ref ho]) ++ List.replicate (7 - (lg_sl ([.ref h0, .int p0, .int p1, .int p2, .int p3, .ref ho])).length) Slot.unset).toArray = ls at hl ⊢
  have hl : lv_has ls 7 [(0, .ref h0), (1, .int p0), (2, .int p1), (3, .int p2), (4, .int p3), (5, .ref ho)] := hl
  refine lv_aload hx hb dL_candidate_0 (lv_at hl 5 rfl) ?_
  refine lv_iconst (v := 0) hx hb dL_candidate_2 (by decide) ?_
  refine lv_aload_n hx hb dL_candidate_3 rfl (lv_at hl 0 rfl) ?_
  refine lv_iload_n hx hb dL_candidate_4 rfl (lv_at hl 1 rfl) ?_
  refine lv_iload_n hx hb dL_candidate_5 rfl (lv_at hl 2 rfl) ?_
  refine lv_iload_n hx hb dL_candidate_6 rfl (lv_at hl 3 rfl) ?_
  refine lv_iload hx hb dL_candidate_7 (lv_at hl 4 rfl) ?_
  refine vx_calli (vx_runV (As := [.int p0, .int p1, .int p2, .int p3]) (rest := [.int 0, .ref ho]) ⟨hx, hb, hml, hown, hts⟩ (c_X4_candidate l hl0 dC dI h0 h_row h_tree h_tally h_votes h_otherVotes h_wins h_fewest h_cell p0 p1 p2 p3) (cwV 4 hts gL_candidate_X4_candidate rfl rfl rfl (by decide +kernel) ⟨Nat.le_of_ble_eq_true rfl, Nat.le_of_ble_eq_true rfl⟩) ⟨fun a U g mk q => by obtain ⟨q0, qP, qK, qT⟩ := q; exact ⟨q0, qP, va_K.moved (u := U) (U := U.calling g mk a) (Vm.Alike.refl U.vm) qK, qT.call g mk a⟩, va_recv hK hP (ci := 4) (q0 := 0) rfl rfl, fun U hU hW => ⟨rfl, by rw [hU]; exact hP, va_K.moved hW.alike hK, hth.from va_S.rf hU hW⟩⟩ rfl rfl hl.1 rfl (lv_room (Nat.le_of_ble_eq_true rfl)) dL_candidate_9 ⟨Nat.le_of_ble_eq_true rfl, Nat.le_of_ble_eq_true rfl⟩) hS (fun q _ h => h.elim) (fun q h => h) (fun q _ h => h.elim) (fun E ce q9 u t H1 locs1 ht hvm hpx hBX hz hk hS1 hce hcv hcl => ?_) (fun r u t H1 locs1 ht hvm hp hB hz hk hS1 => hp.elim)
  subst hBX
  refine vx_catch hown [] ⟨0, 14, 17, 13⟩ [] htb (fun z hz => by cases hz) (by decide) (by decide) (hts (.classLink RL 13 EXN) (by decide +kernel)) (va_Nw.use rfl hth.1.1) hce hcv hcl ?_
  refine W.eq (g2 := F0 m 17 ls [.ref q9]) rfl ?_
  refine lv_astore (lv' := [(6, .ref q9), (0, .ref h0), (1, .int p0), (2, .int p1), (3, .int p2), (4, .int p3), (5, .ref ho)]) hx hb dL_candidate_17 hl (by decide) rfl (fun ls hl => ?_)
  refine lv_iconst (v := 1) hx hb dL_candidate_19 (by decide) ?_
  exact W.iret (v := 1) hx hb hr (fun t ht hW => ⟨⟨1, (), rfl, rfl, trivial⟩, by rw [ht]; exact hz, fun q h1 h2 => by rw [ht]; exact hk q h1 h2⟩) (fun q hq => hS1.2.2 q hq) dL_candidate_20

set_option maxHeartbeats 4000000 in
set_option maxRecDepth 100000 in
/-- heavyAt throws on a fresh object -/
theorem c_X4_heavyAt (l : Launch) (hl0 : l.stackTraces = false) (dC : Nat → ClassId) (dI : Nat → Nat → Nat) (h0 : Nat) (h_row : Nat) (h_tree : Nat) (h_tally : Nat) (h_votes : Nat) (h_otherVotes : Nat) (h_wins : Nat) (h_fewest : Nat) (h_cell : Nat) (p0 : Int32) (p1 : Int32) (p2 : Int32) (p3 : Int32) (p4 : Int32) (p5 : Int32) : vx_Met l yX4_heavyAt wsX4_heavyAt ({ frames := 8, cells := 1, slots := 6, locals := 360 }) (va_Pc [.ref h0, .int p0, .int p1, .int p2, .int p3, .int p4, .int p5] (fun U => va_P (dC, dI) vwCl [(h0, .inr (4, [.ref h_row, .ref h_tree, .ref h_tally, .ref h_votes, .ref h_otherVotes, .ref h_wins, .ref h_fewest, .int 2, .int 1])), (h_row, .inr (0, [.ref h_cell, .int 0]))] U.heap ∧ va_K (dC, dI) vwCl [] U ∧ ki_Th U)) (va_Qi (fun (_ : Int32) (_ : Unit) => False) (fun _ _ => True) (fun _ => False)) (vx_X (fun _ : Unit => True) (fun E _ _ => E = EXN) (fun _ => False)) 1 6 (fun _ => False) := by
  refine vx_ofW (cc := cX4_heavyAt) (maxL := 7) (ret := (some .int)) (by decide) rfl ?_
  intro p e s m args below meth c s₁ B hml htab hv
  obtain ⟨rfl, hP, hK, hth⟩ := hv
  have hx := B.exec
  have hb := B.bytes
  have hr := B.returns
  have hts := atoms_spec (ws := wsX4_heavyAt) B.pre
  have hown : s.vm.findClass RX4 = some m.cls := findClass_of_methodNamed B.named
  have hlocks := B.notSynchronized
  have hat : ∀ w ∈ vx_at0 RX4 109 EXN EXC, w.before _ s = true := vx_hat (B := EXD) (fun w h => hts w (List.mem_cons_of_mem _ (List.mem_append_right _ h))) ki_bad (ki_ex hth)
  have hP : va_P (dC, dI) vwCl [(h0, .inr (4, [.ref h_row, .ref h_tree, .ref h_tally, .ref h_votes, .ref h_otherVotes, .ref h_wins, .ref h_fewest, .int 2, .int 1])), (h_row, .inr (0, [.ref h_cell, .int 0]))] s.heap := hP
  have hl := lv_entry ([.ref h0, .int p0, .int p1, .int p2, .int p3, .int p4, .int p5]) (n := 7) (Nat.le_of_ble_eq_true rfl)
  rw [lg_entry_eq]
  generalize (lg_sl ([.ref h0, .int p0, .int p1, .int p2, .int p3, .int p4, .int p5]) ++ List.replicate (7 - (lg_sl ([.ref h0, .int p0, .int p1, .int p2, .int p3, .int p4, .int p5])).length) Slot.unset).toArray = ls at hl ⊢
  have hl : lv_has ls 7 [(0, .ref h0), (1, .int p0), (2, .int p1), (3, .int p2), (4, .int p3), (5, .int p4), (6, .int p5)] := hl
  have hf_12 := hts (.fieldLink RX4 12 "MajorityIndex" "row" "LMajorityIndex$Row;") (by decide +kernel)
  have hi_4 : ∀ w ∈ u_ws RX4 TX4 9, w ∈ wsX4_heavyAt := by decide +kernel
  have hc_107 := hts (.classLink RX4 107 EXN) (by decide +kernel)
  have hz_ex := hts (.initialized EXN) (by decide +kernel)
  refine lv_aload_n hx hb dX4_heavyAt_0 rfl (lv_at hl 0 rfl) ?_
  refine va_get (D := (dC, dI)) (ci := 4) (v := .ref h_row) (C := RX4) (T := TX4) (N := 9) hx hb hts hi_4 hown hK hP 0 rfl rfl 0 (by decide) hf_12 (fun _ h9 => h9) rfl dX4_heavyAt_1 ?_
  refine lv_iload_n hx hb dX4_heavyAt_4 rfl (lv_at hl 1 rfl) ?_
  refine lv_iload_n hx hb dX4_heavyAt_5 rfl (lv_at hl 2 rfl) ?_
  have hPc := hP.sub (ws' := [(h_row, .inr (0, [.ref h_cell, .int 0]))]) [1] rfl
  have hKc := hK.sub (tys' := []) [] rfl
  refine vp_callSi (W.runV (As := [.int p0, .int p1]) (rest := []) ⟨hx, hb, hml, hown, hts⟩ (c_X0_hasRange l dC dI h_row h_cell 0 p0 p1) (cwV 2 hts gX4_heavyAt_X0_hasRange rfl rfl rfl (by decide +kernel) ⟨Nat.le_of_ble_eq_true rfl, Nat.le_of_ble_eq_true rfl⟩) ⟨fun a U g mk q => by obtain ⟨q0, qP, qK⟩ := q; exact ⟨q0, qP, va_K.moved (u := U) (U := U.calling g mk a) (Vm.Alike.refl U.vm) qK⟩, va_recv hKc hPc (ci := 0) (q0 := 0) rfl rfl, fun U hU hW => ⟨rfl, by rw [hU]; exact hPc, va_K.moved hW.alike hKc⟩⟩ rfl rfl hl.1 rfl (lv_room (Nat.le_of_ble_eq_true rfl)) dX4_heavyAt_6 ⟨Nat.le_of_ble_eq_true rfl, Nat.le_of_ble_eq_true rfl⟩) (fun r_1 w_1 => ?_)
  rcases w_1 with ⟨rfl, w_1⟩ | ⟨rfl, w_1⟩
  · have w_1 : (0 ≤ p0.toInt ∧ p0.toInt < p1.toInt ∧ p1.toInt ≤ 0) := w_1
    exfalso; omega
  · have w_1 : (p0.toInt < 0 ∨ p1.toInt ≤ p0.toInt ∨ 0 < p1.toInt) := w_1
    refine lv_if_eq (tgt := 37) hx hb dX4_heavyAt_9 (by decide) (fun c_2 => ?_) (fun c_2 => ?_)
    · exact vx_throw0 (names := EXC) hx hb hl0 hown (by decide +kernel) (by decide +kernel) hc_107 hz_ex hat ki_ot hth.2.1 hth.2.2 va_S.rf (hl.1.trans hml.symm) dX4_heavyAt_37 dX4_heavyAt_40 dX4_heavyAt_41 dX4_heavyAt_44 (fun x h => (htab x h).elim) (Nat.le_of_ble_eq_true rfl) (Nat.le_of_ble_eq_true rfl) (Nat.le_of_ble_eq_true rfl) (Nat.le_of_ble_eq_true rfl) hlocks (fun t ha hz hk => ⟨(), trivial, rfl, hz, fun q hq _ => hk q hq⟩) (fun z hz => by cases hz) (Nat.le_refl _) (Nat.le_refl _)
    · exact absurd c_2 (by decide)

set_option maxHeartbeats 4000000 in
set_option maxRecDepth 100000 in
theorem c_L_heavyAt (l : Launch) (hl0 : l.stackTraces = false) (dC : Nat → ClassId) (dI : Nat → Nat → Nat) (h0 : Nat) (h_row : Nat) (h_tree : Nat) (h_tally : Nat) (h_votes : Nat) (h_otherVotes : Nat) (h_wins : Nat) (h_fewest : Nat) (h_cell : Nat) (p0 : Int32) (p1 : Int32) (p2 : Int32) (p3 : Int32) (p4 : Int32) (p5 : Int32) (ho : Nat) : Met l yL_heavyAt wsL_heavyAt ({ frames := 9, cells := 1, slots := 6, locals := 420 }) (va_Pc [.ref h0, .int p0, .int p1, .int p2, .int p3, .int p4, .int p5, .ref ho] (fun U => va_P (dC, dI) vwCl [(h0, .inr (4, [.ref h_row, .ref h_tree, .ref h_tally, .ref h_votes, .ref h_otherVotes, .ref h_wins, .ref h_fewest, .int 2, .int 1])), (h_row, .inr (0, [.ref h_cell, .int 0]))] U.heap ∧ va_K (dC, dI) vwCl [] U ∧ ki_Th U)) (va_Qi (fun (r : Int32) (_ : Unit) => r = 1) (fun _ _ => True) (fun _ => False)) 1 6 (fun _ => False) := by
  refine va_MetW (cc := cL_heavyAt) (maxL := 9) (ret := (some .int)) (hh := [(0, 18, 21, 13)]) (by decide) rfl ?_
  intro p e s m args below meth c s₁ B hml hv
  obtain ⟨rfl, hP, hK, hth⟩ := hv
  have hx := B.exec
  have hb := B.bytes
  have hr := B.returns
  have hts := atoms_spec (ws := wsL_heavyAt) B.pre
  have hown : s.vm.findClass RL = some m.cls := findClass_of_methodNamed B.named
  have hlocks := B.notSynchronized
  have hS : va_S (fun _ => False) s.heap s.heap [] := va_S.rf
  have htb : c.exceptionTable.toList = tableOf [(0, 18, 21, 13)] := vx_table (x := yL_heavyAt) B (hts (.codeWith yL_heavyAt cL_heavyAt 9 (some .int) [(0, 18, 21, 13)]) List.mem_cons_self)
  have hl := lv_entry ([.ref h0, .int p0, .int p1, .int p2, .int p3, .int p4, .int p5, .ref ho]) (n := 9) (Nat.le_of_ble_eq_true rfl)
  rw [lg_entry_eq]
  generalize (lg_sl ([.ref h0, .int p0, .int p1, .int p2, .int p3, .int p4, .int p5, .ref ho]) ++ List.replicate (9 - (lg_sl ([.ref h0, .int p0, .int p1, .int p2, .int p3, .int p4, .int p5, .ref ho])).length) Slot.unset).toArray = ls at hl ⊢
  have hl : lv_has ls 9 [(0, .ref h0), (1, .int p0), (2, .int p1), (3, .int p2), (4, .int p3), (5, .int p4), (6, .int p5), (7, .ref ho)] := hl
  refine lv_aload hx hb dL_heavyAt_0 (lv_at hl 7 rfl) ?_
  refine lv_iconst (v := 0) hx hb dL_heavyAt_2 (by decide) ?_
  refine lv_aload_n hx hb dL_heavyAt_3 rfl (lv_at hl 0 rfl) ?_
  refine lv_iload_n hx hb dL_heavyAt_4 rfl (lv_at hl 1 rfl) ?_
  refine lv_iload_n hx hb dL_heavyAt_5 rfl (lv_at hl 2 rfl) ?_
  refine lv_iload_n hx hb dL_heavyAt_6 rfl (lv_at hl 3 rfl) ?_
  refine lv_iload hx hb dL_heavyAt_7 (lv_at hl 4 rfl) ?_
  refine lv_iload hx hb dL_heavyAt_9 (lv_at hl 5 rfl) ?_
  refine lv_iload hx hb dL_heavyAt_11 (lv_at hl 6 rfl) ?_
  refine vx_calli (vx_runV (As := [.int p0, .int p1, .int p2, .int p3, .int p4, .int p5]) (rest := [.int 0, .ref ho]) ⟨hx, hb, hml, hown, hts⟩ (c_X4_heavyAt l hl0 dC dI h0 h_row h_tree h_tally h_votes h_otherVotes h_wins h_fewest h_cell p0 p1 p2 p3 p4 p5) (cwV 6 hts gL_heavyAt_X4_heavyAt rfl rfl rfl (by decide +kernel) ⟨Nat.le_of_ble_eq_true rfl, Nat.le_of_ble_eq_true rfl⟩) ⟨fun a U g mk q => by obtain ⟨q0, qP, qK, qT⟩ := q; exact ⟨q0, qP, va_K.moved (u := U) (U := U.calling g mk a) (Vm.Alike.refl U.vm) qK, qT.call g mk a⟩, va_recv hK hP (ci := 4) (q0 := 0) rfl rfl, fun U hU hW => ⟨rfl, by rw [hU]; exact hP, va_K.moved hW.alike hK, hth.from va_S.rf hU hW⟩⟩ rfl rfl hl.1 rfl (lv_room (Nat.le_of_ble_eq_true rfl)) dL_heavyAt_13 ⟨Nat.le_of_ble_eq_true rfl, Nat.le_of_ble_eq_true rfl⟩) hS (fun q _ h => h.elim) (fun q h => h) (fun q _ h => h.elim) (fun E ce q9 u t H1 locs1 ht hvm hpx hBX hz hk hS1 hce hcv hcl => ?_) (fun r u t H1 locs1 ht hvm hp hB hz hk hS1 => hp.elim)
  subst hBX
  refine vx_catch hown [] ⟨0, 18, 21, 13⟩ [] htb (fun z hz => by cases hz) (by decide) (by decide) (hts (.classLink RL 13 EXN) (by decide +kernel)) (va_Nw.use rfl hth.1.1) hce hcv hcl ?_
  refine W.eq (g2 := F0 m 21 ls [.ref q9]) rfl ?_
  refine lv_astore (lv' := [(8, .ref q9), (0, .ref h0), (1, .int p0), (2, .int p1), (3, .int p2), (4, .int p3), (5, .int p4), (6, .int p5), (7, .ref ho)]) hx hb dL_heavyAt_21 hl (by decide) rfl (fun ls hl => ?_)
  refine lv_iconst (v := 1) hx hb dL_heavyAt_23 (by decide) ?_
  exact W.iret (v := 1) hx hb hr (fun t ht hW => ⟨⟨1, (), rfl, rfl, trivial⟩, by rw [ht]; exact hz, fun q h1 h2 => by rw [ht]; exact hk q h1 h2⟩) (fun q hq => hS1.2.2 q hq) dL_heavyAt_24
