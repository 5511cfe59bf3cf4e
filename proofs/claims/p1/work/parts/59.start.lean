set_option maxHeartbeats 4000000 in
set_option maxRecDepth 100000 in
theorem whole_start {p : Program} {e : Env} {s : State} {m : MethodId} {below : List Frame} {meth : Method} {c : Code} (l : Launch) (hflags : l.flags = flags0) {b L : Nat} {xs : Nat → Int32} (hL : L ≤ 8) (C0 : lw_At p s m meth c b L xs) : W p l e room_1 s m #[Value.ref b] below meth c s.heap [] 0 0 (lw_Z below #[Value.ref b] s) (entryFrame m ([Value.ref b] : List Value).toArray 7) := by
  obtain ⟨hx, hb, hr, hml, hown, hts0, hX, hbl, hlocks, hgv⟩ := id C0
  have hts := hts0
  have hA : ∀ q : Nat, s.heap.size ≤ q → (fun q : Nat => s.heap.size ≤ q) q := fun _ h => h
  have hbA : ¬ (fun q : Nat => s.heap.size ≤ q) b := Nat.not_le.mpr hbl
  have hown : s.vm.findClass RL = some m.cls := hown
  have hb : c.code = cL_law := hb
  have hl0 : l.stackTraces = false := by rw [Launch.stackTraces, hflags]; decide +kernel
  obtain ⟨c0, iS0, hKn0⟩ := u_known (C := RX0) (T := TX0) (N := 2) (n := 2) hts0 lwI_wsX00 (hts0 (.instantiable RX0 2) (List.mem_of_getElem? (i := 77) (by decide +kernel)))
  obtain ⟨c1, iS1, hKn1⟩ := u_known (C := RX1) (T := TX1) (N := 4) (n := 4) hts0 lwI_wsX10 (hts0 (.instantiable RX1 4) (List.mem_of_getElem? (i := 174) (by decide +kernel)))
  obtain ⟨c2, iS2, hKn2⟩ := u_known (C := RX2) (T := TX2) (N := 11) (n := 11) hts0 lwI_wsX20 (hts0 (.instantiable RX2 11) (List.mem_of_getElem? (i := 96) (by decide +kernel)))
  obtain ⟨c3, iS3, hKn3⟩ := u_known (C := RX3) (T := TX3) (N := 5) (n := 5) hts0 lwI_wsX30 (hts0 (.instantiable RX3 5) (List.mem_of_getElem? (i := 102) (by decide +kernel)))
  obtain ⟨c4, iS4, hKn4⟩ := u_known (C := RX4) (T := TX4) (N := 9) (n := 9) hts0 lwI_wsX40 (hts0 (.instantiable RX4 9) (List.mem_of_getElem? (i := 69) (by decide +kernel)))
  obtain ⟨c5, iS5, hKn5⟩ := u_known (C := RX5) (T := TX5) (N := 30) (n := 30) hts0 lwI_wsX50 (hts0 (.instantiable RX5 30) (List.mem_of_getElem? (i := 738) (by decide +kernel)))
  obtain ⟨dC, dI, hKc⟩ : ∃ (dC : Nat → ClassId) (dI : Nat → Nat → Nat), ∀ (k : Nat) (q : vw_C), vwCl[k]? = some q → u_Kn s q.1 q.2.1 q.2.2 (dC k) (dI k) := by
    refine ⟨fun k => if k = 0 then c0 else if k = 1 then c1 else if k = 2 then c2 else if k = 3 then c3 else if k = 4 then c4 else c5, fun k => if k = 0 then iS0 else if k = 1 then iS1 else if k = 2 then iS2 else if k = 3 then iS3 else if k = 4 then iS4 else iS5, ?_⟩
    intro k q hq
    match k, hq with
    | 0, hq => cases hq; exact hKn0
    | 1, hq => cases hq; exact hKn1
    | 2, hq => cases hq; exact hKn2
    | 3, hq => cases hq; exact hKn3
    | 4, hq => cases hq; exact hKn4
    | 5, hq => cases hq; exact hKn5
    | k + 6, hq => simp [vwCl] at hq
  have hK : va_K (dC, dI) vwCl [] s := ⟨hKc, fun k q h => by simp at h⟩
  obtain ⟨cyI, hK⟩ := ki_ints (hts0 (.arrayClass .int) (by decide +kernel)) hK
  have hth : ki_Th s := ⟨⟨va_Nw.of rfl (hts0 (.castable EXN EXN) (by decide +kernel)), va_Nw.of rfl (hts0 (.declares (Bundle.init0 "java/lang/RuntimeException")) (by decide +kernel)), va_Nw.of rfl (hts0 (.declares (Bundle.init0 "java/lang/Exception")) (by decide +kernel)), va_Nw.of rfl (hts0 (.declares (Bundle.init0 Bundle.tN)) (by decide +kernel))⟩, vx_Zqof (hts0 (.laysStatic Bundle.tN "UNASSIGNED_STACK" Bundle.steD) (by decide +kernel)) (hts0 (.initialized Bundle.tN) (by decide +kernel)) (flat_of_before _ hgv _ (by decide +kernel)) (fun a h => Nat.not_le.mpr h), vx_Zqof (hts0 (.laysStatic Bundle.tN "SUPPRESSED_SENTINEL" Bundle.listD) (by decide +kernel)) (hts0 (.initialized Bundle.tN) (by decide +kernel)) (flat_of_before _ hgv _ (by decide +kernel)) (fun a h => Nat.not_le.mpr h)⟩
  have hS : va_S (fun q : Nat => s.heap.size ≤ q) s.heap s.heap [] := va_S.rf
  have hP : va_P (dC, dI) vwCl [] s.heap := fun k q h => by simp at h
  have hD : va_D (fun q : Nat => s.heap.size ≤ q) [] := ⟨fun i j p q h => by simp at h, fun k q h => by simp at h⟩
  have hl := lv_entry ([.ref b]) (n := 7) (Nat.le_of_ble_eq_true rfl)
  rw [lg_entry_eq]
  generalize (lg_sl ([.ref b]) ++ List.replicate (7 - (lg_sl ([.ref b])).length) Slot.unset).toArray = ls at hl ⊢
  have hl : lv_has ls 7 [(0, .ref b)] := hl
  have hc_8 := hts0 (.classLink RL 8 RX4) (List.mem_of_getElem? (i := 68) (by decide +kernel))
  have hj_4 := hts0 (.instantiable RX4 9) (List.mem_of_getElem? (i := 69) (by decide +kernel))
  have hz_4 := hts0 (.initialized RX4) (List.mem_of_getElem? (i := 56) (by decide +kernel))
  have hz_RX4 := hts0 (.initialized RX4) (List.mem_of_getElem? (i := 56) (by decide +kernel))
  have hm_26 := hts0 (.methodLink RL 26 yX4_init) (List.mem_of_getElem? (i := 70) (by decide +kernel))
  have hq_X4_init := hts0 (.instanceMethod yX4_init) (List.mem_of_getElem? (i := 71) (by decide +kernel))
  have hN__methodLinkNest_RX4_11_yX0_init_RX4 : va_Nw (.methodLinkNest RX4 11 yX0_init RX4) s := va_Nw.of rfl (hts0 (.methodLinkNest RX4 11 yX0_init RX4) (List.mem_of_getElem? (i := 78) (by decide +kernel)))
  have hN__methodLinkNest_RX4_27_yX1_init_RX4 : va_Nw (.methodLinkNest RX4 27 yX1_init RX4) s := va_Nw.of rfl (hts0 (.methodLinkNest RX4 27 yX1_init RX4) (List.mem_of_getElem? (i := 175) (by decide +kernel)))
  have hN__methodLinkNest_RX4_34_yX3_init_RX4 : va_Nw (.methodLinkNest RX4 34 yX3_init RX4) s := va_Nw.of rfl (hts0 (.methodLinkNest RX4 34 yX3_init RX4) (List.mem_of_getElem? (i := 195) (by decide +kernel)))
  have hN__methodLinkNest_RX2_11_yX3_init_RX4 : va_Nw (.methodLinkNest RX2 11 yX3_init RX4) s := va_Nw.of rfl (hts0 (.methodLinkNest RX2 11 yX3_init RX4) (List.mem_of_getElem? (i := 103) (by decide +kernel)))
  have hc_27 := hts0 (.classLink RL 27 RX5) (List.mem_of_getElem? (i := 737) (by decide +kernel))
  have hj_5 := hts0 (.instantiable RX5 30) (List.mem_of_getElem? (i := 738) (by decide +kernel))
  have hz_5 := hts0 (.initialized RX5) (List.mem_of_getElem? (i := 61) (by decide +kernel))
  have hz_RX5 := hts0 (.initialized RX5) (List.mem_of_getElem? (i := 61) (by decide +kernel))
  have hm_29 := hts0 (.methodLink RL 29 yX5_init) (List.mem_of_getElem? (i := 739) (by decide +kernel))
  have hq_X5_init := hts0 (.instanceMethod yX5_init) (List.mem_of_getElem? (i := 740) (by decide +kernel))
  have ha_long := hts0 (.arrayClass .long) (List.mem_of_getElem? (i := 1157) (by decide +kernel))
  refine va_new (ci := 4) (fs := [.null, .null, .null, .null, .null, .null, .null, .int 0, .int 0]) (C := RX4) (T := TX4) (N := 9) hx hb hts lwI_wsX40 tyX4 tyX4_ok hown hc_8 hj_4 hz_4 hK hP hD hS hA rfl (ki_z4) (Nat.le_of_ble_eq_true rfl) (Nat.le_of_ble_eq_true rfl) dL_law_0 (fun q_1 H hP hD hS => ?_)
  refine W.widen (k := 1) (n := 9) (Nat.le_of_ble_eq_true rfl) (Nat.le_of_ble_eq_true rfl) ?_
  have hP : va_P (dC, dI) vwCl [(q_1, .inr (4, [.null, .null, .null, .null, .null, .null, .null, .int 0, .int 0]))] H := hP
  have hD : va_D (fun q : Nat => s.heap.size ≤ q) [(q_1, .inr (4, [.null, .null, .null, .null, .null, .null, .null, .int 0, .int 0]))] := hD
  refine lv_dup hx hb dL_law_3 rfl ?_
  have hPc := hP.sub (ws' := [(q_1, .inr (4, [.null, .null, .null, .null, .null, .null, .null, .int 0, .int 0]))]) [0] rfl
  have hKc := hK.sub (tys' := [(cyI, .int)]) [0] rfl
  have hDc := hD.sub (ws' := [(q_1, .inr (4, [.null, .null, .null, .null, .null, .null, .null, .int 0, .int 0]))]) [0] (by decide) rfl
  have hFc := va_free (wc := [(q_1, .inr (4, [.null, .null, .null, .null, .null, .null, .null, .int 0, .int 0]))]) hD hS hA [0] rfl
  refine va_callv (va_runI (As := []) (rest := [.ref q_1]) ⟨hx, hb, hml, hown, (lwC_X4_init hts0)⟩ (c_X4_init l dC dI q_1 cyI H.size) (cwI 0 (lwC_X4_init hts0) lwG_X4_init rfl rfl rfl hz_RX4 hm_26 hq_X4_init rfl (by decide +kernel) ⟨Nat.le_of_ble_eq_true rfl, Nat.le_of_ble_eq_true rfl⟩) ⟨fun a U g mk q => by obtain ⟨q0, q1, qP, qK, qD, qn0, qn1, qn2, qn3⟩ := q; exact ⟨q0, q1, qP, va_K.moved (u := U) (U := U.calling g mk a) (Vm.Alike.refl U.vm) qK, qD, va_Nw.same (u := U) (U := U.calling g mk a) rfl rfl qn0, va_Nw.same (u := U) (U := U.calling g mk a) rfl rfl qn1, va_Nw.same (u := U) (U := U.calling g mk a) rfl rfl qn2, va_Nw.same (u := U) (U := U.calling g mk a) rfl rfl qn3⟩, fun U hU hW => ⟨rfl, by rw [hU], by rw [hU]; exact hPc, va_K.moved hW.alike hKc, hDc.weaken (fun _ _ _ _ => trivial), va_Nw.warmM hW hN__methodLinkNest_RX4_11_yX0_init_RX4, va_Nw.warmM hW hN__methodLinkNest_RX4_27_yX1_init_RX4, va_Nw.warmM hW hN__methodLinkNest_RX4_34_yX3_init_RX4, va_Nw.warmM hW hN__methodLinkNest_RX2_11_yX3_init_RX4⟩⟩ rfl rfl hl.1 rfl (lv_room (Nat.le_of_ble_eq_true rfl)) dL_law_4 ⟨Nat.le_of_ble_eq_true rfl, Nat.le_of_ble_eq_true rfl⟩) hS (fun q _ h => hFc q h) hFc (fun u t H1 locs ht hvm w_2 hB hz1 hk1 hS => ?_)
  obtain ⟨q_3, q_4, q_5, q_6, q_7, q_8, q_9, q_10, q_11, q_12, q_13, q_14, q_15, q_16, q_17, q_18, q_19, q_20, hP1, hK1, hD1⟩ := hB
  rw [ht] at hP1
  have hK1 := va_K.moved hvm.symm hK1
  obtain ⟨hP, hD⟩ := va_join (wr := []) (w1 := [(q_1, .inr (4, [.ref q_3, .ref q_4, .ref q_5, .ref q_6, .ref q_7, .ref q_8, .ref q_9, .int 2, .int 1])), (q_3, .inr (0, [.ref q_10, .int 0])), (q_10, .inl (cyI, 160, .inl (fun _ => 0))), (q_4, .inr (2, [.ref q_3, .ref q_11, .ref q_12, .ref q_13, .ref q_14, .ref q_15, .ref q_16, .ref q_17, .ref q_18, .int 0, .int 0])), (q_12, .inl (cyI, 319, .inl (fun _ => 0))), (q_13, .inl (cyI, 319, .inl (fun _ => 0))), (q_5, .inr (1, [.ref q_19, .ref q_20, .int 0, .int 0]))]) hP hD [0] [] rfl rfl (by decide) (by decide) hk1 hFc hP1 hD1
  clear hP1 hD1 hK1 hk1 hz1 hFc hDc hPc hKc
  generalize H1 = H at hP hS ⊢
  have hP : va_P (dC, dI) vwCl [(q_1, .inr (4, [.ref q_3, .ref q_4, .ref q_5, .ref q_6, .ref q_7, .ref q_8, .ref q_9, .int 2, .int 1])), (q_3, .inr (0, [.ref q_10, .int 0])), (q_10, .inl (cyI, 160, .inl (fun _ => 0))), (q_4, .inr (2, [.ref q_3, .ref q_11, .ref q_12, .ref q_13, .ref q_14, .ref q_15, .ref q_16, .ref q_17, .ref q_18, .int 0, .int 0])), (q_12, .inl (cyI, 319, .inl (fun _ => 0))), (q_13, .inl (cyI, 319, .inl (fun _ => 0))), (q_5, .inr (1, [.ref q_19, .ref q_20, .int 0, .int 0]))] H := hP
  have hD : va_D (fun q : Nat => s.heap.size ≤ q) [(q_1, .inr (4, [.ref q_3, .ref q_4, .ref q_5, .ref q_6, .ref q_7, .ref q_8, .ref q_9, .int 2, .int 1])), (q_3, .inr (0, [.ref q_10, .int 0])), (q_10, .inl (cyI, 160, .inl (fun _ => 0))), (q_4, .inr (2, [.ref q_3, .ref q_11, .ref q_12, .ref q_13, .ref q_14, .ref q_15, .ref q_16, .ref q_17, .ref q_18, .int 0, .int 0])), (q_12, .inl (cyI, 319, .inl (fun _ => 0))), (q_13, .inl (cyI, 319, .inl (fun _ => 0))), (q_5, .inr (1, [.ref q_19, .ref q_20, .int 0, .int 0]))] := hD
  refine W.widen (k := 25) (n := 6337) (Nat.le_of_ble_eq_true rfl) (Nat.le_of_ble_eq_true rfl) ?_
  refine lv_astore_n (lv' := [(1, .ref q_1), (0, .ref b)]) hx hb dL_law_7 rfl hl (by decide) rfl (fun ls hl => ?_)
  refine va_new (ci := 5) (fs := [.null, .int 0, .int 0, .int 0, .null, .null, .null, .null, .null, .null, .null, .int 0, .null, .null, .int 0, .null, .int 0, .null, .null, .null, .null, .null, .int 0, .null, .null, .int 0, .null, .null, .null, .int 0]) (C := RX5) (T := TX5) (N := 30) hx hb hts lwI_wsX50 tyX5 tyX5_ok hown hc_27 hj_5 hz_5 hK hP hD hS hA rfl (ki_z5) (Nat.le_of_ble_eq_true rfl) (Nat.le_of_ble_eq_true rfl) dL_law_8 (fun q_21 H hP hD hS => ?_)
  refine W.widen (k := 26) (n := 6367) (Nat.le_of_ble_eq_true rfl) (Nat.le_of_ble_eq_true rfl) ?_
  have hP : va_P (dC, dI) vwCl [(q_1, .inr (4, [.ref q_3, .ref q_4, .ref q_5, .ref q_6, .ref q_7, .ref q_8, .ref q_9, .int 2, .int 1])), (q_3, .inr (0, [.ref q_10, .int 0])), (q_10, .inl (cyI, 160, .inl (fun _ => 0))), (q_4, .inr (2, [.ref q_3, .ref q_11, .ref q_12, .ref q_13, .ref q_14, .ref q_15, .ref q_16, .ref q_17, .ref q_18, .int 0, .int 0])), (q_12, .inl (cyI, 319, .inl (fun _ => 0))), (q_13, .inl (cyI, 319, .inl (fun _ => 0))), (q_5, .inr (1, [.ref q_19, .ref q_20, .int 0, .int 0])), (q_21, .inr (5, [.null, .int 0, .int 0, .int 0, .null, .null, .null, .null, .null, .null, .null, .int 0, .null, .null, .int 0, .null, .int 0, .null, .null, .null, .null, .null, .int 0, .null, .null, .int 0, .null, .null, .null, .int 0]))] H := hP
  have hD : va_D (fun q : Nat => s.heap.size ≤ q) [(q_1, .inr (4, [.ref q_3, .ref q_4, .ref q_5, .ref q_6, .ref q_7, .ref q_8, .ref q_9, .int 2, .int 1])), (q_3, .inr (0, [.ref q_10, .int 0])), (q_10, .inl (cyI, 160, .inl (fun _ => 0))), (q_4, .inr (2, [.ref q_3, .ref q_11, .ref q_12, .ref q_13, .ref q_14, .ref q_15, .ref q_16, .ref q_17, .ref q_18, .int 0, .int 0])), (q_12, .inl (cyI, 319, .inl (fun _ => 0))), (q_13, .inl (cyI, 319, .inl (fun _ => 0))), (q_5, .inr (1, [.ref q_19, .ref q_20, .int 0, .int 0])), (q_21, .inr (5, [.null, .int 0, .int 0, .int 0, .null, .null, .null, .null, .null, .null, .null, .int 0, .null, .null, .int 0, .null, .int 0, .null, .null, .null, .null, .null, .int 0, .null, .null, .int 0, .null, .null, .null, .int 0]))] := hD
  refine lv_dup hx hb dL_law_11 rfl ?_
  have hPc := hP.sub (ws' := [(q_21, .inr (5, [.null, .int 0, .int 0, .int 0, .null, .null, .null, .null, .null, .null, .null, .int 0, .null, .null, .int 0, .null, .int 0, .null, .null, .null, .null, .null, .int 0, .null, .null, .int 0, .null, .null, .null, .int 0]))]) [7] rfl
  have hKc := hK.sub (tys' := [(cyI, .int)]) [0] rfl
  have hDc := hD.sub (ws' := [(q_21, .inr (5, [.null, .int 0, .int 0, .int 0, .null, .null, .null, .null, .null, .null, .null, .int 0, .null, .null, .int 0, .null, .int 0, .null, .null, .null, .null, .null, .int 0, .null, .null, .int 0, .null, .null, .null, .int 0]))]) [7] (by decide) rfl
  have hFc := va_free (wc := [(q_21, .inr (5, [.null, .int 0, .int 0, .int 0, .null, .null, .null, .null, .null, .null, .null, .int 0, .null, .null, .int 0, .null, .int 0, .null, .null, .null, .null, .null, .int 0, .null, .null, .int 0, .null, .null, .null, .int 0]))]) hD hS hA [7] rfl
  refine va_callv (va_runI (As := []) (rest := [.ref q_21]) ⟨hx, hb, hml, hown, (lwC_X5_init hts0)⟩ (c_X5_init l dC dI q_21 cyI H.size) (cwI 0 (lwC_X5_init hts0) lwG_X5_init rfl rfl rfl hz_RX5 hm_29 hq_X5_init rfl (by decide +kernel) ⟨Nat.le_of_ble_eq_true rfl, Nat.le_of_ble_eq_true rfl⟩) ⟨fun a U g mk q => by obtain ⟨q0, q1, qP, qK, qD⟩ := q; exact ⟨q0, q1, qP, va_K.moved (u := U) (U := U.calling g mk a) (Vm.Alike.refl U.vm) qK, qD⟩, fun U hU hW => ⟨rfl, by rw [hU], by rw [hU]; exact hPc, va_K.moved hW.alike hKc, hDc.weaken (fun _ _ _ _ => trivial)⟩⟩ rfl rfl hl.1 rfl (lv_room (Nat.le_of_ble_eq_true rfl)) dL_law_12 ⟨Nat.le_of_ble_eq_true rfl, Nat.le_of_ble_eq_true rfl⟩) hS (fun q _ h => hFc q h) hFc (fun u t H1 locs ht hvm w_22 hB hz1 hk1 hS => ?_)
  obtain ⟨q_23, q_24, q_25, q_26, q_27, q_28, q_29, q_30, q_31, q_32, q_33, q_34, q_35, q_36, q_37, q_38, q_39, q_40, q_41, q_42, q_43, hP1, hK1, hD1⟩ := hB
  rw [ht] at hP1
  have hK1 := va_K.moved hvm.symm hK1
  obtain ⟨hP, hD⟩ := va_join (wr := [(q_1, .inr (4, [.ref q_3, .ref q_4, .ref q_5, .ref q_6, .ref q_7, .ref q_8, .ref q_9, .int 2, .int 1])), (q_3, .inr (0, [.ref q_10, .int 0])), (q_10, .inl (cyI, 160, .inl (fun _ => 0))), (q_4, .inr (2, [.ref q_3, .ref q_11, .ref q_12, .ref q_13, .ref q_14, .ref q_15, .ref q_16, .ref q_17, .ref q_18, .int 0, .int 0])), (q_12, .inl (cyI, 319, .inl (fun _ => 0))), (q_13, .inl (cyI, 319, .inl (fun _ => 0))), (q_5, .inr (1, [.ref q_19, .ref q_20, .int 0, .int 0]))]) (w1 := [(q_21, .inr (5, [.ref q_23, .int 0, .int 2, .int 0, .ref q_24, .ref q_25, .ref q_26, .ref q_27, .ref q_28, .ref q_29, .ref q_30, .int 0, .ref q_31, .ref q_32, .int 0, .ref q_33, .int 0, .ref q_34, .ref q_35, .ref q_36, .ref q_37, .ref q_38, .int 0, .ref q_39, .ref q_40, .int 0, .ref q_41, .ref q_42, .ref q_43, .int 0])), (q_23, .inl (cyI, 160, .inl (fun _ => 0)))]) hP hD [7] [0, 1, 2, 3, 4, 5, 6] rfl rfl (by decide) (by decide) hk1 hFc hP1 hD1
  clear hP1 hD1 hK1 hk1 hz1 hFc hDc hPc hKc
  generalize H1 = H at hP hS ⊢
  have hP : va_P (dC, dI) vwCl [(q_1, .inr (4, [.ref q_3, .ref q_4, .ref q_5, .ref q_6, .ref q_7, .ref q_8, .ref q_9, .int 2, .int 1])), (q_3, .inr (0, [.ref q_10, .int 0])), (q_10, .inl (cyI, 160, .inl (fun _ => 0))), (q_4, .inr (2, [.ref q_3, .ref q_11, .ref q_12, .ref q_13, .ref q_14, .ref q_15, .ref q_16, .ref q_17, .ref q_18, .int 0, .int 0])), (q_12, .inl (cyI, 319, .inl (fun _ => 0))), (q_13, .inl (cyI, 319, .inl (fun _ => 0))), (q_5, .inr (1, [.ref q_19, .ref q_20, .int 0, .int 0])), (q_21, .inr (5, [.ref q_23, .int 0, .int 2, .int 0, .ref q_24, .ref q_25, .ref q_26, .ref q_27, .ref q_28, .ref q_29, .ref q_30, .int 0, .ref q_31, .ref q_32, .int 0, .ref q_33, .int 0, .ref q_34, .ref q_35, .ref q_36, .ref q_37, .ref q_38, .int 0, .ref q_39, .ref q_40, .int 0, .ref q_41, .ref q_42, .ref q_43, .int 0])), (q_23, .inl (cyI, 160, .inl (fun _ => 0)))] H := hP
  have hD : va_D (fun q : Nat => s.heap.size ≤ q) [(q_1, .inr (4, [.ref q_3, .ref q_4, .ref q_5, .ref q_6, .ref q_7, .ref q_8, .ref q_9, .int 2, .int 1])), (q_3, .inr (0, [.ref q_10, .int 0])), (q_10, .inl (cyI, 160, .inl (fun _ => 0))), (q_4, .inr (2, [.ref q_3, .ref q_11, .ref q_12, .ref q_13, .ref q_14, .ref q_15, .ref q_16, .ref q_17, .ref q_18, .int 0, .int 0])), (q_12, .inl (cyI, 319, .inl (fun _ => 0))), (q_13, .inl (cyI, 319, .inl (fun _ => 0))), (q_5, .inr (1, [.ref q_19, .ref q_20, .int 0, .int 0])), (q_21, .inr (5, [.ref q_23, .int 0, .int 2, .int 0, .ref q_24, .ref q_25, .ref q_26, .ref q_27, .ref q_28, .ref q_29, .ref q_30, .int 0, .ref q_31, .ref q_32, .int 0, .ref q_33, .int 0, .ref q_34, .ref q_35, .ref q_36, .ref q_37, .ref q_38, .int 0, .ref q_39, .ref q_40, .int 0, .ref q_41, .ref q_42, .ref q_43, .int 0])), (q_23, .inl (cyI, 160, .inl (fun _ => 0)))] := hD
  refine W.widen (k := 47) (n := 17664) (Nat.le_of_ble_eq_true rfl) (Nat.le_of_ble_eq_true rfl) ?_
  refine lv_astore_n (lv' := [(2, .ref q_21), (1, .ref q_1), (0, .ref b)]) hx hb dL_law_15 rfl hl (by decide) rfl (fun ls hl => ?_)
  refine lv_iconst (v := 1) hx hb dL_law_16 (by decide) ?_
  refine va_newa (atype := .long) (a0 := (1, .inr (.inl (fun _ => 0)))) hx hb ha_long rfl hK hP hD hS hA (N' := 1) (fun cA => ki_zl cA 1) (by decide) (by decide) (Nat.le_of_ble_eq_true rfl) (Nat.le_of_ble_eq_true rfl) (Nat.le_of_ble_eq_true rfl) dL_law_17 (fun q_44 cA_45 H hK hP hD hS => ?_)
  have hK : va_K (dC, dI) vwCl [(cyI, .int), (cA_45, .long)] s := hK
  refine W.widen (k := 48) (n := 17665) (Nat.le_of_ble_eq_true rfl) (Nat.le_of_ble_eq_true rfl) ?_
  have hP : va_P (dC, dI) vwCl [(q_1, .inr (4, [.ref q_3, .ref q_4, .ref q_5, .ref q_6, .ref q_7, .ref q_8, .ref q_9, .int 2, .int 1])), (q_3, .inr (0, [.ref q_10, .int 0])), (q_10, .inl (cyI, 160, .inl (fun _ => 0))), (q_4, .inr (2, [.ref q_3, .ref q_11, .ref q_12, .ref q_13, .ref q_14, .ref q_15, .ref q_16, .ref q_17, .ref q_18, .int 0, .int 0])), (q_12, .inl (cyI, 319, .inl (fun _ => 0))), (q_13, .inl (cyI, 319, .inl (fun _ => 0))), (q_5, .inr (1, [.ref q_19, .ref q_20, .int 0, .int 0])), (q_21, .inr (5, [.ref q_23, .int 0, .int 2, .int 0, .ref q_24, .ref q_25, .ref q_26, .ref q_27, .ref q_28, .ref q_29, .ref q_30, .int 0, .ref q_31, .ref q_32, .int 0, .ref q_33, .int 0, .ref q_34, .ref q_35, .ref q_36, .ref q_37, .ref q_38, .int 0, .ref q_39, .ref q_40, .int 0, .ref q_41, .ref q_42, .ref q_43, .int 0])), (q_23, .inl (cyI, 160, .inl (fun _ => 0))), (q_44, .inl (cA_45, 1, .inr (.inl (fun _ => 0))))] H := hP
  have hD : va_D (fun q : Nat => s.heap.size ≤ q) [(q_1, .inr (4, [.ref q_3, .ref q_4, .ref q_5, .ref q_6, .ref q_7, .ref q_8, .ref q_9, .int 2, .int 1])), (q_3, .inr (0, [.ref q_10, .int 0])), (q_10, .inl (cyI, 160, .inl (fun _ => 0))), (q_4, .inr (2, [.ref q_3, .ref q_11, .ref q_12, .ref q_13, .ref q_14, .ref q_15, .ref q_16, .ref q_17, .ref q_18, .int 0, .int 0])), (q_12, .inl (cyI, 319, .inl (fun _ => 0))), (q_13, .inl (cyI, 319, .inl (fun _ => 0))), (q_5, .inr (1, [.ref q_19, .ref q_20, .int 0, .int 0])), (q_21, .inr (5, [.ref q_23, .int 0, .int 2, .int 0, .ref q_24, .ref q_25, .ref q_26, .ref q_27, .ref q_28, .ref q_29, .ref q_30, .int 0, .ref q_31, .ref q_32, .int 0, .ref q_33, .int 0, .ref q_34, .ref q_35, .ref q_36, .ref q_37, .ref q_38, .int 0, .ref q_39, .ref q_40, .int 0, .ref q_41, .ref q_42, .ref q_43, .int 0])), (q_23, .inl (cyI, 160, .inl (fun _ => 0))), (q_44, .inl (cA_45, 1, .inr (.inl (fun _ => 0))))] := hD
  refine lv_astore_n (lv' := [(3, .ref q_44), (2, .ref q_21), (1, .ref q_1), (0, .ref b)]) hx hb dL_law_19 rfl hl (by decide) rfl (fun ls hl => ?_)
  refine lv_iconst (v := 0) hx hb dL_law_20 (by decide) ?_
  refine lv_istore (lv' := [(4, .int 0), (3, .ref q_44), (2, .ref q_21), (1, .ref q_1), (0, .ref b)]) hx hb dL_law_21 hl (by decide) rfl (fun ls hl => ?_)
  refine W.widen (k := 60) (n := 20000) (Nat.le_of_ble_eq_true rfl) (Nat.le_of_ble_eq_true rfl) ?_
  exact law_head hl0 hL C0 hth (hK.sub [0] rfl) (hP.sub [0, 1, 2, 3, 4, 5, 6, 7, 8] rfl) (hD.sub [0, 1, 2, 3, 4, 5, 6, 7, 8] (by decide) rfl) hS hl
