set_option maxHeartbeats 4000000 in
set_option maxRecDepth 100000 in
theorem lc_25 {p : Program} {l : Launch} {e : Env} {s : State} {m : MethodId} {below : List Frame} {meth : Method} {c : Code} {dC : Nat → ClassId} {dI : Nat → Nat → Nat} {b : Nat} {xs : Nat → Int32} (hl0 : l.stackTraces = false) {L j : Nat} (hL : L ≤ 4096) (hj : 8 * j + 8 ≤ L) (C0 : lw_At p s m meth c b L xs) (hth : ki_ThA (fun q : Nat => s.heap.size ≤ q) s) {cyI cyL : ClassId} {xm_ xq_t xq_row xq_cell xq_from xq_to xq_size xq_lossOf xq_lessBy xq_value xq_number xq_joined xj_v xj_n xh0 xa_v xa_n xk0 xkv xkn xt_ xt_k xt_o xw_ xz_ yh0 yg_row yg_many yg_loss yg_less yg_voteValue yg_voteNumber yg_allValue yg_allNumber yg_nodeL yg_nodeR yg_part yg_wasMany yg_wasLoss yg_wasValue yg_wasNumber yg_path yg_heavyValue yg_heavyTimes yg_fewest yg_which yg_met q_o : Nat} (hK : va_K (dC, dI) vwCl [(cyI, .int), (cyL, .long)] s) (ih : lw_G p l e s m below meth c b dC dI cyI cyL xm_ xq_t xq_row xq_cell xq_from xq_to xq_size xq_lossOf xq_lessBy xq_value xq_number xq_joined xj_v xj_n xh0 xa_v xa_n xk0 xkv xkn xt_ xt_k xt_o xw_ xz_ yh0 yg_row yg_many yg_loss yg_less yg_voteValue yg_voteNumber yg_allValue yg_allNumber yg_nodeL yg_nodeR yg_part yg_wasMany yg_wasLoss yg_wasValue yg_wasNumber yg_path yg_heavyValue yg_heavyTimes yg_fewest yg_which yg_met q_o (j + 1)) {len slots old nodes here js jl je vs lo le sb lb eb tk mo u_thrown u_allMany u_nodes u_partMany u_pathMany u_heavyMany u_mostMet ix : Int32} {f ff ft fs fo fe uv un jv jn fv fn gb nb fk fq fw fz u_many u_loss u_less u_voteValue u_voteNumber u_allValue u_allNumber u_nodeL u_nodeR u_part u_wasMany u_wasLoss u_wasValue u_wasNumber u_path u_heavyValue u_heavyTimes u_fewest u_which u_met : Nat → Int32} {ol : Nat → Int64} (hix : ix.toInt = 8 * (j : Int)) (I0 : 0 ≤ len.toInt) (I1 : len.toInt ≤ 160) (I2 : 1 ≤ slots.toInt) (I3 : slots.toInt ≤ 6) (I4 : shorts f) (I5 : sixes fs) (I6 : laidX old slots here f ff ft fs fo fe uv un nodes len) (I7 : six4 u_many) (I8 : parts320 u_part) {H : Heap} {locs : List Loc} (hP : va_P (dC, dI) vwCl [kx_4 xm_ xq_row xq_t xt_ xh0 xk0 xw_ xz_ slots old, kx_2 xq_t xq_row xq_joined xq_from xq_to xq_size xq_lossOf xq_lessBy xq_value xq_number nodes here, kx_0 xq_row xq_cell len, kx_a xq_cell cyI 160 f, kx_a xq_from cyI 319 ff, kx_a xq_to cyI 319 ft, kx_a xq_size cyI 319 fs, kx_a xq_lossOf cyI 319 fo, kx_a xq_lessBy cyI 319 fe, kx_a xq_value cyI 1914 uv, kx_a xq_number cyI 1914 un, kx_3 xq_joined xj_v xj_n js jl je, kx_a xj_v cyI 12 jv, kx_a xj_n cyI 12 jn, kx_3 xh0 xa_v xa_n vs lo le, kx_a xa_v cyI 12 fv, kx_a xa_n cyI 12 fn, kx_3 xk0 xkv xkn sb lb eb, kx_a xkv cyI 12 gb, kx_a xkn cyI 12 nb, kx_1 xt_ xt_k xt_o tk mo, kx_a xt_k cyI 160 fk, kx_a xt_o cyI 160 fq, kx_a xw_ cyI 160 fw, kx_a xz_ cyI 161 fz, kx_5 yh0 yg_row len slots u_thrown yg_many yg_loss yg_less yg_voteValue yg_voteNumber yg_allValue yg_allNumber u_allMany yg_nodeL yg_nodeR u_nodes yg_part u_partMany yg_wasMany yg_wasLoss yg_wasValue yg_wasNumber yg_path u_pathMany yg_heavyValue yg_heavyTimes u_heavyMany yg_fewest yg_which yg_met u_mostMet, kx_a yg_row cyI 160 f, kx_a yg_many cyI 324 u_many, kx_a yg_loss cyI 324 u_loss, kx_a yg_less cyI 324 u_less, kx_a yg_voteValue cyI 1944 u_voteValue, kx_a yg_voteNumber cyI 1944 u_voteNumber, kx_a yg_allValue cyI 12 u_allValue, kx_a yg_allNumber cyI 12 u_allNumber, kx_a yg_nodeL cyI 320 u_nodeL, kx_a yg_nodeR cyI 320 u_nodeR, kx_a yg_part cyI 320 u_part, kx_a yg_wasMany cyI 320 u_wasMany, kx_a yg_wasLoss cyI 320 u_wasLoss, kx_a yg_wasValue cyI 1920 u_wasValue, kx_a yg_wasNumber cyI 1920 u_wasNumber, kx_a yg_path cyI 12 u_path, kx_a yg_heavyValue cyI 160 u_heavyValue, kx_a yg_heavyTimes cyI 160 u_heavyTimes, kx_a yg_fewest cyI 161 u_fewest, kx_a yg_which cyI 160 u_which, kx_a yg_met cyI 160 u_met, (q_o, .inl (cyL, 1, .inr (.inl ol)))] H) (hD : va_D (fun q : Nat => s.heap.size ≤ q) [kx_4 xm_ xq_row xq_t xt_ xh0 xk0 xw_ xz_ slots old, kx_2 xq_t xq_row xq_joined xq_from xq_to xq_size xq_lossOf xq_lessBy xq_value xq_number nodes here, kx_0 xq_row xq_cell len, kx_a xq_cell cyI 160 f, kx_a xq_from cyI 319 ff, kx_a xq_to cyI 319 ft, kx_a xq_size cyI 319 fs, kx_a xq_lossOf cyI 319 fo, kx_a xq_lessBy cyI 319 fe, kx_a xq_value cyI 1914 uv, kx_a xq_number cyI 1914 un, kx_3 xq_joined xj_v xj_n js jl je, kx_a xj_v cyI 12 jv, kx_a xj_n cyI 12 jn, kx_3 xh0 xa_v xa_n vs lo le, kx_a xa_v cyI 12 fv, kx_a xa_n cyI 12 fn, kx_3 xk0 xkv xkn sb lb eb, kx_a xkv cyI 12 gb, kx_a xkn cyI 12 nb, kx_1 xt_ xt_k xt_o tk mo, kx_a xt_k cyI 160 fk, kx_a xt_o cyI 160 fq, kx_a xw_ cyI 160 fw, kx_a xz_ cyI 161 fz, kx_5 yh0 yg_row len slots u_thrown yg_many yg_loss yg_less yg_voteValue yg_voteNumber yg_allValue yg_allNumber u_allMany yg_nodeL yg_nodeR u_nodes yg_part u_partMany yg_wasMany yg_wasLoss yg_wasValue yg_wasNumber yg_path u_pathMany yg_heavyValue yg_heavyTimes u_heavyMany yg_fewest yg_which yg_met u_mostMet, kx_a yg_row cyI 160 f, kx_a yg_many cyI 324 u_many, kx_a yg_loss cyI 324 u_loss, kx_a yg_less cyI 324 u_less, kx_a yg_voteValue cyI 1944 u_voteValue, kx_a yg_voteNumber cyI 1944 u_voteNumber, kx_a yg_allValue cyI 12 u_allValue, kx_a yg_allNumber cyI 12 u_allNumber, kx_a yg_nodeL cyI 320 u_nodeL, kx_a yg_nodeR cyI 320 u_nodeR, kx_a yg_part cyI 320 u_part, kx_a yg_wasMany cyI 320 u_wasMany, kx_a yg_wasLoss cyI 320 u_wasLoss, kx_a yg_wasValue cyI 1920 u_wasValue, kx_a yg_wasNumber cyI 1920 u_wasNumber, kx_a yg_path cyI 12 u_path, kx_a yg_heavyValue cyI 160 u_heavyValue, kx_a yg_heavyTimes cyI 160 u_heavyTimes, kx_a yg_fewest cyI 161 u_fewest, kx_a yg_which cyI 160 u_which, kx_a yg_met cyI 160 u_met, (q_o, .inl (cyL, 1, .inr (.inl ol)))]) (hS : va_S (fun q : Nat => s.heap.size ≤ q) s.heap H locs) {ls : Array Slot} (hl : lv_has ls 7 [(4, .int ix), (3, .ref q_o), (2, .ref yh0), (1, .ref xm_), (0, .ref b)]) : W p l e room_1 s m #[Value.ref b] below meth c H locs (60 + 2 * j) (20000 + 12 * j) (lw_Z below #[Value.ref b] s) (F0 m 1214 ls []) := by
  obtain ⟨hx, hb, hr, hml, hown, hts0, hX, hbl, hlocks, hgv⟩ := id C0
  have hts := hts0
  have hA : ∀ q : Nat, s.heap.size ≤ q → (fun q : Nat => s.heap.size ≤ q) q := fun _ h => h
  have hbA : ¬ (fun q : Nat => s.heap.size ≤ q) b := Nat.not_le.mpr hbl
  have hown : s.vm.findClass RL = some m.cls := hown
  have hb : c.code = cL_law := hb
  have hj0 : 0 ≤ (j : Int) := Int.natCast_nonneg j
  have hjI : 8 * (j : Int) + 8 ≤ (L : Int) := lw_jI hj
  have hLI : (L : Int) ≤ 4096 := lw_LI hL
  have hN__methodLinkNest_RX3_42_yX4_isHeavy_RX4 : va_Nw (.methodLinkNest RX3 42 yX4_isHeavy RX4) s := va_Nw.of rfl (hts0 (.methodLinkNest RX3 42 yX4_isHeavy RX4) lwW_486)
  refine lv_aload_n hx hb dL_law_1214 rfl (lv_at hl 3 rfl) ?_
  refine lv_aload_n hx hb dL_law_1215 rfl (lv_at hl 4 rfl) ?_
  refine lv_iload hx hb dL_law_1216 (lv_at hl 0 rfl) ?_
  refine lv_iconst (v := 1) hx hb dL_law_1218 (by decide) ?_
  refine lv_iadd hx hb dL_law_1219 ?_
  refine lv_topi (fun y_1 ey_1 => ?_)
  have i_1 : y_1.toInt = ix.toInt + 1 := ki_add ey_1 rfl rfl (om_568 hix hj0) (om_569 hix hjI hLI)
  refine va_sld hx hb hX hbl hbA hS (i := y_1) (ki_in (om_570 hix hj0 i_1) (om_571 hix hjI i_1)) dL_law_1220 ?_
  refine lv_topi (fun y_2 ey_2 => ?_)
  refine lv_aload_n hx hb dL_law_1221 rfl (lv_at hl 4 rfl) ?_
  refine lv_iload hx hb dL_law_1222 (lv_at hl 0 rfl) ?_
  refine lv_iconst (v := 2) hx hb dL_law_1224 (by decide) ?_
  refine lv_iadd hx hb dL_law_1225 ?_
  refine lv_topi (fun y_3 ey_3 => ?_)
  have i_3 : y_3.toInt = ix.toInt + 2 := ki_add ey_3 rfl rfl (om_572 hix hj0) (om_573 hix hjI hLI)
  refine va_sld hx hb hX hbl hbA hS (i := y_3) (ki_in (om_574 hix hj0 i_3) (om_575 hix hjI i_3)) dL_law_1226 ?_
  refine lv_topi (fun y_4 ey_4 => ?_)
  refine lv_aload_n hx hb dL_law_1227 rfl (lv_at hl 4 rfl) ?_
  refine lv_iload hx hb dL_law_1228 (lv_at hl 0 rfl) ?_
  refine lv_iconst (v := 3) hx hb dL_law_1230 (by decide) ?_
  refine lv_iadd hx hb dL_law_1231 ?_
  refine lv_topi (fun y_5 ey_5 => ?_)
  have i_5 : y_5.toInt = ix.toInt + 3 := ki_add ey_5 rfl rfl (om_580 hix hj0) (om_581 hix hjI hLI)
  refine va_sld hx hb hX hbl hbA hS (i := y_5) (ki_in (om_582 hix hj0 i_5) (om_583 hix hjI i_5)) dL_law_1232 ?_
  refine lv_topi (fun y_6 ey_6 => ?_)
  refine lv_aload_n hx hb dL_law_1233 rfl (lv_at hl 4 rfl) ?_
  refine lv_iload hx hb dL_law_1234 (lv_at hl 0 rfl) ?_
  refine lv_iconst (v := 4) hx hb dL_law_1236 (by decide) ?_
  refine lv_iadd hx hb dL_law_1237 ?_
  refine lv_topi (fun y_7 ey_7 => ?_)
  have i_7 : y_7.toInt = ix.toInt + 4 := ki_add ey_7 rfl rfl (om_585 hix hj0) (om_586 hix hjI hLI)
  refine va_sld hx hb hX hbl hbA hS (i := y_7) (ki_in (om_587 hix hj0 i_7) (om_588 hix hjI i_7)) dL_law_1238 ?_
  refine lv_topi (fun y_8 ey_8 => ?_)
  obtain ⟨hPc, hDc, hFc, hCc⟩ := kx_preM (wc := [kx_4 xm_ xq_row xq_t xt_ xh0 xk0 xw_ xz_ slots old, kx_2 xq_t xq_row xq_joined xq_from xq_to xq_size xq_lossOf xq_lessBy xq_value xq_number nodes here, kx_0 xq_row xq_cell len, kx_a xq_cell cyI 160 f, kx_a xq_from cyI 319 ff, kx_a xq_to cyI 319 ft, kx_a xq_size cyI 319 fs, kx_a xq_lossOf cyI 319 fo, kx_a xq_lessBy cyI 319 fe, kx_a xq_value cyI 1914 uv, kx_a xq_number cyI 1914 un, kx_3 xq_joined xj_v xj_n js jl je, kx_a xj_v cyI 12 jv, kx_a xj_n cyI 12 jn, kx_3 xh0 xa_v xa_n vs lo le, kx_a xa_v cyI 12 fv, kx_a xa_n cyI 12 fn]) hP hD hS hA [true, true, true, true, true, true, true, true, true, true, true, true, true, true, true, true, true, false, false, false, false, false, false, false, false, false, false, false, false, false, false, false, false, false, false, false, false, false, false, false, false, false, false, false, false, false, false, false] rfl
  have hKc := hK.sub (tys' := [(cyI, .int)]) [0] rfl
  refine va_calli (va_runV (As := [.int y_2, .int y_4, .int y_6, .int y_8]) (rest := []) ⟨hx, hb, hml, hown, (lwC_X4_heavy hts0)⟩ (c_X4_heavy_x l dC dI xm_ xq_row xq_t xt_ xh0 xk0 xw_ xz_ slots old xq_joined xq_from xq_to xq_size xq_lossOf xq_lessBy xq_value xq_number nodes here xq_cell cyI len f ff ft fs fo uv un fe xj_v xj_n js jl je jv jn xa_v xa_n vs lo le fv fn y_2 y_4 y_6 y_8 H.size I0 I1 I5 I2 I3 I6) (cwV 4 (lwC_X4_heavy hts0) lwG_X4_heavy rfl rfl rfl (by decide +kernel) ⟨Nat.le_of_ble_eq_true rfl, Nat.le_of_ble_eq_true rfl⟩) ⟨fun a U g mk q => by obtain ⟨q0, q1, qP, qK, qD, qn0⟩ := q; exact ⟨q0, q1, qP, va_K.moved (u := U) (U := U.calling g mk a) (Vm.Alike.refl U.vm) qK, qD, va_Nw.same (u := U) (U := U.calling g mk a) rfl rfl qn0⟩, kx_rc4 hKc hPc (q0 := 0) rfl, fun U hU hW => ⟨rfl, by rw [hU], by rw [hU]; exact hPc, va_K.moved hW.alike hKc, hDc.weaken (fun _ _ _ _ => trivial), va_Nw.warmM hW hN__methodLinkNest_RX3_42_yX4_isHeavy_RX4⟩⟩ rfl rfl hl.1 rfl (lv_room (Nat.le_of_ble_eq_true rfl)) dL_law_1239 (lw_fitJ hj hL (Nat.le_of_ble_eq_true rfl) (Nat.le_of_ble_eq_true rfl))) hS (fun q _ h => hFc q h) hFc (fun r_9 u t H1 locs ht hvm w_9 hB hz1 hk1 hS => ?_)
  obtain ⟨o_10, o_11, o_12, o_13, o_14, o_15, o_16, o_17, o_18, o_19, o_20, o_21, o_22, o_23, o_24, o_25, o_26, o_27, o_28, o_29⟩ := u
  dsimp only at w_9 hB
  obtain ⟨hP1, hK1, hD1⟩ := hB
  rw [ht] at hP1
  have hK1 := va_K.moved hvm.symm hK1
  obtain ⟨hP, hD⟩ := kx_joinM (w2 := [kx_4 xm_ xq_row xq_t xt_ xh0 xk0 xw_ xz_ slots o_10, kx_2 xq_t xq_row xq_joined xq_from xq_to xq_size xq_lossOf xq_lessBy xq_value xq_number o_11 o_12, kx_0 xq_row xq_cell len, kx_a xq_cell cyI 160 f, kx_a xq_from cyI 319 o_13, kx_a xq_to cyI 319 o_14, kx_a xq_size cyI 319 o_15, kx_a xq_lossOf cyI 319 o_16, kx_a xq_lessBy cyI 319 o_17, kx_a xq_value cyI 1914 o_18, kx_a xq_number cyI 1914 o_19, kx_3 xq_joined xj_v xj_n o_20 o_21 o_22, kx_a xj_v cyI 12 o_23, kx_a xj_n cyI 12 o_24, kx_3 xh0 xa_v xa_n o_25 o_26 o_27, kx_a xa_v cyI 12 o_28, kx_a xa_n cyI 12 o_29, kx_3 xk0 xkv xkn sb lb eb, kx_a xkv cyI 12 gb, kx_a xkn cyI 12 nb, kx_1 xt_ xt_k xt_o tk mo, kx_a xt_k cyI 160 fk, kx_a xt_o cyI 160 fq, kx_a xw_ cyI 160 fw, kx_a xz_ cyI 161 fz, kx_5 yh0 yg_row len slots u_thrown yg_many yg_loss yg_less yg_voteValue yg_voteNumber yg_allValue yg_allNumber u_allMany yg_nodeL yg_nodeR u_nodes yg_part u_partMany yg_wasMany yg_wasLoss yg_wasValue yg_wasNumber yg_path u_pathMany yg_heavyValue yg_heavyTimes u_heavyMany yg_fewest yg_which yg_met u_mostMet, kx_a yg_row cyI 160 f, kx_a yg_many cyI 324 u_many, kx_a yg_loss cyI 324 u_loss, kx_a yg_less cyI 324 u_less, kx_a yg_voteValue cyI 1944 u_voteValue, kx_a yg_voteNumber cyI 1944 u_voteNumber, kx_a yg_allValue cyI 12 u_allValue, kx_a yg_allNumber cyI 12 u_allNumber, kx_a yg_nodeL cyI 320 u_nodeL, kx_a yg_nodeR cyI 320 u_nodeR, kx_a yg_part cyI 320 u_part, kx_a yg_wasMany cyI 320 u_wasMany, kx_a yg_wasLoss cyI 320 u_wasLoss, kx_a yg_wasValue cyI 1920 u_wasValue, kx_a yg_wasNumber cyI 1920 u_wasNumber, kx_a yg_path cyI 12 u_path, kx_a yg_heavyValue cyI 160 u_heavyValue, kx_a yg_heavyTimes cyI 160 u_heavyTimes, kx_a yg_fewest cyI 161 u_fewest, kx_a yg_which cyI 160 u_which, kx_a yg_met cyI 160 u_met, (q_o, .inl (cyL, 1, .inr (.inl ol)))]) hP hD hP1 hD1 hk1 hFc [true, true, true, true, true, true, true, true, true, true, true, true, true, true, true, true, true, false, false, false, false, false, false, false, false, false, false, false, false, false, false, false, false, false, false, false, false, false, false, false, false, false, false, false, false, false, false, false] hCc rfl
  clear hP1 hD1 hK1 hk1 hz1 hFc hDc hPc hKc hCc
  generalize H1 = H at hP hS ⊢
  have w_9 : laidX o_10 slots o_12 f o_13 o_14 o_15 o_16 o_17 o_18 o_19 o_11 len ∧ sixes o_15 := w_9
  refine lv_pop hx hb dL_law_1242 rfl ?_
  refine lv_aload_n hx hb dL_law_1243 rfl (lv_at hl 2 rfl) ?_
  refine lv_aload_n hx hb dL_law_1244 rfl (lv_at hl 4 rfl) ?_
  refine lv_iload hx hb dL_law_1245 (lv_at hl 0 rfl) ?_
  refine lv_iconst (v := 1) hx hb dL_law_1247 (by decide) ?_
  refine lv_iadd hx hb dL_law_1248 ?_
  refine lv_topi (fun y_30 ey_30 => ?_)
  have i_30 : y_30.toInt = ix.toInt + 1 := ki_add ey_30 rfl rfl (om_568 hix hj0) (om_569 hix hjI hLI)
  refine va_sld hx hb hX hbl hbA hS (i := y_30) (ki_in (om_570 hix hj0 i_30) (om_571 hix hjI i_30)) dL_law_1249 ?_
  refine lv_topi (fun y_31 ey_31 => ?_)
  have qy_31 : y_2 = y_31 := by rw [ey_2, ey_31, ki_nateq (show y_1.toInt = y_30.toInt from (om_576 i_1 i_30))]
  subst qy_31
  refine lv_aload_n hx hb dL_law_1250 rfl (lv_at hl 4 rfl) ?_
  refine lv_iload hx hb dL_law_1251 (lv_at hl 0 rfl) ?_
  refine lv_iconst (v := 2) hx hb dL_law_1253 (by decide) ?_
  refine lv_iadd hx hb dL_law_1254 ?_
  refine lv_topi (fun y_32 ey_32 => ?_)
  have i_32 : y_32.toInt = ix.toInt + 2 := ki_add ey_32 rfl rfl (om_572 hix hj0) (om_573 hix hjI hLI)
  refine va_sld hx hb hX hbl hbA hS (i := y_32) (ki_in (om_574 hix hj0 i_32) (om_575 hix hjI i_32)) dL_law_1255 ?_
  refine lv_topi (fun y_33 ey_33 => ?_)
  have qy_33 : y_4 = y_33 := by rw [ey_4, ey_33, ki_nateq (show y_3.toInt = y_32.toInt from (om_577 i_3 i_32))]
  subst qy_33
  refine lv_aload_n hx hb dL_law_1256 rfl (lv_at hl 4 rfl) ?_
  refine lv_iload hx hb dL_law_1257 (lv_at hl 0 rfl) ?_
  refine lv_iconst (v := 3) hx hb dL_law_1259 (by decide) ?_
  refine lv_iadd hx hb dL_law_1260 ?_
  refine lv_topi (fun y_34 ey_34 => ?_)
  have i_34 : y_34.toInt = ix.toInt + 3 := ki_add ey_34 rfl rfl (om_580 hix hj0) (om_581 hix hjI hLI)
  refine va_sld hx hb hX hbl hbA hS (i := y_34) (ki_in (om_582 hix hj0 i_34) (om_583 hix hjI i_34)) dL_law_1261 ?_
  refine lv_topi (fun y_35 ey_35 => ?_)
  have qy_35 : y_6 = y_35 := by rw [ey_6, ey_35, ki_nateq (show y_5.toInt = y_34.toInt from (om_584 i_5 i_34))]
  subst qy_35
  refine lv_aload_n hx hb dL_law_1262 rfl (lv_at hl 4 rfl) ?_
  refine lv_iload hx hb dL_law_1263 (lv_at hl 0 rfl) ?_
  refine lv_iconst (v := 4) hx hb dL_law_1265 (by decide) ?_
  refine lv_iadd hx hb dL_law_1266 ?_
  refine lv_topi (fun y_36 ey_36 => ?_)
  have i_36 : y_36.toInt = ix.toInt + 4 := ki_add ey_36 rfl rfl (om_585 hix hj0) (om_586 hix hjI hLI)
  refine va_sld hx hb hX hbl hbA hS (i := y_36) (ki_in (om_587 hix hj0 i_36) (om_588 hix hjI i_36)) dL_law_1267 ?_
  refine lv_topi (fun y_37 ey_37 => ?_)
  have qy_37 : y_8 = y_37 := by rw [ey_8, ey_37, ki_nateq (show y_7.toInt = y_36.toInt from (om_589 i_7 i_36))]
  subst qy_37
  obtain ⟨hPc, hDc, hFc, hCc⟩ := kx_preM (wc := [kx_5 yh0 yg_row len slots u_thrown yg_many yg_loss yg_less yg_voteValue yg_voteNumber yg_allValue yg_allNumber u_allMany yg_nodeL yg_nodeR u_nodes yg_part u_partMany yg_wasMany yg_wasLoss yg_wasValue yg_wasNumber yg_path u_pathMany yg_heavyValue yg_heavyTimes u_heavyMany yg_fewest yg_which yg_met u_mostMet, kx_a yg_row cyI 160 f, kx_a yg_heavyValue cyI 160 u_heavyValue, kx_a yg_heavyTimes cyI 160 u_heavyTimes]) hP hD hS hA [false, false, false, false, false, false, false, false, false, false, false, false, false, false, false, false, false, false, false, false, false, false, false, false, false, true, true, false, false, false, false, false, false, false, false, false, false, false, false, false, false, false, true, true, false, false, false, false] rfl
  have hKc := hK.sub (tys' := [(cyI, .int)]) [0] rfl
  refine va_calli (va_runV (As := [.int y_2, .int y_4, .int y_6, .int y_8]) (rest := []) ⟨hx, hb, hml, hown, (lwC_X5_heavy hts0)⟩ (kx_un (c_X5_heavy l dC dI yh0 yg_row yg_many yg_loss yg_less yg_voteValue yg_voteNumber yg_allValue yg_allNumber yg_nodeL yg_nodeR yg_part yg_wasMany yg_wasLoss yg_wasValue yg_wasNumber yg_path yg_heavyValue yg_heavyTimes yg_fewest yg_which yg_met len slots u_thrown u_allMany u_nodes u_partMany u_pathMany u_heavyMany u_mostMet cyI f u_heavyValue u_heavyTimes y_2 y_4 y_6 y_8 H.size I0 I1)) (cwV 4 (lwC_X5_heavy hts0) lwG_X5_heavy rfl rfl rfl (by decide +kernel) ⟨Nat.le_of_ble_eq_true rfl, Nat.le_of_ble_eq_true rfl⟩) ⟨fun a U g mk q => by obtain ⟨q0, q1, qP, qK, qD⟩ := q; exact ⟨q0, q1, qP, va_K.moved (u := U) (U := U.calling g mk a) (Vm.Alike.refl U.vm) qK, qD⟩, kx_rc5 hKc hPc (q0 := 0) rfl, fun U hU hW => ⟨rfl, by rw [hU], by rw [hU]; exact hPc, va_K.moved hW.alike hKc, hDc.weaken (fun _ _ _ _ => trivial)⟩⟩ rfl rfl hl.1 rfl (lv_room (Nat.le_of_ble_eq_true rfl)) dL_law_1268 (lw_fitJ hj hL (Nat.le_of_ble_eq_true rfl) (Nat.le_of_ble_eq_true rfl))) hS (fun q _ h => hFc q h) hFc (fun r_38 u t H1 locs ht hvm w_38 hB hz1 hk1 hS => ?_)
  obtain ⟨o_39, o_40, o_41⟩ := u
  dsimp only at w_38 hB
  obtain ⟨hP1, hK1, hD1⟩ := hB
  rw [ht] at hP1
  have hK1 := va_K.moved hvm.symm hK1
  obtain ⟨hP, hD⟩ := kx_joinM (w2 := [kx_4 xm_ xq_row xq_t xt_ xh0 xk0 xw_ xz_ slots o_10, kx_2 xq_t xq_row xq_joined xq_from xq_to xq_size xq_lossOf xq_lessBy xq_value xq_number o_11 o_12, kx_0 xq_row xq_cell len, kx_a xq_cell cyI 160 f, kx_a xq_from cyI 319 o_13, kx_a xq_to cyI 319 o_14, kx_a xq_size cyI 319 o_15, kx_a xq_lossOf cyI 319 o_16, kx_a xq_lessBy cyI 319 o_17, kx_a xq_value cyI 1914 o_18, kx_a xq_number cyI 1914 o_19, kx_3 xq_joined xj_v xj_n o_20 o_21 o_22, kx_a xj_v cyI 12 o_23, kx_a xj_n cyI 12 o_24, kx_3 xh0 xa_v xa_n o_25 o_26 o_27, kx_a xa_v cyI 12 o_28, kx_a xa_n cyI 12 o_29, kx_3 xk0 xkv xkn sb lb eb, kx_a xkv cyI 12 gb, kx_a xkn cyI 12 nb, kx_1 xt_ xt_k xt_o tk mo, kx_a xt_k cyI 160 fk, kx_a xt_o cyI 160 fq, kx_a xw_ cyI 160 fw, kx_a xz_ cyI 161 fz, kx_5 yh0 yg_row len slots 0 yg_many yg_loss yg_less yg_voteValue yg_voteNumber yg_allValue yg_allNumber u_allMany yg_nodeL yg_nodeR u_nodes yg_part u_partMany yg_wasMany yg_wasLoss yg_wasValue yg_wasNumber yg_path u_pathMany yg_heavyValue yg_heavyTimes o_39 yg_fewest yg_which yg_met u_mostMet, kx_a yg_row cyI 160 f, kx_a yg_many cyI 324 u_many, kx_a yg_loss cyI 324 u_loss, kx_a yg_less cyI 324 u_less, kx_a yg_voteValue cyI 1944 u_voteValue, kx_a yg_voteNumber cyI 1944 u_voteNumber, kx_a yg_allValue cyI 12 u_allValue, kx_a yg_allNumber cyI 12 u_allNumber, kx_a yg_nodeL cyI 320 u_nodeL, kx_a yg_nodeR cyI 320 u_nodeR, kx_a yg_part cyI 320 u_part, kx_a yg_wasMany cyI 320 u_wasMany, kx_a yg_wasLoss cyI 320 u_wasLoss, kx_a yg_wasValue cyI 1920 u_wasValue, kx_a yg_wasNumber cyI 1920 u_wasNumber, kx_a yg_path cyI 12 u_path, kx_a yg_heavyValue cyI 160 o_40, kx_a yg_heavyTimes cyI 160 o_41, kx_a yg_fewest cyI 161 u_fewest, kx_a yg_which cyI 160 u_which, kx_a yg_met cyI 160 u_met, (q_o, .inl (cyL, 1, .inr (.inl ol)))]) hP hD hP1 hD1 hk1 hFc [false, false, false, false, false, false, false, false, false, false, false, false, false, false, false, false, false, false, false, false, false, false, false, false, false, true, true, false, false, false, false, false, false, false, false, false, false, false, false, false, false, false, true, true, false, false, false, false] hCc rfl
  clear hP1 hD1 hK1 hk1 hz1 hFc hDc hPc hKc hCc
  generalize H1 = H at hP hS ⊢
  have w_38 : True := w_38
  refine lv_pop hx hb dL_law_1271 rfl ?_
  refine lv_goto (tgt := 2288) hx hb dL_law_1272 (by decide) ?_
  obtain ⟨x_42, ex_42⟩ : ∃ y : Int32, y = ix + 8 := ⟨_, rfl⟩
  have i_42 : x_42.toInt = ix.toInt + 8 := ki_add ex_42 rfl rfl (om_578 hix hj0) (om_579 hix hjI hLI)
  refine lv_iinc (v := x_42) (lv' := [(4, .int x_42), (3, .ref q_o), (2, .ref yh0), (1, .ref xm_), (0, .ref b)]) hx hb dL_law_2288 hl (k := 0) rfl (by rw [ex_42]; rfl) (by decide) rfl (fun ls hl => ?_)
  refine lv_goto (tgt := 23) hx hb dL_law_2291 (by decide) ?_
  refine W.widen (k := 60 + 2 * (j + 1)) (n := 20000 + 12 * (j + 1)) (lw_wdC (k := 0) (Nat.le_of_ble_eq_true rfl)) (lw_wdS (k := 0) (Nat.le_of_ble_eq_true rfl)) ?_
  have k_43 : (0 : Int32).toInt = 0 := rfl
  exact ih len slots o_10 o_11 o_12 o_20 o_21 o_22 o_25 o_26 o_27 sb lb eb tk mo 0 u_allMany u_nodes u_partMany u_pathMany o_39 u_mostMet f o_13 o_14 o_15 o_16 o_17 o_18 o_19 o_23 o_24 o_28 o_29 gb nb fk fq fw fz u_many u_loss u_less u_voteValue u_voteNumber u_allValue u_allNumber u_nodeL u_nodeR u_part u_wasMany u_wasLoss u_wasValue u_wasNumber u_path o_40 o_41 u_fewest u_which u_met ol x_42 (om_ix i_42 hix) I0 I1 I2 I3 I4 w_9.2 w_9.1 I7 I8 _ _ ls hP hD hS (lv_sub hl [0, 1, 2, 3, 4] rfl)

set_option maxHeartbeats 4000000 in
set_option maxRecDepth 100000 in
theorem lc_26 {p : Program} {l : Launch} {e : Env} {s : State} {m : MethodId} {below : List Frame} {meth : Method} {c : Code} {dC : Nat → ClassId} {dI : Nat → Nat → Nat} {b : Nat} {xs : Nat → Int32} (hl0 : l.stackTraces = false) {L j : Nat} (hL : L ≤ 4096) (hj : 8 * j + 8 ≤ L) (C0 : lw_At p s m meth c b L xs) (hth : ki_ThA (fun q : Nat => s.heap.size ≤ q) s) {cyI cyL : ClassId} {xm_ xq_t xq_row xq_cell xq_from xq_to xq_size xq_lossOf xq_lessBy xq_value xq_number xq_joined xj_v xj_n xh0 xa_v xa_n xk0 xkv xkn xt_ xt_k xt_o xw_ xz_ yh0 yg_row yg_many yg_loss yg_less yg_voteValue yg_voteNumber yg_allValue yg_allNumber yg_nodeL yg_nodeR yg_part yg_wasMany yg_wasLoss yg_wasValue yg_wasNumber yg_path yg_heavyValue yg_heavyTimes yg_fewest yg_which yg_met q_o : Nat} (hK : va_K (dC, dI) vwCl [(cyI, .int), (cyL, .long)] s) (ih : lw_G p l e s m below meth c b dC dI cyI cyL xm_ xq_t xq_row xq_cell xq_from xq_to xq_size xq_lossOf xq_lessBy xq_value xq_number xq_joined xj_v xj_n xh0 xa_v xa_n xk0 xkv xkn xt_ xt_k xt_o xw_ xz_ yh0 yg_row yg_many yg_loss yg_less yg_voteValue yg_voteNumber yg_allValue yg_allNumber yg_nodeL yg_nodeR yg_part yg_wasMany yg_wasLoss yg_wasValue yg_wasNumber yg_path yg_heavyValue yg_heavyTimes yg_fewest yg_which yg_met q_o (j + 1)) {len slots old nodes here js jl je vs lo le sb lb eb tk mo u_thrown u_allMany u_nodes u_partMany u_pathMany u_heavyMany u_mostMet ix : Int32} {f ff ft fs fo fe uv un jv jn fv fn gb nb fk fq fw fz u_many u_loss u_less u_voteValue u_voteNumber u_allValue u_allNumber u_nodeL u_nodeR u_part u_wasMany u_wasLoss u_wasValue u_wasNumber u_path u_heavyValue u_heavyTimes u_fewest u_which u_met : Nat → Int32} {ol : Nat → Int64} (hix : ix.toInt = 8 * (j : Int)) (I0 : 0 ≤ len.toInt) (I1 : len.toInt ≤ 160) (I2 : 1 ≤ slots.toInt) (I3 : slots.toInt ≤ 6) (I4 : shorts f) (I5 : sixes fs) (I6 : laidX old slots here f ff ft fs fo fe uv un nodes len) (I7 : six4 u_many) (I8 : parts320 u_part) {H : Heap} {locs : List Loc} (hP : va_P (dC, dI) vwCl [kx_4 xm_ xq_row xq_t xt_ xh0 xk0 xw_ xz_ slots old, kx_2 xq_t xq_row xq_joined xq_from xq_to xq_size xq_lossOf xq_lessBy xq_value xq_number nodes here, kx_0 xq_row xq_cell len, kx_a xq_cell cyI 160 f, kx_a xq_from cyI 319 ff, kx_a xq_to cyI 319 ft, kx_a xq_size cyI 319 fs, kx_a xq_lossOf cyI 319 fo, kx_a xq_lessBy cyI 319 fe, kx_a xq_value cyI 1914 uv, kx_a xq_number cyI 1914 un, kx_3 xq_joined xj_v xj_n js jl je, kx_a xj_v cyI 12 jv, kx_a xj_n cyI 12 jn, kx_3 xh0 xa_v xa_n vs lo le, kx_a xa_v cyI 12 fv, kx_a xa_n cyI 12 fn, kx_3 xk0 xkv xkn sb lb eb, kx_a xkv cyI 12 gb, kx_a xkn cyI 12 nb, kx_1 xt_ xt_k xt_o tk mo, kx_a xt_k cyI 160 fk, kx_a xt_o cyI 160 fq, kx_a xw_ cyI 160 fw, kx_a xz_ cyI 161 fz, kx_5 yh0 yg_row len slots u_thrown yg_many yg_loss yg_less yg_voteValue yg_voteNumber yg_allValue yg_allNumber u_allMany yg_nodeL yg_nodeR u_nodes yg_part u_partMany yg_wasMany yg_wasLoss yg_wasValue yg_wasNumber yg_path u_pathMany yg_heavyValue yg_heavyTimes u_heavyMany yg_fewest yg_which yg_met u_mostMet, kx_a yg_row cyI 160 f, kx_a yg_many cyI 324 u_many, kx_a yg_loss cyI 324 u_loss, kx_a yg_less cyI 324 u_less, kx_a yg_voteValue cyI 1944 u_voteValue, kx_a yg_voteNumber cyI 1944 u_voteNumber, kx_a yg_allValue cyI 12 u_allValue, kx_a yg_allNumber cyI 12 u_allNumber, kx_a yg_nodeL cyI 320 u_nodeL, kx_a yg_nodeR cyI 320 u_nodeR, kx_a yg_part cyI 320 u_part, kx_a yg_wasMany cyI 320 u_wasMany, kx_a yg_wasLoss cyI 320 u_wasLoss, kx_a yg_wasValue cyI 1920 u_wasValue, kx_a yg_wasNumber cyI 1920 u_wasNumber, kx_a yg_path cyI 12 u_path, kx_a yg_heavyValue cyI 160 u_heavyValue, kx_a yg_heavyTimes cyI 160 u_heavyTimes, kx_a yg_fewest cyI 161 u_fewest, kx_a yg_which cyI 160 u_which, kx_a yg_met cyI 160 u_met, (q_o, .inl (cyL, 1, .inr (.inl ol)))] H) (hD : va_D (fun q : Nat => s.heap.size ≤ q) [kx_4 xm_ xq_row xq_t xt_ xh0 xk0 xw_ xz_ slots old, kx_2 xq_t xq_row xq_joined xq_from xq_to xq_size xq_lossOf xq_lessBy xq_value xq_number nodes here, kx_0 xq_row xq_cell len, kx_a xq_cell cyI 160 f, kx_a xq_from cyI 319 ff, kx_a xq_to cyI 319 ft, kx_a xq_size cyI 319 fs, kx_a xq_lossOf cyI 319 fo, kx_a xq_lessBy cyI 319 fe, kx_a xq_value cyI 1914 uv, kx_a xq_number cyI 1914 un, kx_3 xq_joined xj_v xj_n js jl je, kx_a xj_v cyI 12 jv, kx_a xj_n cyI 12 jn, kx_3 xh0 xa_v xa_n vs lo le, kx_a xa_v cyI 12 fv, kx_a xa_n cyI 12 fn, kx_3 xk0 xkv xkn sb lb eb, kx_a xkv cyI 12 gb, kx_a xkn cyI 12 nb, kx_1 xt_ xt_k xt_o tk mo, kx_a xt_k cyI 160 fk, kx_a xt_o cyI 160 fq, kx_a xw_ cyI 160 fw, kx_a xz_ cyI 161 fz, kx_5 yh0 yg_row len slots u_thrown yg_many yg_loss yg_less yg_voteValue yg_voteNumber yg_allValue yg_allNumber u_allMany yg_nodeL yg_nodeR u_nodes yg_part u_partMany yg_wasMany yg_wasLoss yg_wasValue yg_wasNumber yg_path u_pathMany yg_heavyValue yg_heavyTimes u_heavyMany yg_fewest yg_which yg_met u_mostMet, kx_a yg_row cyI 160 f, kx_a yg_many cyI 324 u_many, kx_a yg_loss cyI 324 u_loss, kx_a yg_less cyI 324 u_less, kx_a yg_voteValue cyI 1944 u_voteValue, kx_a yg_voteNumber cyI 1944 u_voteNumber, kx_a yg_allValue cyI 12 u_allValue, kx_a yg_allNumber cyI 12 u_allNumber, kx_a yg_nodeL cyI 320 u_nodeL, kx_a yg_nodeR cyI 320 u_nodeR, kx_a yg_part cyI 320 u_part, kx_a yg_wasMany cyI 320 u_wasMany, kx_a yg_wasLoss cyI 320 u_wasLoss, kx_a yg_wasValue cyI 1920 u_wasValue, kx_a yg_wasNumber cyI 1920 u_wasNumber, kx_a yg_path cyI 12 u_path, kx_a yg_heavyValue cyI 160 u_heavyValue, kx_a yg_heavyTimes cyI 160 u_heavyTimes, kx_a yg_fewest cyI 161 u_fewest, kx_a yg_which cyI 160 u_which, kx_a yg_met cyI 160 u_met, (q_o, .inl (cyL, 1, .inr (.inl ol)))]) (hS : va_S (fun q : Nat => s.heap.size ≤ q) s.heap H locs) {ls : Array Slot} (hl : lv_has ls 7 [(4, .int ix), (3, .ref q_o), (2, .ref yh0), (1, .ref xm_), (0, .ref b)]) : W p l e room_1 s m #[Value.ref b] below meth c H locs (60 + 2 * j) (20000 + 12 * j) (lw_Z below #[Value.ref b] s) (F0 m 1275 ls []) := by
  obtain ⟨hx, hb, hr, hml, hown, hts0, hX, hbl, hlocks, hgv⟩ := id C0
  have hts := hts0
  have hA : ∀ q : Nat, s.heap.size ≤ q → (fun q : Nat => s.heap.size ≤ q) q := fun _ h => h
  have hbA : ¬ (fun q : Nat => s.heap.size ≤ q) b := Nat.not_le.mpr hbl
  have hown : s.vm.findClass RL = some m.cls := hown
  have hb : c.code = cL_law := hb
  have hj0 : 0 ≤ (j : Int) := Int.natCast_nonneg j
  have hjI : 8 * (j : Int) + 8 ≤ (L : Int) := lw_jI hj
  have hLI : (L : Int) ≤ 4096 := lw_LI hL
  have hN__methodLinkNest_RX3_42_yX4_isHeavy_RX4 : va_Nw (.methodLinkNest RX3 42 yX4_isHeavy RX4) s := va_Nw.of rfl (hts0 (.methodLinkNest RX3 42 yX4_isHeavy RX4) lwW_486)
  refine lv_aload_n hx hb dL_law_1275 rfl (lv_at hl 3 rfl) ?_
  refine lv_aload_n hx hb dL_law_1276 rfl (lv_at hl 4 rfl) ?_
  refine lv_iload hx hb dL_law_1277 (lv_at hl 0 rfl) ?_
  refine lv_iconst (v := 1) hx hb dL_law_1279 (by decide) ?_
  refine lv_iadd hx hb dL_law_1280 ?_
  refine lv_topi (fun y_1 ey_1 => ?_)
  have i_1 : y_1.toInt = ix.toInt + 1 := ki_add ey_1 rfl rfl (om_568 hix hj0) (om_569 hix hjI hLI)
  refine va_sld hx hb hX hbl hbA hS (i := y_1) (ki_in (om_570 hix hj0 i_1) (om_571 hix hjI i_1)) dL_law_1281 ?_
  refine lv_topi (fun y_2 ey_2 => ?_)
  refine lv_aload_n hx hb dL_law_1282 rfl (lv_at hl 4 rfl) ?_
  refine lv_iload hx hb dL_law_1283 (lv_at hl 0 rfl) ?_
  refine lv_iconst (v := 2) hx hb dL_law_1285 (by decide) ?_
  refine lv_iadd hx hb dL_law_1286 ?_
  refine lv_topi (fun y_3 ey_3 => ?_)
  have i_3 : y_3.toInt = ix.toInt + 2 := ki_add ey_3 rfl rfl (om_572 hix hj0) (om_573 hix hjI hLI)
  refine va_sld hx hb hX hbl hbA hS (i := y_3) (ki_in (om_574 hix hj0 i_3) (om_575 hix hjI i_3)) dL_law_1287 ?_
  refine lv_topi (fun y_4 ey_4 => ?_)
  refine lv_aload_n hx hb dL_law_1288 rfl (lv_at hl 4 rfl) ?_
  refine lv_iload hx hb dL_law_1289 (lv_at hl 0 rfl) ?_
  refine lv_iconst (v := 3) hx hb dL_law_1291 (by decide) ?_
  refine lv_iadd hx hb dL_law_1292 ?_
  refine lv_topi (fun y_5 ey_5 => ?_)
  have i_5 : y_5.toInt = ix.toInt + 3 := ki_add ey_5 rfl rfl (om_580 hix hj0) (om_581 hix hjI hLI)
  refine va_sld hx hb hX hbl hbA hS (i := y_5) (ki_in (om_582 hix hj0 i_5) (om_583 hix hjI i_5)) dL_law_1293 ?_
  refine lv_topi (fun y_6 ey_6 => ?_)
  refine lv_aload_n hx hb dL_law_1294 rfl (lv_at hl 4 rfl) ?_
  refine lv_iload hx hb dL_law_1295 (lv_at hl 0 rfl) ?_
  refine lv_iconst (v := 4) hx hb dL_law_1297 (by decide) ?_
  refine lv_iadd hx hb dL_law_1298 ?_
  refine lv_topi (fun y_7 ey_7 => ?_)
  have i_7 : y_7.toInt = ix.toInt + 4 := ki_add ey_7 rfl rfl (om_585 hix hj0) (om_586 hix hjI hLI)
  refine va_sld hx hb hX hbl hbA hS (i := y_7) (ki_in (om_587 hix hj0 i_7) (om_588 hix hjI i_7)) dL_law_1299 ?_
  refine lv_topi (fun y_8 ey_8 => ?_)
  refine lv_aload_n hx hb dL_law_1300 rfl (lv_at hl 4 rfl) ?_
  refine lv_iload hx hb dL_law_1301 (lv_at hl 0 rfl) ?_
  refine lv_iconst (v := 5) hx hb dL_law_1303 (by decide) ?_
  refine lv_iadd hx hb dL_law_1304 ?_
  refine lv_topi (fun y_9 ey_9 => ?_)
  have i_9 : y_9.toInt = ix.toInt + 5 := ki_add ey_9 rfl rfl (om_590 hix hj0) (om_591 hix hjI hLI)
  refine va_sld hx hb hX hbl hbA hS (i := y_9) (ki_in (om_592 hix hj0 i_9) (om_593 hix hjI i_9)) dL_law_1305 ?_
  refine lv_topi (fun y_10 ey_10 => ?_)
  refine lv_aload_n hx hb dL_law_1306 rfl (lv_at hl 4 rfl) ?_
  refine lv_iload hx hb dL_law_1307 (lv_at hl 0 rfl) ?_
  refine lv_bipush (v := 6) hx hb dL_law_1309 (by decide) ?_
  refine lv_iadd hx hb dL_law_1311 ?_
  refine lv_topi (fun y_11 ey_11 => ?_)
  have i_11 : y_11.toInt = ix.toInt + 6 := ki_add ey_11 rfl rfl (om_594 hix hj0) (om_595 hix hjI hLI)
  refine va_sld hx hb hX hbl hbA hS (i := y_11) (ki_in (om_596 hix hj0 i_11) (om_597 hix hjI i_11)) dL_law_1312 ?_
  refine lv_topi (fun y_12 ey_12 => ?_)
  refine lv_aload_n hx hb dL_law_1313 rfl (lv_at hl 1 rfl) ?_
  have hPc := hP.sub (ws' := [kx_4 xm_ xq_row xq_t xt_ xh0 xk0 xw_ xz_ slots old, kx_2 xq_t xq_row xq_joined xq_from xq_to xq_size xq_lossOf xq_lessBy xq_value xq_number nodes here, kx_0 xq_row xq_cell len, kx_a xq_cell cyI 160 f, kx_a xq_from cyI 319 ff, kx_a xq_to cyI 319 ft, kx_a xq_size cyI 319 fs, kx_a xq_lossOf cyI 319 fo, kx_a xq_lessBy cyI 319 fe, kx_a xq_value cyI 1914 uv, kx_a xq_number cyI 1914 un, kx_3 xq_joined xj_v xj_n js jl je, kx_a xj_v cyI 12 jv, kx_a xj_n cyI 12 jn, kx_3 xh0 xa_v xa_n vs lo le, kx_a xa_v cyI 12 fv, kx_a xa_n cyI 12 fn, (q_o, .inl (cyL, 1, .inr (.inl ol)))]) [0, 1, 2, 3, 4, 5, 6, 7, 8, 9, 10, 11, 12, 13, 14, 15, 16, 47] rfl
  have hKc := hK.sub (tys' := [(cyI, .int), (cyL, .long)]) [0, 1] rfl
  have hDc := hD.sub (ws' := [kx_4 xm_ xq_row xq_t xt_ xh0 xk0 xw_ xz_ slots old, kx_2 xq_t xq_row xq_joined xq_from xq_to xq_size xq_lossOf xq_lessBy xq_value xq_number nodes here, kx_0 xq_row xq_cell len, kx_a xq_cell cyI 160 f, kx_a xq_from cyI 319 ff, kx_a xq_to cyI 319 ft, kx_a xq_size cyI 319 fs, kx_a xq_lossOf cyI 319 fo, kx_a xq_lessBy cyI 319 fe, kx_a xq_value cyI 1914 uv, kx_a xq_number cyI 1914 un, kx_3 xq_joined xj_v xj_n js jl je, kx_a xj_v cyI 12 jv, kx_a xj_n cyI 12 jn, kx_3 xh0 xa_v xa_n vs lo le, kx_a xa_v cyI 12 fv, kx_a xa_n cyI 12 fn, (q_o, .inl (cyL, 1, .inr (.inl ol)))]) [0, 1, 2, 3, 4, 5, 6, 7, 8, 9, 10, 11, 12, 13, 14, 15, 16, 47] (by decide) rfl
  have hFc := va_free (wc := [kx_4 xm_ xq_row xq_t xt_ xh0 xk0 xw_ xz_ slots old, kx_2 xq_t xq_row xq_joined xq_from xq_to xq_size xq_lossOf xq_lessBy xq_value xq_number nodes here, kx_0 xq_row xq_cell len, kx_a xq_cell cyI 160 f, kx_a xq_from cyI 319 ff, kx_a xq_to cyI 319 ft, kx_a xq_size cyI 319 fs, kx_a xq_lossOf cyI 319 fo, kx_a xq_lessBy cyI 319 fe, kx_a xq_value cyI 1914 uv, kx_a xq_number cyI 1914 un, kx_3 xq_joined xj_v xj_n js jl je, kx_a xj_v cyI 12 jv, kx_a xj_n cyI 12 jn, kx_3 xh0 xa_v xa_n vs lo le, kx_a xa_v cyI 12 fv, kx_a xa_n cyI 12 fn, (q_o, .inl (cyL, 1, .inr (.inl ol)))]) hD hS hA [0, 1, 2, 3, 4, 5, 6, 7, 8, 9, 10, 11, 12, 13, 14, 15, 16, 47] rfl
  refine va_calli (vx_runSW (As := [.ref xm_, .int y_2, .int y_4, .int y_6, .int y_8, .int y_10, .int y_12, .ref q_o]) (rest := []) ⟨hx, hb, hml, hown, (lwC_L_heavyAt hts0)⟩ (c_L_heavyAt_x l hl0 dC dI xm_ xq_row xq_t xt_ xh0 xk0 xw_ xz_ slots old xq_joined xq_from xq_to xq_size xq_lossOf xq_lessBy xq_value xq_number nodes here xq_cell cyI len f ff ft fs fo uv un fe xj_v xj_n js jl je jv jn xa_v xa_n vs lo le fv fn y_2 y_4 y_6 y_8 y_10 y_12 cyL q_o ol H.size I0 I1 I5 I2 I3 I6) (vx_cwSW 8 (lwC_L_heavyAt hts0) lwG_L_heavyAt rfl rfl rfl (by decide +kernel) ⟨Nat.le_of_ble_eq_true rfl, Nat.le_of_ble_eq_true rfl⟩) ⟨fun a U g mk q => by obtain ⟨q0, q1, qP, qK, qD, qn0, qT⟩ := q; exact ⟨q0, q1, qP, va_K.moved (u := U) (U := U.calling g mk a) (Vm.Alike.refl U.vm) qK, qD, va_Nw.same (u := U) (U := U.calling g mk a) rfl rfl qn0, qT.call g mk a⟩, fun U hU hW => ⟨rfl, by rw [hU], by rw [hU]; exact hPc, va_K.moved hW.alike hKc, hDc.weaken (fun _ _ _ _ => trivial), va_Nw.warmM hW hN__methodLinkNest_RX3_42_yX4_isHeavy_RX4, hth.from hS hU hW hFc⟩⟩ rfl rfl hl.1 rfl (lv_room (Nat.le_of_ble_eq_true rfl)) dL_law_1314 (lw_fitJ hj hL (Nat.le_of_ble_eq_true rfl) (Nat.le_of_ble_eq_true rfl))) hS (fun q _ h => hFc q h) hFc (fun r_13 u t H1 locs ht hvm w_13 hB hz1 hk1 hS => ?_)
  obtain ⟨o_14, o_15, o_16, o_17, o_18, o_19, o_20, o_21, o_22, o_23, o_24, o_25, o_26, o_27, o_28, o_29, o_30, o_31, o_32, o_33, o_34, o_35⟩ := u
  dsimp only at w_13 hB
  obtain ⟨hP1, hK1, hD1⟩ := hB
  rw [ht] at hP1
  have hK1 := va_K.moved hvm.symm hK1
  obtain ⟨hP, hD⟩ := va_join (wr := [kx_3 xk0 xkv xkn sb lb eb, kx_a xkv cyI 12 gb, kx_a xkn cyI 12 nb, kx_1 xt_ xt_k xt_o tk mo, kx_a xt_k cyI 160 fk, kx_a xt_o cyI 160 fq, kx_a xw_ cyI 160 fw, kx_a xz_ cyI 161 fz, kx_5 yh0 yg_row len slots u_thrown yg_many yg_loss yg_less yg_voteValue yg_voteNumber yg_allValue yg_allNumber u_allMany yg_nodeL yg_nodeR u_nodes yg_part u_partMany yg_wasMany yg_wasLoss yg_wasValue yg_wasNumber yg_path u_pathMany yg_heavyValue yg_heavyTimes u_heavyMany yg_fewest yg_which yg_met u_mostMet, kx_a yg_row cyI 160 f, kx_a yg_many cyI 324 u_many, kx_a yg_loss cyI 324 u_loss, kx_a yg_less cyI 324 u_less, kx_a yg_voteValue cyI 1944 u_voteValue, kx_a yg_voteNumber cyI 1944 u_voteNumber, kx_a yg_allValue cyI 12 u_allValue, kx_a yg_allNumber cyI 12 u_allNumber, kx_a yg_nodeL cyI 320 u_nodeL, kx_a yg_nodeR cyI 320 u_nodeR, kx_a yg_part cyI 320 u_part, kx_a yg_wasMany cyI 320 u_wasMany, kx_a yg_wasLoss cyI 320 u_wasLoss, kx_a yg_wasValue cyI 1920 u_wasValue, kx_a yg_wasNumber cyI 1920 u_wasNumber, kx_a yg_path cyI 12 u_path, kx_a yg_heavyValue cyI 160 u_heavyValue, kx_a yg_heavyTimes cyI 160 u_heavyTimes, kx_a yg_fewest cyI 161 u_fewest, kx_a yg_which cyI 160 u_which, kx_a yg_met cyI 160 u_met]) (w1 := [kx_4 xm_ xq_row xq_t xt_ xh0 xk0 xw_ xz_ slots o_14, kx_2 xq_t xq_row xq_joined xq_from xq_to xq_size xq_lossOf xq_lessBy xq_value xq_number o_15 o_16, kx_0 xq_row xq_cell len, kx_a xq_cell cyI 160 f, kx_a xq_from cyI 319 o_17, kx_a xq_to cyI 319 o_18, kx_a xq_size cyI 319 o_19, kx_a xq_lossOf cyI 319 o_20, kx_a xq_lessBy cyI 319 o_21, kx_a xq_value cyI 1914 o_22, kx_a xq_number cyI 1914 o_23, kx_3 xq_joined xj_v xj_n o_24 o_25 o_26, kx_a xj_v cyI 12 o_27, kx_a xj_n cyI 12 o_28, kx_3 xh0 xa_v xa_n o_29 o_30 o_31, kx_a xa_v cyI 12 o_32, kx_a xa_n cyI 12 o_33, (q_o, .inl (cyL, 1, .inr (.inl o_34)))]) hP hD [0, 1, 2, 3, 4, 5, 6, 7, 8, 9, 10, 11, 12, 13, 14, 15, 16, 47] [17, 18, 19, 20, 21, 22, 23, 24, 25, 26, 27, 28, 29, 30, 31, 32, 33, 34, 35, 36, 37, 38, 39, 40, 41, 42, 43, 44, 45, 46] rfl rfl (by decide) (by decide) hk1 hFc hP1 hD1
  clear hP1 hD1 hK1 hk1 hz1 hFc hDc hPc hKc
  generalize H1 = H at hP hS ⊢
  obtain ⟨hP, hD⟩ := kx_re (w2 := [kx_3 xk0 xkv xkn sb lb eb, kx_a xkv cyI 12 gb, kx_a xkn cyI 12 nb, kx_1 xt_ xt_k xt_o tk mo, kx_a xt_k cyI 160 fk, kx_a xt_o cyI 160 fq, kx_a xw_ cyI 160 fw, kx_a xz_ cyI 161 fz, kx_5 yh0 yg_row len slots u_thrown yg_many yg_loss yg_less yg_voteValue yg_voteNumber yg_allValue yg_allNumber u_allMany yg_nodeL yg_nodeR u_nodes yg_part u_partMany yg_wasMany yg_wasLoss yg_wasValue yg_wasNumber yg_path u_pathMany yg_heavyValue yg_heavyTimes u_heavyMany yg_fewest yg_which yg_met u_mostMet, kx_a yg_row cyI 160 f, kx_a yg_many cyI 324 u_many, kx_a yg_loss cyI 324 u_loss, kx_a yg_less cyI 324 u_less, kx_a yg_voteValue cyI 1944 u_voteValue, kx_a yg_voteNumber cyI 1944 u_voteNumber, kx_a yg_allValue cyI 12 u_allValue, kx_a yg_allNumber cyI 12 u_allNumber, kx_a yg_nodeL cyI 320 u_nodeL, kx_a yg_nodeR cyI 320 u_nodeR, kx_a yg_part cyI 320 u_part, kx_a yg_wasMany cyI 320 u_wasMany, kx_a yg_wasLoss cyI 320 u_wasLoss, kx_a yg_wasValue cyI 1920 u_wasValue, kx_a yg_wasNumber cyI 1920 u_wasNumber, kx_a yg_path cyI 12 u_path, kx_a yg_heavyValue cyI 160 u_heavyValue, kx_a yg_heavyTimes cyI 160 u_heavyTimes, kx_a yg_fewest cyI 161 u_fewest, kx_a yg_which cyI 160 u_which, kx_a yg_met cyI 160 u_met, kx_4 xm_ xq_row xq_t xt_ xh0 xk0 xw_ xz_ slots o_14, kx_2 xq_t xq_row xq_joined xq_from xq_to xq_size xq_lossOf xq_lessBy xq_value xq_number o_15 o_16, kx_0 xq_row xq_cell len, kx_a xq_cell cyI 160 f, kx_a xq_from cyI 319 o_17, kx_a xq_to cyI 319 o_18, kx_a xq_size cyI 319 o_19, kx_a xq_lossOf cyI 319 o_20, kx_a xq_lessBy cyI 319 o_21, kx_a xq_value cyI 1914 o_22, kx_a xq_number cyI 1914 o_23, kx_3 xq_joined xj_v xj_n o_24 o_25 o_26, kx_a xj_v cyI 12 o_27, kx_a xj_n cyI 12 o_28, kx_3 xh0 xa_v xa_n o_29 o_30 o_31, kx_a xa_v cyI 12 o_32, kx_a xa_n cyI 12 o_33, (q_o, .inl (cyL, 1, .inr (.inl o_34)))]) hP hD rfl
  refine W.widen (k := (60 + 2 * j) + 1) (n := (20000 + 12 * j) + 6) (by omega) (by omega) ?_
  have w_13 : ((r_13 = 0 ∧ ((0 : Int) ≤ 1) ∧ o_34 = vp_updL ol (0 : Int32).toNatClampNeg o_35.toInt64) ∨ (r_13 = 1 ∧ ((0 : Int) ≤ 1))) ∧ laidX o_14 slots o_16 f o_17 o_18 o_19 o_20 o_21 o_22 o_23 o_15 len ∧ sixes o_19 := w_13
  refine lv_istore (lv' := [(5, .int r_13), (4, .int ix), (3, .ref q_o), (2, .ref yh0), (1, .ref xm_), (0, .ref b)]) hx hb dL_law_1317 hl (by decide) rfl (fun ls hl => ?_)
  refine lv_aload_n hx hb dL_law_1319 rfl (lv_at hl 3 rfl) ?_
  refine lv_aload_n hx hb dL_law_1320 rfl (lv_at hl 5 rfl) ?_
  refine lv_iload hx hb dL_law_1321 (lv_at hl 1 rfl) ?_
  refine lv_iconst (v := 1) hx hb dL_law_1323 (by decide) ?_
  refine lv_iadd hx hb dL_law_1324 ?_
  refine lv_topi (fun y_36 ey_36 => ?_)
  have i_36 : y_36.toInt = ix.toInt + 1 := ki_add ey_36 rfl rfl (om_568 hix hj0) (om_569 hix hjI hLI)
  refine va_sld hx hb hX hbl hbA hS (i := y_36) (ki_in (om_570 hix hj0 i_36) (om_571 hix hjI i_36)) dL_law_1325 ?_
  refine lv_topi (fun y_37 ey_37 => ?_)
  have qy_37 : y_2 = y_37 := by rw [ey_2, ey_37, ki_nateq (show y_1.toInt = y_36.toInt from (om_576 i_1 i_36))]
  subst qy_37
  refine lv_aload_n hx hb dL_law_1326 rfl (lv_at hl 5 rfl) ?_
  refine lv_iload hx hb dL_law_1327 (lv_at hl 1 rfl) ?_
  refine lv_iconst (v := 2) hx hb dL_law_1329 (by decide) ?_
  refine lv_iadd hx hb dL_law_1330 ?_
  refine lv_topi (fun y_38 ey_38 => ?_)
  have i_38 : y_38.toInt = ix.toInt + 2 := ki_add ey_38 rfl rfl (om_572 hix hj0) (om_573 hix hjI hLI)
  refine va_sld hx hb hX hbl hbA hS (i := y_38) (ki_in (om_574 hix hj0 i_38) (om_575 hix hjI i_38)) dL_law_1331 ?_
  refine lv_topi (fun y_39 ey_39 => ?_)
  have qy_39 : y_4 = y_39 := by rw [ey_4, ey_39, ki_nateq (show y_3.toInt = y_38.toInt from (om_577 i_3 i_38))]
  subst qy_39
  refine lv_aload_n hx hb dL_law_1332 rfl (lv_at hl 5 rfl) ?_
  refine lv_iload hx hb dL_law_1333 (lv_at hl 1 rfl) ?_
  refine lv_iconst (v := 3) hx hb dL_law_1335 (by decide) ?_
  refine lv_iadd hx hb dL_law_1336 ?_
  refine lv_topi (fun y_40 ey_40 => ?_)
  have i_40 : y_40.toInt = ix.toInt + 3 := ki_add ey_40 rfl rfl (om_580 hix hj0) (om_581 hix hjI hLI)
  refine va_sld hx hb hX hbl hbA hS (i := y_40) (ki_in (om_582 hix hj0 i_40) (om_583 hix hjI i_40)) dL_law_1337 ?_
  refine lv_topi (fun y_41 ey_41 => ?_)
  have qy_41 : y_6 = y_41 := by rw [ey_6, ey_41, ki_nateq (show y_5.toInt = y_40.toInt from (om_584 i_5 i_40))]
  subst qy_41
  refine lv_aload_n hx hb dL_law_1338 rfl (lv_at hl 5 rfl) ?_
  refine lv_iload hx hb dL_law_1339 (lv_at hl 1 rfl) ?_
  refine lv_iconst (v := 4) hx hb dL_law_1341 (by decide) ?_
  refine lv_iadd hx hb dL_law_1342 ?_
  refine lv_topi (fun y_42 ey_42 => ?_)
  have i_42 : y_42.toInt = ix.toInt + 4 := ki_add ey_42 rfl rfl (om_585 hix hj0) (om_586 hix hjI hLI)
  refine va_sld hx hb hX hbl hbA hS (i := y_42) (ki_in (om_587 hix hj0 i_42) (om_588 hix hjI i_42)) dL_law_1343 ?_
  refine lv_topi (fun y_43 ey_43 => ?_)
  have qy_43 : y_8 = y_43 := by rw [ey_8, ey_43, ki_nateq (show y_7.toInt = y_42.toInt from (om_589 i_7 i_42))]
  subst qy_43
  refine lv_aload_n hx hb dL_law_1344 rfl (lv_at hl 5 rfl) ?_
  refine lv_iload hx hb dL_law_1345 (lv_at hl 1 rfl) ?_
  refine lv_iconst (v := 5) hx hb dL_law_1347 (by decide) ?_
  refine lv_iadd hx hb dL_law_1348 ?_
  refine lv_topi (fun y_44 ey_44 => ?_)
  have i_44 : y_44.toInt = ix.toInt + 5 := ki_add ey_44 rfl rfl (om_590 hix hj0) (om_591 hix hjI hLI)
  refine va_sld hx hb hX hbl hbA hS (i := y_44) (ki_in (om_592 hix hj0 i_44) (om_593 hix hjI i_44)) dL_law_1349 ?_
  refine lv_topi (fun y_45 ey_45 => ?_)
  have qy_45 : y_10 = y_45 := by rw [ey_10, ey_45, ki_nateq (show y_9.toInt = y_44.toInt from (om_598 i_9 i_44))]
  subst qy_45
  refine lv_aload_n hx hb dL_law_1350 rfl (lv_at hl 5 rfl) ?_
  refine lv_iload hx hb dL_law_1351 (lv_at hl 1 rfl) ?_
  refine lv_bipush (v := 6) hx hb dL_law_1353 (by decide) ?_
  refine lv_iadd hx hb dL_law_1355 ?_
  refine lv_topi (fun y_46 ey_46 => ?_)
  have i_46 : y_46.toInt = ix.toInt + 6 := ki_add ey_46 rfl rfl (om_594 hix hj0) (om_595 hix hjI hLI)
  refine va_sld hx hb hX hbl hbA hS (i := y_46) (ki_in (om_596 hix hj0 i_46) (om_597 hix hjI i_46)) dL_law_1356 ?_
  refine lv_topi (fun y_47 ey_47 => ?_)
  have qy_47 : y_12 = y_47 := by rw [ey_12, ey_47, ki_nateq (show y_11.toInt = y_46.toInt from (om_599 i_11 i_46))]
  subst qy_47
  obtain ⟨hPc, hDc, hFc, hCc⟩ := kx_preM (wc := [kx_5 yh0 yg_row len slots u_thrown yg_many yg_loss yg_less yg_voteValue yg_voteNumber yg_allValue yg_allNumber u_allMany yg_nodeL yg_nodeR u_nodes yg_part u_partMany yg_wasMany yg_wasLoss yg_wasValue yg_wasNumber yg_path u_pathMany yg_heavyValue yg_heavyTimes u_heavyMany yg_fewest yg_which yg_met u_mostMet, kx_a yg_row cyI 160 f, kx_a yg_heavyValue cyI 160 u_heavyValue, kx_a yg_heavyTimes cyI 160 u_heavyTimes]) hP hD hS hA [false, false, false, false, false, false, false, false, true, true, false, false, false, false, false, false, false, false, false, false, false, false, false, false, false, true, true, false, false, false, false, false, false, false, false, false, false, false, false, false, false, false, false, false, false, false, false, false] rfl
  have hKc := hK.sub (tys' := [(cyI, .int)]) [0] rfl
  refine va_calli (va_runV (As := [.int y_2, .int y_4, .int y_6, .int y_8, .int y_10, .int y_12]) (rest := []) ⟨hx, hb, hml, hown, (lwC_X5_heavyAt hts0)⟩ (kx_un (c_X5_heavyAt l dC dI yh0 yg_row yg_many yg_loss yg_less yg_voteValue yg_voteNumber yg_allValue yg_allNumber yg_nodeL yg_nodeR yg_part yg_wasMany yg_wasLoss yg_wasValue yg_wasNumber yg_path yg_heavyValue yg_heavyTimes yg_fewest yg_which yg_met len slots u_thrown u_allMany u_nodes u_partMany u_pathMany u_heavyMany u_mostMet cyI f u_heavyValue u_heavyTimes y_2 y_4 y_6 y_8 y_10 y_12 H.size I0 I1)) (cwV 6 (lwC_X5_heavyAt hts0) lwG_X5_heavyAt rfl rfl rfl (by decide +kernel) ⟨Nat.le_of_ble_eq_true rfl, Nat.le_of_ble_eq_true rfl⟩) ⟨fun a U g mk q => by obtain ⟨q0, q1, qP, qK, qD⟩ := q; exact ⟨q0, q1, qP, va_K.moved (u := U) (U := U.calling g mk a) (Vm.Alike.refl U.vm) qK, qD⟩, kx_rc5 hKc hPc (q0 := 0) rfl, fun U hU hW => ⟨rfl, by rw [hU], by rw [hU]; exact hPc, va_K.moved hW.alike hKc, hDc.weaken (fun _ _ _ _ => trivial)⟩⟩ rfl rfl hl.1 rfl (lv_room (Nat.le_of_ble_eq_true rfl)) dL_law_1357 (lw_fitK (k := 1) (n := 6) hj hL (Nat.le_of_ble_eq_true rfl) (Nat.le_of_ble_eq_true rfl))) hS (fun q _ h => hFc q h) hFc (fun r_48 u t H1 locs ht hvm w_48 hB hz1 hk1 hS => ?_)
  obtain ⟨o_49, o_50, o_51, o_52⟩ := u
  dsimp only at w_48 hB
  obtain ⟨hP1, hK1, hD1⟩ := hB
  rw [ht] at hP1
  have hK1 := va_K.moved hvm.symm hK1
  obtain ⟨hP, hD⟩ := kx_joinM (w2 := [kx_3 xk0 xkv xkn sb lb eb, kx_a xkv cyI 12 gb, kx_a xkn cyI 12 nb, kx_1 xt_ xt_k xt_o tk mo, kx_a xt_k cyI 160 fk, kx_a xt_o cyI 160 fq, kx_a xw_ cyI 160 fw, kx_a xz_ cyI 161 fz, kx_5 yh0 yg_row len slots o_52 yg_many yg_loss yg_less yg_voteValue yg_voteNumber yg_allValue yg_allNumber u_allMany yg_nodeL yg_nodeR u_nodes yg_part u_partMany yg_wasMany yg_wasLoss yg_wasValue yg_wasNumber yg_path u_pathMany yg_heavyValue yg_heavyTimes o_49 yg_fewest yg_which yg_met u_mostMet, kx_a yg_row cyI 160 f, kx_a yg_many cyI 324 u_many, kx_a yg_loss cyI 324 u_loss, kx_a yg_less cyI 324 u_less, kx_a yg_voteValue cyI 1944 u_voteValue, kx_a yg_voteNumber cyI 1944 u_voteNumber, kx_a yg_allValue cyI 12 u_allValue, kx_a yg_allNumber cyI 12 u_allNumber, kx_a yg_nodeL cyI 320 u_nodeL, kx_a yg_nodeR cyI 320 u_nodeR, kx_a yg_part cyI 320 u_part, kx_a yg_wasMany cyI 320 u_wasMany, kx_a yg_wasLoss cyI 320 u_wasLoss, kx_a yg_wasValue cyI 1920 u_wasValue, kx_a yg_wasNumber cyI 1920 u_wasNumber, kx_a yg_path cyI 12 u_path, kx_a yg_heavyValue cyI 160 o_50, kx_a yg_heavyTimes cyI 160 o_51, kx_a yg_fewest cyI 161 u_fewest, kx_a yg_which cyI 160 u_which, kx_a yg_met cyI 160 u_met, kx_4 xm_ xq_row xq_t xt_ xh0 xk0 xw_ xz_ slots o_14, kx_2 xq_t xq_row xq_joined xq_from xq_to xq_size xq_lossOf xq_lessBy xq_value xq_number o_15 o_16, kx_0 xq_row xq_cell len, kx_a xq_cell cyI 160 f, kx_a xq_from cyI 319 o_17, kx_a xq_to cyI 319 o_18, kx_a xq_size cyI 319 o_19, kx_a xq_lossOf cyI 319 o_20, kx_a xq_lessBy cyI 319 o_21, kx_a xq_value cyI 1914 o_22, kx_a xq_number cyI 1914 o_23, kx_3 xq_joined xj_v xj_n o_24 o_25 o_26, kx_a xj_v cyI 12 o_27, kx_a xj_n cyI 12 o_28, kx_3 xh0 xa_v xa_n o_29 o_30 o_31, kx_a xa_v cyI 12 o_32, kx_a xa_n cyI 12 o_33, (q_o, .inl (cyL, 1, .inr (.inl o_34)))]) hP hD hP1 hD1 hk1 hFc [false, false, false, false, false, false, false, false, true, true, false, false, false, false, false, false, false, false, false, false, false, false, false, false, false, true, true, false, false, false, false, false, false, false, false, false, false, false, false, false, false, false, false, false, false, false, false, false] hCc rfl
  clear hP1 hD1 hK1 hk1 hz1 hFc hDc hPc hKc hCc
  generalize H1 = H at hP hS ⊢
  have w_48 : True := w_48
  refine lv_istore (lv' := [(6, .int r_48), (5, .int r_13), (4, .int ix), (3, .ref q_o), (2, .ref yh0), (1, .ref xm_), (0, .ref b)]) hx hb dL_law_1360 hl (by decide) rfl (fun ls hl => ?_)
  refine lv_goto (tgt := 2288) hx hb dL_law_1362 (by decide) ?_
  obtain ⟨x_53, ex_53⟩ : ∃ y : Int32, y = ix + 8 := ⟨_, rfl⟩
  have i_53 : x_53.toInt = ix.toInt + 8 := ki_add ex_53 rfl rfl (om_578 hix hj0) (om_579 hix hjI hLI)
  refine lv_iinc (v := x_53) (lv' := [(4, .int x_53), (6, .int r_48), (5, .int r_13), (3, .ref q_o), (2, .ref yh0), (1, .ref xm_), (0, .ref b)]) hx hb dL_law_2288 hl (k := 2) rfl (by rw [ex_53]; rfl) (by decide) rfl (fun ls hl => ?_)
  refine lv_goto (tgt := 23) hx hb dL_law_2291 (by decide) ?_
  refine W.widen (k := 60 + 2 * (j + 1)) (n := 20000 + 12 * (j + 1)) (lw_wdC (k := 1) (Nat.le_of_ble_eq_true rfl)) (lw_wdS (k := 6) (Nat.le_of_ble_eq_true rfl)) ?_
  exact ih len slots o_14 o_15 o_16 o_24 o_25 o_26 o_29 o_30 o_31 sb lb eb tk mo o_52 u_allMany u_nodes u_partMany u_pathMany o_49 u_mostMet f o_17 o_18 o_19 o_20 o_21 o_22 o_23 o_27 o_28 o_32 o_33 gb nb fk fq fw fz u_many u_loss u_less u_voteValue u_voteNumber u_allValue u_allNumber u_nodeL u_nodeR u_part u_wasMany u_wasLoss u_wasValue u_wasNumber u_path o_50 o_51 u_fewest u_which u_met o_34 x_53 (om_ix i_53 hix) I0 I1 I2 I3 I4 w_13.2.2 w_13.2.1 I7 I8 _ _ ls (hP.sub [30, 31, 32, 33, 34, 35, 36, 37, 38, 39, 40, 41, 42, 43, 44, 45, 46, 0, 1, 2, 3, 4, 5, 6, 7, 8, 9, 10, 11, 12, 13, 14, 15, 16, 17, 18, 19, 20, 21, 22, 23, 24, 25, 26, 27, 28, 29, 47] rfl) (hD.sub [30, 31, 32, 33, 34, 35, 36, 37, 38, 39, 40, 41, 42, 43, 44, 45, 46, 0, 1, 2, 3, 4, 5, 6, 7, 8, 9, 10, 11, 12, 13, 14, 15, 16, 17, 18, 19, 20, 21, 22, 23, 24, 25, 26, 27, 28, 29, 47] (by decide) rfl) hS (lv_sub hl [0, 3, 4, 5, 6] rfl)

set_option maxHeartbeats 4000000 in
set_option maxRecDepth 100000 in
theorem lc_27 {p : Program} {l : Launch} {e : Env} {s : State} {m : MethodId} {below : List Frame} {meth : Method} {c : Code} {dC : Nat → ClassId} {dI : Nat → Nat → Nat} {b : Nat} {xs : Nat → Int32} (hl0 : l.stackTraces = false) {L j : Nat} (hL : L ≤ 4096) (hj : 8 * j + 8 ≤ L) (C0 : lw_At p s m meth c b L xs) (hth : ki_ThA (fun q : Nat => s.heap.size ≤ q) s) {cyI cyL : ClassId} {xm_ xq_t xq_row xq_cell xq_from xq_to xq_size xq_lossOf xq_lessBy xq_value xq_number xq_joined xj_v xj_n xh0 xa_v xa_n xk0 xkv xkn xt_ xt_k xt_o xw_ xz_ yh0 yg_row yg_many yg_loss yg_less yg_voteValue yg_voteNumber yg_allValue yg_allNumber yg_nodeL yg_nodeR yg_part yg_wasMany yg_wasLoss yg_wasValue yg_wasNumber yg_path yg_heavyValue yg_heavyTimes yg_fewest yg_which yg_met q_o : Nat} (hK : va_K (dC, dI) vwCl [(cyI, .int), (cyL, .long)] s) (ih : lw_G p l e s m below meth c b dC dI cyI cyL xm_ xq_t xq_row xq_cell xq_from xq_to xq_size xq_lossOf xq_lessBy xq_value xq_number xq_joined xj_v xj_n xh0 xa_v xa_n xk0 xkv xkn xt_ xt_k xt_o xw_ xz_ yh0 yg_row yg_many yg_loss yg_less yg_voteValue yg_voteNumber yg_allValue yg_allNumber yg_nodeL yg_nodeR yg_part yg_wasMany yg_wasLoss yg_wasValue yg_wasNumber yg_path yg_heavyValue yg_heavyTimes yg_fewest yg_which yg_met q_o (j + 1)) {len slots old nodes here js jl je vs lo le sb lb eb tk mo u_thrown u_allMany u_nodes u_partMany u_pathMany u_heavyMany u_mostMet ix : Int32} {f ff ft fs fo fe uv un jv jn fv fn gb nb fk fq fw fz u_many u_loss u_less u_voteValue u_voteNumber u_allValue u_allNumber u_nodeL u_nodeR u_part u_wasMany u_wasLoss u_wasValue u_wasNumber u_path u_heavyValue u_heavyTimes u_fewest u_which u_met : Nat → Int32} {ol : Nat → Int64} (hix : ix.toInt = 8 * (j : Int)) (I0 : 0 ≤ len.toInt) (I1 : len.toInt ≤ 160) (I2 : 1 ≤ slots.toInt) (I3 : slots.toInt ≤ 6) (I4 : shorts f) (I5 : sixes fs) (I6 : laidX old slots here f ff ft fs fo fe uv un nodes len) (I7 : six4 u_many) (I8 : parts320 u_part) {H : Heap} {locs : List Loc} (hP : va_P (dC, dI) vwCl [kx_4 xm_ xq_row xq_t xt_ xh0 xk0 xw_ xz_ slots old, kx_2 xq_t xq_row xq_joined xq_from xq_to xq_size xq_lossOf xq_lessBy xq_value xq_number nodes here, kx_0 xq_row xq_cell len, kx_a xq_cell cyI 160 f, kx_a xq_from cyI 319 ff, kx_a xq_to cyI 319 ft, kx_a xq_size cyI 319 fs, kx_a xq_lossOf cyI 319 fo, kx_a xq_lessBy cyI 319 fe, kx_a xq_value cyI 1914 uv, kx_a xq_number cyI 1914 un, kx_3 xq_joined xj_v xj_n js jl je, kx_a xj_v cyI 12 jv, kx_a xj_n cyI 12 jn, kx_3 xh0 xa_v xa_n vs lo le, kx_a xa_v cyI 12 fv, kx_a xa_n cyI 12 fn, kx_3 xk0 xkv xkn sb lb eb, kx_a xkv cyI 12 gb, kx_a xkn cyI 12 nb, kx_1 xt_ xt_k xt_o tk mo, kx_a xt_k cyI 160 fk, kx_a xt_o cyI 160 fq, kx_a xw_ cyI 160 fw, kx_a xz_ cyI 161 fz, kx_5 yh0 yg_row len slots u_thrown yg_many yg_loss yg_less yg_voteValue yg_voteNumber yg_allValue yg_allNumber u_allMany yg_nodeL yg_nodeR u_nodes yg_part u_partMany yg_wasMany yg_wasLoss yg_wasValue yg_wasNumber yg_path u_pathMany yg_heavyValue yg_heavyTimes u_heavyMany yg_fewest yg_which yg_met u_mostMet, kx_a yg_row cyI 160 f, kx_a yg_many cyI 324 u_many, kx_a yg_loss cyI 324 u_loss, kx_a yg_less cyI 324 u_less, kx_a yg_voteValue cyI 1944 u_voteValue, kx_a yg_voteNumber cyI 1944 u_voteNumber, kx_a yg_allValue cyI 12 u_allValue, kx_a yg_allNumber cyI 12 u_allNumber, kx_a yg_nodeL cyI 320 u_nodeL, kx_a yg_nodeR cyI 320 u_nodeR, kx_a yg_part cyI 320 u_part, kx_a yg_wasMany cyI 320 u_wasMany, kx_a yg_wasLoss cyI 320 u_wasLoss, kx_a yg_wasValue cyI 1920 u_wasValue, kx_a yg_wasNumber cyI 1920 u_wasNumber, kx_a yg_path cyI 12 u_path, kx_a yg_heavyValue cyI 160 u_heavyValue, kx_a yg_heavyTimes cyI 160 u_heavyTimes, kx_a yg_fewest cyI 161 u_fewest, kx_a yg_which cyI 160 u_which, kx_a yg_met cyI 160 u_met, (q_o, .inl (cyL, 1, .inr (.inl ol)))] H) (hD : va_D (fun q : Nat => s.heap.size ≤ q) [kx_4 xm_ xq_row xq_t xt_ xh0 xk0 xw_ xz_ slots old, kx_2 xq_t xq_row xq_joined xq_from xq_to xq_size xq_lossOf xq_lessBy xq_value xq_number nodes here, kx_0 xq_row xq_cell len, kx_a xq_cell cyI 160 f, kx_a xq_from cyI 319 ff, kx_a xq_to cyI 319 ft, kx_a xq_size cyI 319 fs, kx_a xq_lossOf cyI 319 fo, kx_a xq_lessBy cyI 319 fe, kx_a xq_value cyI 1914 uv, kx_a xq_number cyI 1914 un, kx_3 xq_joined xj_v xj_n js jl je, kx_a xj_v cyI 12 jv, kx_a xj_n cyI 12 jn, kx_3 xh0 xa_v xa_n vs lo le, kx_a xa_v cyI 12 fv, kx_a xa_n cyI 12 fn, kx_3 xk0 xkv xkn sb lb eb, kx_a xkv cyI 12 gb, kx_a xkn cyI 12 nb, kx_1 xt_ xt_k xt_o tk mo, kx_a xt_k cyI 160 fk, kx_a xt_o cyI 160 fq, kx_a xw_ cyI 160 fw, kx_a xz_ cyI 161 fz, kx_5 yh0 yg_row len slots u_thrown yg_many yg_loss yg_less yg_voteValue yg_voteNumber yg_allValue yg_allNumber u_allMany yg_nodeL yg_nodeR u_nodes yg_part u_partMany yg_wasMany yg_wasLoss yg_wasValue yg_wasNumber yg_path u_pathMany yg_heavyValue yg_heavyTimes u_heavyMany yg_fewest yg_which yg_met u_mostMet, kx_a yg_row cyI 160 f, kx_a yg_many cyI 324 u_many, kx_a yg_loss cyI 324 u_loss, kx_a yg_less cyI 324 u_less, kx_a yg_voteValue cyI 1944 u_voteValue, kx_a yg_voteNumber cyI 1944 u_voteNumber, kx_a yg_allValue cyI 12 u_allValue, kx_a yg_allNumber cyI 12 u_allNumber, kx_a yg_nodeL cyI 320 u_nodeL, kx_a yg_nodeR cyI 320 u_nodeR, kx_a yg_part cyI 320 u_part, kx_a yg_wasMany cyI 320 u_wasMany, kx_a yg_wasLoss cyI 320 u_wasLoss, kx_a yg_wasValue cyI 1920 u_wasValue, kx_a yg_wasNumber cyI 1920 u_wasNumber, kx_a yg_path cyI 12 u_path, kx_a yg_heavyValue cyI 160 u_heavyValue, kx_a yg_heavyTimes cyI 160 u_heavyTimes, kx_a yg_fewest cyI 161 u_fewest, kx_a yg_which cyI 160 u_which, kx_a yg_met cyI 160 u_met, (q_o, .inl (cyL, 1, .inr (.inl ol)))]) (hS : va_S (fun q : Nat => s.heap.size ≤ q) s.heap H locs) {ls : Array Slot} (hl : lv_has ls 7 [(4, .int ix), (3, .ref q_o), (2, .ref yh0), (1, .ref xm_), (0, .ref b)]) : W p l e room_1 s m #[Value.ref b] below meth c H locs (60 + 2 * j) (20000 + 12 * j) (lw_Z below #[Value.ref b] s) (F0 m 1365 ls []) := by
  obtain ⟨hx, hb, hr, hml, hown, hts0, hX, hbl, hlocks, hgv⟩ := id C0
  have hts := hts0
  have hA : ∀ q : Nat, s.heap.size ≤ q → (fun q : Nat => s.heap.size ≤ q) q := fun _ h => h
  have hbA : ¬ (fun q : Nat => s.heap.size ≤ q) b := Nat.not_le.mpr hbl
  have hown : s.vm.findClass RL = some m.cls := hown
  have hb : c.code = cL_law := hb
  have hj0 : 0 ≤ (j : Int) := Int.natCast_nonneg j
  have hjI : 8 * (j : Int) + 8 ≤ (L : Int) := lw_jI hj
  have hLI : (L : Int) ≤ 4096 := lw_LI hL
  have hN__methodLinkNest_RX3_42_yX4_isHeavy_RX4 : va_Nw (.methodLinkNest RX3 42 yX4_isHeavy RX4) s := va_Nw.of rfl (hts0 (.methodLinkNest RX3 42 yX4_isHeavy RX4) lwW_486)
  refine lv_aload_n hx hb dL_law_1365 rfl (lv_at hl 3 rfl) ?_
  refine lv_aload_n hx hb dL_law_1366 rfl (lv_at hl 4 rfl) ?_
  refine lv_iload hx hb dL_law_1367 (lv_at hl 0 rfl) ?_
  refine lv_iconst (v := 1) hx hb dL_law_1369 (by decide) ?_
  refine lv_iadd hx hb dL_law_1370 ?_
  refine lv_topi (fun y_1 ey_1 => ?_)
  have i_1 : y_1.toInt = ix.toInt + 1 := ki_add ey_1 rfl rfl (om_568 hix hj0) (om_569 hix hjI hLI)
  refine va_sld hx hb hX hbl hbA hS (i := y_1) (ki_in (om_570 hix hj0 i_1) (om_571 hix hjI i_1)) dL_law_1371 ?_
  refine lv_topi (fun y_2 ey_2 => ?_)
  refine lv_aload_n hx hb dL_law_1372 rfl (lv_at hl 4 rfl) ?_
  refine lv_iload hx hb dL_law_1373 (lv_at hl 0 rfl) ?_
  refine lv_iconst (v := 2) hx hb dL_law_1375 (by decide) ?_
  refine lv_iadd hx hb dL_law_1376 ?_
  refine lv_topi (fun y_3 ey_3 => ?_)
  have i_3 : y_3.toInt = ix.toInt + 2 := ki_add ey_3 rfl rfl (om_572 hix hj0) (om_573 hix hjI hLI)
  refine va_sld hx hb hX hbl hbA hS (i := y_3) (ki_in (om_574 hix hj0 i_3) (om_575 hix hjI i_3)) dL_law_1377 ?_
  refine lv_topi (fun y_4 ey_4 => ?_)
  refine lv_aload_n hx hb dL_law_1378 rfl (lv_at hl 4 rfl) ?_
  refine lv_iload hx hb dL_law_1379 (lv_at hl 0 rfl) ?_
  refine lv_iconst (v := 3) hx hb dL_law_1381 (by decide) ?_
  refine lv_iadd hx hb dL_law_1382 ?_
  refine lv_topi (fun y_5 ey_5 => ?_)
  have i_5 : y_5.toInt = ix.toInt + 3 := ki_add ey_5 rfl rfl (om_580 hix hj0) (om_581 hix hjI hLI)
  refine va_sld hx hb hX hbl hbA hS (i := y_5) (ki_in (om_582 hix hj0 i_5) (om_583 hix hjI i_5)) dL_law_1383 ?_
  refine lv_topi (fun y_6 ey_6 => ?_)
  refine lv_aload_n hx hb dL_law_1384 rfl (lv_at hl 4 rfl) ?_
  refine lv_iload hx hb dL_law_1385 (lv_at hl 0 rfl) ?_
  refine lv_iconst (v := 4) hx hb dL_law_1387 (by decide) ?_
  refine lv_iadd hx hb dL_law_1388 ?_
  refine lv_topi (fun y_7 ey_7 => ?_)
  have i_7 : y_7.toInt = ix.toInt + 4 := ki_add ey_7 rfl rfl (om_585 hix hj0) (om_586 hix hjI hLI)
  refine va_sld hx hb hX hbl hbA hS (i := y_7) (ki_in (om_587 hix hj0 i_7) (om_588 hix hjI i_7)) dL_law_1389 ?_
  refine lv_topi (fun y_8 ey_8 => ?_)
  obtain ⟨hPc, hDc, hFc, hCc⟩ := kx_preM (wc := [kx_4 xm_ xq_row xq_t xt_ xh0 xk0 xw_ xz_ slots old, kx_2 xq_t xq_row xq_joined xq_from xq_to xq_size xq_lossOf xq_lessBy xq_value xq_number nodes here, kx_0 xq_row xq_cell len, kx_a xq_cell cyI 160 f, kx_a xq_from cyI 319 ff, kx_a xq_to cyI 319 ft, kx_a xq_size cyI 319 fs, kx_a xq_lossOf cyI 319 fo, kx_a xq_lessBy cyI 319 fe, kx_a xq_value cyI 1914 uv, kx_a xq_number cyI 1914 un, kx_3 xq_joined xj_v xj_n js jl je, kx_a xj_v cyI 12 jv, kx_a xj_n cyI 12 jn, kx_3 xh0 xa_v xa_n vs lo le, kx_a xa_v cyI 12 fv, kx_a xa_n cyI 12 fn]) hP hD hS hA [true, true, true, true, true, true, true, true, true, true, true, true, true, true, true, true, true, false, false, false, false, false, false, false, false, false, false, false, false, false, false, false, false, false, false, false, false, false, false, false, false, false, false, false, false, false, false, false] rfl
  have hKc := hK.sub (tys' := [(cyI, .int)]) [0] rfl
  refine va_calli (va_runV (As := [.int y_2, .int y_4, .int y_6, .int y_8]) (rest := []) ⟨hx, hb, hml, hown, (lwC_X4_failed hts0)⟩ (c_X4_failed_x l dC dI xm_ xq_row xq_t xt_ xh0 xk0 xw_ xz_ slots old xq_joined xq_from xq_to xq_size xq_lossOf xq_lessBy xq_value xq_number nodes here xq_cell cyI len f ff ft fs fo uv un fe xj_v xj_n js jl je jv jn xa_v xa_n vs lo le fv fn y_2 y_4 y_6 y_8 H.size I0 I1 I5 I2 I3 I6) (cwV 4 (lwC_X4_failed hts0) lwG_X4_failed rfl rfl rfl (by decide +kernel) ⟨Nat.le_of_ble_eq_true rfl, Nat.le_of_ble_eq_true rfl⟩) ⟨fun a U g mk q => by obtain ⟨q0, q1, qP, qK, qD, qn0⟩ := q; exact ⟨q0, q1, qP, va_K.moved (u := U) (U := U.calling g mk a) (Vm.Alike.refl U.vm) qK, qD, va_Nw.same (u := U) (U := U.calling g mk a) rfl rfl qn0⟩, kx_rc4 hKc hPc (q0 := 0) rfl, fun U hU hW => ⟨rfl, by rw [hU], by rw [hU]; exact hPc, va_K.moved hW.alike hKc, hDc.weaken (fun _ _ _ _ => trivial), va_Nw.warmM hW hN__methodLinkNest_RX3_42_yX4_isHeavy_RX4⟩⟩ rfl rfl hl.1 rfl (lv_room (Nat.le_of_ble_eq_true rfl)) dL_law_1390 (lw_fitJ hj hL (Nat.le_of_ble_eq_true rfl) (Nat.le_of_ble_eq_true rfl))) hS (fun q _ h => hFc q h) hFc (fun r_9 u t H1 locs ht hvm w_9 hB hz1 hk1 hS => ?_)
  obtain ⟨o_10, o_11, o_12, o_13, o_14, o_15, o_16, o_17, o_18, o_19, o_20, o_21, o_22, o_23, o_24, o_25, o_26, o_27, o_28, o_29⟩ := u
  dsimp only at w_9 hB
  obtain ⟨hP1, hK1, hD1⟩ := hB
  rw [ht] at hP1
  have hK1 := va_K.moved hvm.symm hK1
  obtain ⟨hP, hD⟩ := kx_joinM (w2 := [kx_4 xm_ xq_row xq_t xt_ xh0 xk0 xw_ xz_ slots o_10, kx_2 xq_t xq_row xq_joined xq_from xq_to xq_size xq_lossOf xq_lessBy xq_value xq_number o_11 o_12, kx_0 xq_row xq_cell len, kx_a xq_cell cyI 160 f, kx_a xq_from cyI 319 o_13, kx_a xq_to cyI 319 o_14, kx_a xq_size cyI 319 o_15, kx_a xq_lossOf cyI 319 o_16, kx_a xq_lessBy cyI 319 o_17, kx_a xq_value cyI 1914 o_18, kx_a xq_number cyI 1914 o_19, kx_3 xq_joined xj_v xj_n o_20 o_21 o_22, kx_a xj_v cyI 12 o_23, kx_a xj_n cyI 12 o_24, kx_3 xh0 xa_v xa_n o_25 o_26 o_27, kx_a xa_v cyI 12 o_28, kx_a xa_n cyI 12 o_29, kx_3 xk0 xkv xkn sb lb eb, kx_a xkv cyI 12 gb, kx_a xkn cyI 12 nb, kx_1 xt_ xt_k xt_o tk mo, kx_a xt_k cyI 160 fk, kx_a xt_o cyI 160 fq, kx_a xw_ cyI 160 fw, kx_a xz_ cyI 161 fz, kx_5 yh0 yg_row len slots u_thrown yg_many yg_loss yg_less yg_voteValue yg_voteNumber yg_allValue yg_allNumber u_allMany yg_nodeL yg_nodeR u_nodes yg_part u_partMany yg_wasMany yg_wasLoss yg_wasValue yg_wasNumber yg_path u_pathMany yg_heavyValue yg_heavyTimes u_heavyMany yg_fewest yg_which yg_met u_mostMet, kx_a yg_row cyI 160 f, kx_a yg_many cyI 324 u_many, kx_a yg_loss cyI 324 u_loss, kx_a yg_less cyI 324 u_less, kx_a yg_voteValue cyI 1944 u_voteValue, kx_a yg_voteNumber cyI 1944 u_voteNumber, kx_a yg_allValue cyI 12 u_allValue, kx_a yg_allNumber cyI 12 u_allNumber, kx_a yg_nodeL cyI 320 u_nodeL, kx_a yg_nodeR cyI 320 u_nodeR, kx_a yg_part cyI 320 u_part, kx_a yg_wasMany cyI 320 u_wasMany, kx_a yg_wasLoss cyI 320 u_wasLoss, kx_a yg_wasValue cyI 1920 u_wasValue, kx_a yg_wasNumber cyI 1920 u_wasNumber, kx_a yg_path cyI 12 u_path, kx_a yg_heavyValue cyI 160 u_heavyValue, kx_a yg_heavyTimes cyI 160 u_heavyTimes, kx_a yg_fewest cyI 161 u_fewest, kx_a yg_which cyI 160 u_which, kx_a yg_met cyI 160 u_met, (q_o, .inl (cyL, 1, .inr (.inl ol)))]) hP hD hP1 hD1 hk1 hFc [true, true, true, true, true, true, true, true, true, true, true, true, true, true, true, true, true, false, false, false, false, false, false, false, false, false, false, false, false, false, false, false, false, false, false, false, false, false, false, false, false, false, false, false, false, false, false, false] hCc rfl
  clear hP1 hD1 hK1 hk1 hz1 hFc hDc hPc hKc hCc
  generalize H1 = H at hP hS ⊢
  have w_9 : laidX o_10 slots o_12 f o_13 o_14 o_15 o_16 o_17 o_18 o_19 o_11 len ∧ sixes o_15 := w_9
  refine lv_pop hx hb dL_law_1393 rfl ?_
  refine lv_aload_n hx hb dL_law_1394 rfl (lv_at hl 2 rfl) ?_
  refine lv_aload_n hx hb dL_law_1395 rfl (lv_at hl 4 rfl) ?_
  refine lv_iload hx hb dL_law_1396 (lv_at hl 0 rfl) ?_
  refine lv_iconst (v := 1) hx hb dL_law_1398 (by decide) ?_
  refine lv_iadd hx hb dL_law_1399 ?_
  refine lv_topi (fun y_30 ey_30 => ?_)
  have i_30 : y_30.toInt = ix.toInt + 1 := ki_add ey_30 rfl rfl (om_568 hix hj0) (om_569 hix hjI hLI)
  refine va_sld hx hb hX hbl hbA hS (i := y_30) (ki_in (om_570 hix hj0 i_30) (om_571 hix hjI i_30)) dL_law_1400 ?_
  refine lv_topi (fun y_31 ey_31 => ?_)
  have qy_31 : y_2 = y_31 := by rw [ey_2, ey_31, ki_nateq (show y_1.toInt = y_30.toInt from (om_576 i_1 i_30))]
  subst qy_31
  refine lv_aload_n hx hb dL_law_1401 rfl (lv_at hl 4 rfl) ?_
  refine lv_iload hx hb dL_law_1402 (lv_at hl 0 rfl) ?_
  refine lv_iconst (v := 2) hx hb dL_law_1404 (by decide) ?_
  refine lv_iadd hx hb dL_law_1405 ?_
  refine lv_topi (fun y_32 ey_32 => ?_)
  have i_32 : y_32.toInt = ix.toInt + 2 := ki_add ey_32 rfl rfl (om_572 hix hj0) (om_573 hix hjI hLI)
  refine va_sld hx hb hX hbl hbA hS (i := y_32) (ki_in (om_574 hix hj0 i_32) (om_575 hix hjI i_32)) dL_law_1406 ?_
  refine lv_topi (fun y_33 ey_33 => ?_)
  have qy_33 : y_4 = y_33 := by rw [ey_4, ey_33, ki_nateq (show y_3.toInt = y_32.toInt from (om_577 i_3 i_32))]
  subst qy_33
  refine lv_aload_n hx hb dL_law_1407 rfl (lv_at hl 4 rfl) ?_
  refine lv_iload hx hb dL_law_1408 (lv_at hl 0 rfl) ?_
  refine lv_iconst (v := 3) hx hb dL_law_1410 (by decide) ?_
  refine lv_iadd hx hb dL_law_1411 ?_
  refine lv_topi (fun y_34 ey_34 => ?_)
  have i_34 : y_34.toInt = ix.toInt + 3 := ki_add ey_34 rfl rfl (om_580 hix hj0) (om_581 hix hjI hLI)
  refine va_sld hx hb hX hbl hbA hS (i := y_34) (ki_in (om_582 hix hj0 i_34) (om_583 hix hjI i_34)) dL_law_1412 ?_
  refine lv_topi (fun y_35 ey_35 => ?_)
  have qy_35 : y_6 = y_35 := by rw [ey_6, ey_35, ki_nateq (show y_5.toInt = y_34.toInt from (om_584 i_5 i_34))]
  subst qy_35
  refine lv_aload_n hx hb dL_law_1413 rfl (lv_at hl 4 rfl) ?_
  refine lv_iload hx hb dL_law_1414 (lv_at hl 0 rfl) ?_
  refine lv_iconst (v := 4) hx hb dL_law_1416 (by decide) ?_
  refine lv_iadd hx hb dL_law_1417 ?_
  refine lv_topi (fun y_36 ey_36 => ?_)
  have i_36 : y_36.toInt = ix.toInt + 4 := ki_add ey_36 rfl rfl (om_585 hix hj0) (om_586 hix hjI hLI)
  refine va_sld hx hb hX hbl hbA hS (i := y_36) (ki_in (om_587 hix hj0 i_36) (om_588 hix hjI i_36)) dL_law_1418 ?_
  refine lv_topi (fun y_37 ey_37 => ?_)
  have qy_37 : y_8 = y_37 := by rw [ey_8, ey_37, ki_nateq (show y_7.toInt = y_36.toInt from (om_589 i_7 i_36))]
  subst qy_37
  obtain ⟨hPc, hDc, hFc, hCc⟩ := kx_preM (wc := [kx_5 yh0 yg_row len slots u_thrown yg_many yg_loss yg_less yg_voteValue yg_voteNumber yg_allValue yg_allNumber u_allMany yg_nodeL yg_nodeR u_nodes yg_part u_partMany yg_wasMany yg_wasLoss yg_wasValue yg_wasNumber yg_path u_pathMany yg_heavyValue yg_heavyTimes u_heavyMany yg_fewest yg_which yg_met u_mostMet, kx_a yg_row cyI 160 f, kx_a yg_many cyI 324 u_many, kx_a yg_loss cyI 324 u_loss, kx_a yg_less cyI 324 u_less, kx_a yg_voteValue cyI 1944 u_voteValue, kx_a yg_voteNumber cyI 1944 u_voteNumber, kx_a yg_allValue cyI 12 u_allValue, kx_a yg_allNumber cyI 12 u_allNumber, kx_a yg_nodeL cyI 320 u_nodeL, kx_a yg_nodeR cyI 320 u_nodeR, kx_a yg_part cyI 320 u_part]) hP hD hS hA [false, false, false, false, false, false, false, false, false, false, false, false, false, false, false, false, false, false, false, false, false, false, false, false, false, true, true, true, true, true, true, true, true, true, true, true, true, false, false, false, false, false, false, false, false, false, false, false] rfl
  have hKc := hK.sub (tys' := [(cyI, .int)]) [0] rfl
  refine va_calli (va_runV (As := [.int y_2, .int y_4, .int y_6, .int y_8]) (rest := []) ⟨hx, hb, hml, hown, (lwC_X5_failed hts0)⟩ (kx_un (c_X5_failed l dC dI yh0 yg_row yg_many yg_loss yg_less yg_voteValue yg_voteNumber yg_allValue yg_allNumber yg_nodeL yg_nodeR yg_part yg_wasMany yg_wasLoss yg_wasValue yg_wasNumber yg_path yg_heavyValue yg_heavyTimes yg_fewest yg_which yg_met len slots u_thrown u_allMany u_nodes u_partMany u_pathMany u_heavyMany u_mostMet cyI u_many u_loss u_less u_voteValue u_voteNumber f u_allValue u_allNumber u_nodeL u_nodeR u_part y_2 y_4 y_6 y_8 H.size I0 I1 I2 I3 I7 I8)) (cwV 4 (lwC_X5_failed hts0) lwG_X5_failed rfl rfl rfl (by decide +kernel) ⟨Nat.le_of_ble_eq_true rfl, Nat.le_of_ble_eq_true rfl⟩) ⟨fun a U g mk q => by obtain ⟨q0, q1, qP, qK, qD⟩ := q; exact ⟨q0, q1, qP, va_K.moved (u := U) (U := U.calling g mk a) (Vm.Alike.refl U.vm) qK, qD⟩, kx_rc5 hKc hPc (q0 := 0) rfl, fun U hU hW => ⟨rfl, by rw [hU], by rw [hU]; exact hPc, va_K.moved hW.alike hKc, hDc.weaken (fun _ _ _ _ => trivial)⟩⟩ rfl rfl hl.1 rfl (lv_room (Nat.le_of_ble_eq_true rfl)) dL_law_1419 (lw_fitJ hj hL (Nat.le_of_ble_eq_true rfl) (Nat.le_of_ble_eq_true rfl))) hS (fun q _ h => hFc q h) hFc (fun r_38 u t H1 locs ht hvm w_38 hB hz1 hk1 hS => ?_)
  obtain ⟨o_39, o_40, o_41, o_42, o_43, o_44, o_45, o_46, o_47, o_48, o_49, o_50, o_51⟩ := u
  dsimp only at w_38 hB
  obtain ⟨hP1, hK1, hD1⟩ := hB
  rw [ht] at hP1
  have hK1 := va_K.moved hvm.symm hK1
  obtain ⟨hP, hD⟩ := kx_joinM (w2 := [kx_4 xm_ xq_row xq_t xt_ xh0 xk0 xw_ xz_ slots o_10, kx_2 xq_t xq_row xq_joined xq_from xq_to xq_size xq_lossOf xq_lessBy xq_value xq_number o_11 o_12, kx_0 xq_row xq_cell len, kx_a xq_cell cyI 160 f, kx_a xq_from cyI 319 o_13, kx_a xq_to cyI 319 o_14, kx_a xq_size cyI 319 o_15, kx_a xq_lossOf cyI 319 o_16, kx_a xq_lessBy cyI 319 o_17, kx_a xq_value cyI 1914 o_18, kx_a xq_number cyI 1914 o_19, kx_3 xq_joined xj_v xj_n o_20 o_21 o_22, kx_a xj_v cyI 12 o_23, kx_a xj_n cyI 12 o_24, kx_3 xh0 xa_v xa_n o_25 o_26 o_27, kx_a xa_v cyI 12 o_28, kx_a xa_n cyI 12 o_29, kx_3 xk0 xkv xkn sb lb eb, kx_a xkv cyI 12 gb, kx_a xkn cyI 12 nb, kx_1 xt_ xt_k xt_o tk mo, kx_a xt_k cyI 160 fk, kx_a xt_o cyI 160 fq, kx_a xw_ cyI 160 fw, kx_a xz_ cyI 161 fz, kx_5 yh0 yg_row len slots 0 yg_many yg_loss yg_less yg_voteValue yg_voteNumber yg_allValue yg_allNumber o_40 yg_nodeL yg_nodeR o_39 yg_part o_50 yg_wasMany yg_wasLoss yg_wasValue yg_wasNumber yg_path u_pathMany yg_heavyValue yg_heavyTimes u_heavyMany yg_fewest yg_which yg_met u_mostMet, kx_a yg_row cyI 160 f, kx_a yg_many cyI 324 o_41, kx_a yg_loss cyI 324 o_42, kx_a yg_less cyI 324 o_43, kx_a yg_voteValue cyI 1944 o_44, kx_a yg_voteNumber cyI 1944 o_45, kx_a yg_allValue cyI 12 o_46, kx_a yg_allNumber cyI 12 o_47, kx_a yg_nodeL cyI 320 o_48, kx_a yg_nodeR cyI 320 o_49, kx_a yg_part cyI 320 o_51, kx_a yg_wasMany cyI 320 u_wasMany, kx_a yg_wasLoss cyI 320 u_wasLoss, kx_a yg_wasValue cyI 1920 u_wasValue, kx_a yg_wasNumber cyI 1920 u_wasNumber, kx_a yg_path cyI 12 u_path, kx_a yg_heavyValue cyI 160 u_heavyValue, kx_a yg_heavyTimes cyI 160 u_heavyTimes, kx_a yg_fewest cyI 161 u_fewest, kx_a yg_which cyI 160 u_which, kx_a yg_met cyI 160 u_met, (q_o, .inl (cyL, 1, .inr (.inl ol)))]) hP hD hP1 hD1 hk1 hFc [false, false, false, false, false, false, false, false, false, false, false, false, false, false, false, false, false, false, false, false, false, false, false, false, false, true, true, true, true, true, true, true, true, true, true, true, true, false, false, false, false, false, false, false, false, false, false, false] hCc rfl
  clear hP1 hD1 hK1 hk1 hz1 hFc hDc hPc hKc hCc
  generalize H1 = H at hP hS ⊢
  have w_38 : six4 o_41 ∧ parts320 o_51 := w_38
  refine lv_pop hx hb dL_law_1422 rfl ?_
  refine lv_goto (tgt := 2288) hx hb dL_law_1423 (by decide) ?_
  obtain ⟨x_52, ex_52⟩ : ∃ y : Int32, y = ix + 8 := ⟨_, rfl⟩
  have i_52 : x_52.toInt = ix.toInt + 8 := ki_add ex_52 rfl rfl (om_578 hix hj0) (om_579 hix hjI hLI)
  refine lv_iinc (v := x_52) (lv' := [(4, .int x_52), (3, .ref q_o), (2, .ref yh0), (1, .ref xm_), (0, .ref b)]) hx hb dL_law_2288 hl (k := 0) rfl (by rw [ex_52]; rfl) (by decide) rfl (fun ls hl => ?_)
  refine lv_goto (tgt := 23) hx hb dL_law_2291 (by decide) ?_
  refine W.widen (k := 60 + 2 * (j + 1)) (n := 20000 + 12 * (j + 1)) (lw_wdC (k := 0) (Nat.le_of_ble_eq_true rfl)) (lw_wdS (k := 0) (Nat.le_of_ble_eq_true rfl)) ?_
  have k_53 : (0 : Int32).toInt = 0 := rfl
  exact ih len slots o_10 o_11 o_12 o_20 o_21 o_22 o_25 o_26 o_27 sb lb eb tk mo 0 o_40 o_39 o_50 u_pathMany u_heavyMany u_mostMet f o_13 o_14 o_15 o_16 o_17 o_18 o_19 o_23 o_24 o_28 o_29 gb nb fk fq fw fz o_41 o_42 o_43 o_44 o_45 o_46 o_47 o_48 o_49 o_51 u_wasMany u_wasLoss u_wasValue u_wasNumber u_path u_heavyValue u_heavyTimes u_fewest u_which u_met ol x_52 (om_ix i_52 hix) I0 I1 I2 I3 I4 w_9.2 w_9.1 w_38.1 w_38.2 _ _ ls hP hD hS (lv_sub hl [0, 1, 2, 3, 4] rfl)

set_option maxHeartbeats 4000000 in
set_option maxRecDepth 100000 in
theorem lc_28 {p : Program} {l : Launch} {e : Env} {s : State} {m : MethodId} {below : List Frame} {meth : Method} {c : Code} {dC : Nat → ClassId} {dI : Nat → Nat → Nat} {b : Nat} {xs : Nat → Int32} (hl0 : l.stackTraces = false) {L j : Nat} (hL : L ≤ 4096) (hj : 8 * j + 8 ≤ L) (C0 : lw_At p s m meth c b L xs) (hth : ki_ThA (fun q : Nat => s.heap.size ≤ q) s) {cyI cyL : ClassId} {xm_ xq_t xq_row xq_cell xq_from xq_to xq_size xq_lossOf xq_lessBy xq_value xq_number xq_joined xj_v xj_n xh0 xa_v xa_n xk0 xkv xkn xt_ xt_k xt_o xw_ xz_ yh0 yg_row yg_many yg_loss yg_less yg_voteValue yg_voteNumber yg_allValue yg_allNumber yg_nodeL yg_nodeR yg_part yg_wasMany yg_wasLoss yg_wasValue yg_wasNumber yg_path yg_heavyValue yg_heavyTimes yg_fewest yg_which yg_met q_o : Nat} (hK : va_K (dC, dI) vwCl [(cyI, .int), (cyL, .long)] s) (ih : lw_G p l e s m below meth c b dC dI cyI cyL xm_ xq_t xq_row xq_cell xq_from xq_to xq_size xq_lossOf xq_lessBy xq_value xq_number xq_joined xj_v xj_n xh0 xa_v xa_n xk0 xkv xkn xt_ xt_k xt_o xw_ xz_ yh0 yg_row yg_many yg_loss yg_less yg_voteValue yg_voteNumber yg_allValue yg_allNumber yg_nodeL yg_nodeR yg_part yg_wasMany yg_wasLoss yg_wasValue yg_wasNumber yg_path yg_heavyValue yg_heavyTimes yg_fewest yg_which yg_met q_o (j + 1)) {len slots old nodes here js jl je vs lo le sb lb eb tk mo u_thrown u_allMany u_nodes u_partMany u_pathMany u_heavyMany u_mostMet ix : Int32} {f ff ft fs fo fe uv un jv jn fv fn gb nb fk fq fw fz u_many u_loss u_less u_voteValue u_voteNumber u_allValue u_allNumber u_nodeL u_nodeR u_part u_wasMany u_wasLoss u_wasValue u_wasNumber u_path u_heavyValue u_heavyTimes u_fewest u_which u_met : Nat → Int32} {ol : Nat → Int64} (hix : ix.toInt = 8 * (j : Int)) (I0 : 0 ≤ len.toInt) (I1 : len.toInt ≤ 160) (I2 : 1 ≤ slots.toInt) (I3 : slots.toInt ≤ 6) (I4 : shorts f) (I5 : sixes fs) (I6 : laidX old slots here f ff ft fs fo fe uv un nodes len) (I7 : six4 u_many) (I8 : parts320 u_part) {H : Heap} {locs : List Loc} (hP : va_P (dC, dI) vwCl [kx_4 xm_ xq_row xq_t xt_ xh0 xk0 xw_ xz_ slots old, kx_2 xq_t xq_row xq_joined xq_from xq_to xq_size xq_lossOf xq_lessBy xq_value xq_number nodes here, kx_0 xq_row xq_cell len, kx_a xq_cell cyI 160 f, kx_a xq_from cyI 319 ff, kx_a xq_to cyI 319 ft, kx_a xq_size cyI 319 fs, kx_a xq_lossOf cyI 319 fo, kx_a xq_lessBy cyI 319 fe, kx_a xq_value cyI 1914 uv, kx_a xq_number cyI 1914 un, kx_3 xq_joined xj_v xj_n js jl je, kx_a xj_v cyI 12 jv, kx_a xj_n cyI 12 jn, kx_3 xh0 xa_v xa_n vs lo le, kx_a xa_v cyI 12 fv, kx_a xa_n cyI 12 fn, kx_3 xk0 xkv xkn sb lb eb, kx_a xkv cyI 12 gb, kx_a xkn cyI 12 nb, kx_1 xt_ xt_k xt_o tk mo, kx_a xt_k cyI 160 fk, kx_a xt_o cyI 160 fq, kx_a xw_ cyI 160 fw, kx_a xz_ cyI 161 fz, kx_5 yh0 yg_row len slots u_thrown yg_many yg_loss yg_less yg_voteValue yg_voteNumber yg_allValue yg_allNumber u_allMany yg_nodeL yg_nodeR u_nodes yg_part u_partMany yg_wasMany yg_wasLoss yg_wasValue yg_wasNumber yg_path u_pathMany yg_heavyValue yg_heavyTimes u_heavyMany yg_fewest yg_which yg_met u_mostMet, kx_a yg_row cyI 160 f, kx_a yg_many cyI 324 u_many, kx_a yg_loss cyI 324 u_loss, kx_a yg_less cyI 324 u_less, kx_a yg_voteValue cyI 1944 u_voteValue, kx_a yg_voteNumber cyI 1944 u_voteNumber, kx_a yg_allValue cyI 12 u_allValue, kx_a yg_allNumber cyI 12 u_allNumber, kx_a yg_nodeL cyI 320 u_nodeL, kx_a yg_nodeR cyI 320 u_nodeR, kx_a yg_part cyI 320 u_part, kx_a yg_wasMany cyI 320 u_wasMany, kx_a yg_wasLoss cyI 320 u_wasLoss, kx_a yg_wasValue cyI 1920 u_wasValue, kx_a yg_wasNumber cyI 1920 u_wasNumber, kx_a yg_path cyI 12 u_path, kx_a yg_heavyValue cyI 160 u_heavyValue, kx_a yg_heavyTimes cyI 160 u_heavyTimes, kx_a yg_fewest cyI 161 u_fewest, kx_a yg_which cyI 160 u_which, kx_a yg_met cyI 160 u_met, (q_o, .inl (cyL, 1, .inr (.inl ol)))] H) (hD : va_D (fun q : Nat => s.heap.size ≤ q) [kx_4 xm_ xq_row xq_t xt_ xh0 xk0 xw_ xz_ slots old, kx_2 xq_t xq_row xq_joined xq_from xq_to xq_size xq_lossOf xq_lessBy xq_value xq_number nodes here, kx_0 xq_row xq_cell len, kx_a xq_cell cyI 160 f, kx_a xq_from cyI 319 ff, kx_a xq_to cyI 319 ft, kx_a xq_size cyI 319 fs, kx_a xq_lossOf cyI 319 fo, kx_a xq_lessBy cyI 319 fe, kx_a xq_value cyI 1914 uv, kx_a xq_number cyI 1914 un, kx_3 xq_joined xj_v xj_n js jl je, kx_a xj_v cyI 12 jv, kx_a xj_n cyI 12 jn, kx_3 xh0 xa_v xa_n vs lo le, kx_a xa_v cyI 12 fv, kx_a xa_n cyI 12 fn, kx_3 xk0 xkv xkn sb lb eb, kx_a xkv cyI 12 gb, kx_a xkn cyI 12 nb, kx_1 xt_ xt_k xt_o tk mo, kx_a xt_k cyI 160 fk, kx_a xt_o cyI 160 fq, kx_a xw_ cyI 160 fw, kx_a xz_ cyI 161 fz, kx_5 yh0 yg_row len slots u_thrown yg_many yg_loss yg_less yg_voteValue yg_voteNumber yg_allValue yg_allNumber u_allMany yg_nodeL yg_nodeR u_nodes yg_part u_partMany yg_wasMany yg_wasLoss yg_wasValue yg_wasNumber yg_path u_pathMany yg_heavyValue yg_heavyTimes u_heavyMany yg_fewest yg_which yg_met u_mostMet, kx_a yg_row cyI 160 f, kx_a yg_many cyI 324 u_many, kx_a yg_loss cyI 324 u_loss, kx_a yg_less cyI 324 u_less, kx_a yg_voteValue cyI 1944 u_voteValue, kx_a yg_voteNumber cyI 1944 u_voteNumber, kx_a yg_allValue cyI 12 u_allValue, kx_a yg_allNumber cyI 12 u_allNumber, kx_a yg_nodeL cyI 320 u_nodeL, kx_a yg_nodeR cyI 320 u_nodeR, kx_a yg_part cyI 320 u_part, kx_a yg_wasMany cyI 320 u_wasMany, kx_a yg_wasLoss cyI 320 u_wasLoss, kx_a yg_wasValue cyI 1920 u_wasValue, kx_a yg_wasNumber cyI 1920 u_wasNumber, kx_a yg_path cyI 12 u_path, kx_a yg_heavyValue cyI 160 u_heavyValue, kx_a yg_heavyTimes cyI 160 u_heavyTimes, kx_a yg_fewest cyI 161 u_fewest, kx_a yg_which cyI 160 u_which, kx_a yg_met cyI 160 u_met, (q_o, .inl (cyL, 1, .inr (.inl ol)))]) (hS : va_S (fun q : Nat => s.heap.size ≤ q) s.heap H locs) {ls : Array Slot} (hl : lv_has ls 7 [(4, .int ix), (3, .ref q_o), (2, .ref yh0), (1, .ref xm_), (0, .ref b)]) : W p l e room_1 s m #[Value.ref b] below meth c H locs (60 + 2 * j) (20000 + 12 * j) (lw_Z below #[Value.ref b] s) (F0 m 1426 ls []) := by
  obtain ⟨hx, hb, hr, hml, hown, hts0, hX, hbl, hlocks, hgv⟩ := id C0
  have hts := hts0
  have hA : ∀ q : Nat, s.heap.size ≤ q → (fun q : Nat => s.heap.size ≤ q) q := fun _ h => h
  have hbA : ¬ (fun q : Nat => s.heap.size ≤ q) b := Nat.not_le.mpr hbl
  have hown : s.vm.findClass RL = some m.cls := hown
  have hb : c.code = cL_law := hb
  have hj0 : 0 ≤ (j : Int) := Int.natCast_nonneg j
  have hjI : 8 * (j : Int) + 8 ≤ (L : Int) := lw_jI hj
  have hLI : (L : Int) ≤ 4096 := lw_LI hL
  refine lv_aload_n hx hb dL_law_1426 rfl (lv_at hl 3 rfl) ?_
  refine lv_aload_n hx hb dL_law_1427 rfl (lv_at hl 4 rfl) ?_
  refine lv_iload hx hb dL_law_1428 (lv_at hl 0 rfl) ?_
  refine lv_iconst (v := 1) hx hb dL_law_1430 (by decide) ?_
  refine lv_iadd hx hb dL_law_1431 ?_
  refine lv_topi (fun y_1 ey_1 => ?_)
  have i_1 : y_1.toInt = ix.toInt + 1 := ki_add ey_1 rfl rfl (om_568 hix hj0) (om_569 hix hjI hLI)
  refine va_sld hx hb hX hbl hbA hS (i := y_1) (ki_in (om_570 hix hj0 i_1) (om_571 hix hjI i_1)) dL_law_1432 ?_
  refine lv_topi (fun y_2 ey_2 => ?_)
  refine lv_aload_n hx hb dL_law_1433 rfl (lv_at hl 4 rfl) ?_
  refine lv_iload hx hb dL_law_1434 (lv_at hl 0 rfl) ?_
  refine lv_iconst (v := 2) hx hb dL_law_1436 (by decide) ?_
  refine lv_iadd hx hb dL_law_1437 ?_
  refine lv_topi (fun y_3 ey_3 => ?_)
  have i_3 : y_3.toInt = ix.toInt + 2 := ki_add ey_3 rfl rfl (om_572 hix hj0) (om_573 hix hjI hLI)
  refine va_sld hx hb hX hbl hbA hS (i := y_3) (ki_in (om_574 hix hj0 i_3) (om_575 hix hjI i_3)) dL_law_1438 ?_
  refine lv_topi (fun y_4 ey_4 => ?_)
  refine lv_aload_n hx hb dL_law_1439 rfl (lv_at hl 4 rfl) ?_
  refine lv_iload hx hb dL_law_1440 (lv_at hl 0 rfl) ?_
  refine lv_iconst (v := 3) hx hb dL_law_1442 (by decide) ?_
  refine lv_iadd hx hb dL_law_1443 ?_
  refine lv_topi (fun y_5 ey_5 => ?_)
  have i_5 : y_5.toInt = ix.toInt + 3 := ki_add ey_5 rfl rfl (om_580 hix hj0) (om_581 hix hjI hLI)
  refine va_sld hx hb hX hbl hbA hS (i := y_5) (ki_in (om_582 hix hj0 i_5) (om_583 hix hjI i_5)) dL_law_1444 ?_
  refine lv_topi (fun y_6 ey_6 => ?_)
  refine lv_aload_n hx hb dL_law_1445 rfl (lv_at hl 4 rfl) ?_
  refine lv_iload hx hb dL_law_1446 (lv_at hl 0 rfl) ?_
  refine lv_iconst (v := 4) hx hb dL_law_1448 (by decide) ?_
  refine lv_iadd hx hb dL_law_1449 ?_
  refine lv_topi (fun y_7 ey_7 => ?_)
  have i_7 : y_7.toInt = ix.toInt + 4 := ki_add ey_7 rfl rfl (om_585 hix hj0) (om_586 hix hjI hLI)
  refine va_sld hx hb hX hbl hbA hS (i := y_7) (ki_in (om_587 hix hj0 i_7) (om_588 hix hjI i_7)) dL_law_1450 ?_
  refine lv_topi (fun y_8 ey_8 => ?_)
  obtain ⟨hPc, hDc, hFc, hCc⟩ := kx_preM (wc := [kx_4 xm_ xq_row xq_t xt_ xh0 xk0 xw_ xz_ slots old, kx_2 xq_t xq_row xq_joined xq_from xq_to xq_size xq_lossOf xq_lessBy xq_value xq_number nodes here, kx_0 xq_row xq_cell len, kx_a xq_cell cyI 160 f, kx_a xq_from cyI 319 ff, kx_a xq_to cyI 319 ft, kx_a xq_size cyI 319 fs, kx_a xq_lossOf cyI 319 fo, kx_a xq_lessBy cyI 319 fe, kx_a xq_value cyI 1914 uv, kx_a xq_number cyI 1914 un, kx_3 xq_joined xj_v xj_n js jl je, kx_a xj_v cyI 12 jv, kx_a xj_n cyI 12 jn, kx_3 xh0 xa_v xa_n vs lo le, kx_a xa_v cyI 12 fv, kx_a xa_n cyI 12 fn]) hP hD hS hA [true, true, true, true, true, true, true, true, true, true, true, true, true, true, true, true, true, false, false, false, false, false, false, false, false, false, false, false, false, false, false, false, false, false, false, false, false, false, false, false, false, false, false, false, false, false, false, false] rfl
  have hKc := hK.sub (tys' := [(cyI, .int)]) [0] rfl
  refine va_calli (va_runV (As := [.int y_2, .int y_4, .int y_6, .int y_8]) (rest := []) ⟨hx, hb, hml, hown, (lwC_X4_least hts0)⟩ (kx_un (c_X4_least_x l dC dI xm_ xq_row xq_t xt_ xh0 xk0 xw_ xz_ slots old xq_joined xq_from xq_to xq_size xq_lossOf xq_lessBy xq_value xq_number nodes here xq_cell cyI len f ff ft fs fo uv un fe xj_v xj_n js jl je jv jn xa_v xa_n vs lo le fv fn y_2 y_4 y_6 y_8 H.size I0 I1 I5 I2 I3 I6)) (cwV 4 (lwC_X4_least hts0) lwG_X4_least rfl rfl rfl (by decide +kernel) ⟨Nat.le_of_ble_eq_true rfl, Nat.le_of_ble_eq_true rfl⟩) ⟨fun a U g mk q => by obtain ⟨q0, q1, qP, qK, qD⟩ := q; exact ⟨q0, q1, qP, va_K.moved (u := U) (U := U.calling g mk a) (Vm.Alike.refl U.vm) qK, qD⟩, kx_rc4 hKc hPc (q0 := 0) rfl, fun U hU hW => ⟨rfl, by rw [hU], by rw [hU]; exact hPc, va_K.moved hW.alike hKc, hDc.weaken (fun _ _ _ _ => trivial)⟩⟩ rfl rfl hl.1 rfl (lv_room (Nat.le_of_ble_eq_true rfl)) dL_law_1451 (lw_fitJ hj hL (Nat.le_of_ble_eq_true rfl) (Nat.le_of_ble_eq_true rfl))) hS (fun q _ h => hFc q h) hFc (fun r_9 u t H1 locs ht hvm w_9 hB hz1 hk1 hS => ?_)
  obtain ⟨o_10, o_11, o_12, o_13, o_14, o_15, o_16, o_17, o_18, o_19, o_20, o_21, o_22, o_23, o_24, o_25, o_26, o_27, o_28, o_29⟩ := u
  dsimp only at w_9 hB
  obtain ⟨hP1, hK1, hD1⟩ := hB
  rw [ht] at hP1
  have hK1 := va_K.moved hvm.symm hK1
  obtain ⟨hP, hD⟩ := kx_joinM (w2 := [kx_4 xm_ xq_row xq_t xt_ xh0 xk0 xw_ xz_ slots o_10, kx_2 xq_t xq_row xq_joined xq_from xq_to xq_size xq_lossOf xq_lessBy xq_value xq_number o_11 o_12, kx_0 xq_row xq_cell len, kx_a xq_cell cyI 160 f, kx_a xq_from cyI 319 o_13, kx_a xq_to cyI 319 o_14, kx_a xq_size cyI 319 o_15, kx_a xq_lossOf cyI 319 o_16, kx_a xq_lessBy cyI 319 o_17, kx_a xq_value cyI 1914 o_18, kx_a xq_number cyI 1914 o_19, kx_3 xq_joined xj_v xj_n o_20 o_21 o_22, kx_a xj_v cyI 12 o_23, kx_a xj_n cyI 12 o_24, kx_3 xh0 xa_v xa_n o_25 o_26 o_27, kx_a xa_v cyI 12 o_28, kx_a xa_n cyI 12 o_29, kx_3 xk0 xkv xkn sb lb eb, kx_a xkv cyI 12 gb, kx_a xkn cyI 12 nb, kx_1 xt_ xt_k xt_o tk mo, kx_a xt_k cyI 160 fk, kx_a xt_o cyI 160 fq, kx_a xw_ cyI 160 fw, kx_a xz_ cyI 161 fz, kx_5 yh0 yg_row len slots u_thrown yg_many yg_loss yg_less yg_voteValue yg_voteNumber yg_allValue yg_allNumber u_allMany yg_nodeL yg_nodeR u_nodes yg_part u_partMany yg_wasMany yg_wasLoss yg_wasValue yg_wasNumber yg_path u_pathMany yg_heavyValue yg_heavyTimes u_heavyMany yg_fewest yg_which yg_met u_mostMet, kx_a yg_row cyI 160 f, kx_a yg_many cyI 324 u_many, kx_a yg_loss cyI 324 u_loss, kx_a yg_less cyI 324 u_less, kx_a yg_voteValue cyI 1944 u_voteValue, kx_a yg_voteNumber cyI 1944 u_voteNumber, kx_a yg_allValue cyI 12 u_allValue, kx_a yg_allNumber cyI 12 u_allNumber, kx_a yg_nodeL cyI 320 u_nodeL, kx_a yg_nodeR cyI 320 u_nodeR, kx_a yg_part cyI 320 u_part, kx_a yg_wasMany cyI 320 u_wasMany, kx_a yg_wasLoss cyI 320 u_wasLoss, kx_a yg_wasValue cyI 1920 u_wasValue, kx_a yg_wasNumber cyI 1920 u_wasNumber, kx_a yg_path cyI 12 u_path, kx_a yg_heavyValue cyI 160 u_heavyValue, kx_a yg_heavyTimes cyI 160 u_heavyTimes, kx_a yg_fewest cyI 161 u_fewest, kx_a yg_which cyI 160 u_which, kx_a yg_met cyI 160 u_met, (q_o, .inl (cyL, 1, .inr (.inl ol)))]) hP hD hP1 hD1 hk1 hFc [true, true, true, true, true, true, true, true, true, true, true, true, true, true, true, true, true, false, false, false, false, false, false, false, false, false, false, false, false, false, false, false, false, false, false, false, false, false, false, false, false, false, false, false, false, false, false, false] hCc rfl
  clear hP1 hD1 hK1 hk1 hz1 hFc hDc hPc hKc hCc
  generalize H1 = H at hP hS ⊢
  have w_9 : laidX o_10 slots o_12 f o_13 o_14 o_15 o_16 o_17 o_18 o_19 o_11 len ∧ sixes o_15 := w_9
  refine lv_pop hx hb dL_law_1454 rfl ?_
  refine lv_aload_n hx hb dL_law_1455 rfl (lv_at hl 2 rfl) ?_
  refine lv_aload_n hx hb dL_law_1456 rfl (lv_at hl 4 rfl) ?_
  refine lv_iload hx hb dL_law_1457 (lv_at hl 0 rfl) ?_
  refine lv_iconst (v := 1) hx hb dL_law_1459 (by decide) ?_
  refine lv_iadd hx hb dL_law_1460 ?_
  refine lv_topi (fun y_30 ey_30 => ?_)
  have i_30 : y_30.toInt = ix.toInt + 1 := ki_add ey_30 rfl rfl (om_568 hix hj0) (om_569 hix hjI hLI)
  refine va_sld hx hb hX hbl hbA hS (i := y_30) (ki_in (om_570 hix hj0 i_30) (om_571 hix hjI i_30)) dL_law_1461 ?_
  refine lv_topi (fun y_31 ey_31 => ?_)
  have qy_31 : y_2 = y_31 := by rw [ey_2, ey_31, ki_nateq (show y_1.toInt = y_30.toInt from (om_576 i_1 i_30))]
  subst qy_31
  refine lv_aload_n hx hb dL_law_1462 rfl (lv_at hl 4 rfl) ?_
  refine lv_iload hx hb dL_law_1463 (lv_at hl 0 rfl) ?_
  refine lv_iconst (v := 2) hx hb dL_law_1465 (by decide) ?_
  refine lv_iadd hx hb dL_law_1466 ?_
  refine lv_topi (fun y_32 ey_32 => ?_)
  have i_32 : y_32.toInt = ix.toInt + 2 := ki_add ey_32 rfl rfl (om_572 hix hj0) (om_573 hix hjI hLI)
  refine va_sld hx hb hX hbl hbA hS (i := y_32) (ki_in (om_574 hix hj0 i_32) (om_575 hix hjI i_32)) dL_law_1467 ?_
  refine lv_topi (fun y_33 ey_33 => ?_)
  have qy_33 : y_4 = y_33 := by rw [ey_4, ey_33, ki_nateq (show y_3.toInt = y_32.toInt from (om_577 i_3 i_32))]
  subst qy_33
  refine lv_aload_n hx hb dL_law_1468 rfl (lv_at hl 4 rfl) ?_
  refine lv_iload hx hb dL_law_1469 (lv_at hl 0 rfl) ?_
  refine lv_iconst (v := 3) hx hb dL_law_1471 (by decide) ?_
  refine lv_iadd hx hb dL_law_1472 ?_
  refine lv_topi (fun y_34 ey_34 => ?_)
  have i_34 : y_34.toInt = ix.toInt + 3 := ki_add ey_34 rfl rfl (om_580 hix hj0) (om_581 hix hjI hLI)
  refine va_sld hx hb hX hbl hbA hS (i := y_34) (ki_in (om_582 hix hj0 i_34) (om_583 hix hjI i_34)) dL_law_1473 ?_
  refine lv_topi (fun y_35 ey_35 => ?_)
  have qy_35 : y_6 = y_35 := by rw [ey_6, ey_35, ki_nateq (show y_5.toInt = y_34.toInt from (om_584 i_5 i_34))]
  subst qy_35
  refine lv_aload_n hx hb dL_law_1474 rfl (lv_at hl 4 rfl) ?_
  refine lv_iload hx hb dL_law_1475 (lv_at hl 0 rfl) ?_
  refine lv_iconst (v := 4) hx hb dL_law_1477 (by decide) ?_
  refine lv_iadd hx hb dL_law_1478 ?_
  refine lv_topi (fun y_36 ey_36 => ?_)
  have i_36 : y_36.toInt = ix.toInt + 4 := ki_add ey_36 rfl rfl (om_585 hix hj0) (om_586 hix hjI hLI)
  refine va_sld hx hb hX hbl hbA hS (i := y_36) (ki_in (om_587 hix hj0 i_36) (om_588 hix hjI i_36)) dL_law_1479 ?_
  refine lv_topi (fun y_37 ey_37 => ?_)
  have qy_37 : y_8 = y_37 := by rw [ey_8, ey_37, ki_nateq (show y_7.toInt = y_36.toInt from (om_589 i_7 i_36))]
  subst qy_37
  obtain ⟨hPc, hDc, hFc, hCc⟩ := kx_preM (wc := [kx_5 yh0 yg_row len slots u_thrown yg_many yg_loss yg_less yg_voteValue yg_voteNumber yg_allValue yg_allNumber u_allMany yg_nodeL yg_nodeR u_nodes yg_part u_partMany yg_wasMany yg_wasLoss yg_wasValue yg_wasNumber yg_path u_pathMany yg_heavyValue yg_heavyTimes u_heavyMany yg_fewest yg_which yg_met u_mostMet, kx_a yg_row cyI 160 f, kx_a yg_many cyI 324 u_many, kx_a yg_loss cyI 324 u_loss, kx_a yg_less cyI 324 u_less, kx_a yg_voteValue cyI 1944 u_voteValue, kx_a yg_voteNumber cyI 1944 u_voteNumber, kx_a yg_allValue cyI 12 u_allValue, kx_a yg_allNumber cyI 12 u_allNumber, kx_a yg_nodeL cyI 320 u_nodeL, kx_a yg_nodeR cyI 320 u_nodeR, kx_a yg_part cyI 320 u_part, kx_a yg_heavyValue cyI 160 u_heavyValue, kx_a yg_heavyTimes cyI 160 u_heavyTimes]) hP hD hS hA [false, false, false, false, false, false, false, false, false, false, false, false, false, false, false, false, false, false, false, false, false, false, false, false, false, true, true, true, true, true, true, true, true, true, true, true, true, false, false, false, false, false, true, true, false, false, false, false] rfl
  have hKc := hK.sub (tys' := [(cyI, .int)]) [0] rfl
  refine va_calli (va_runV (As := [.int y_2, .int y_4, .int y_6, .int y_8]) (rest := []) ⟨hx, hb, hml, hown, (lwC_X5_least hts0)⟩ (kx_un (c_X5_least l dC dI yh0 yg_row yg_many yg_loss yg_less yg_voteValue yg_voteNumber yg_allValue yg_allNumber yg_nodeL yg_nodeR yg_part yg_wasMany yg_wasLoss yg_wasValue yg_wasNumber yg_path yg_heavyValue yg_heavyTimes yg_fewest yg_which yg_met len slots u_thrown u_allMany u_nodes u_partMany u_pathMany u_heavyMany u_mostMet cyI u_many u_loss u_less u_voteValue u_voteNumber f u_allValue u_allNumber u_nodeL u_nodeR u_part u_heavyValue u_heavyTimes y_2 y_4 y_6 y_8 H.size I0 I1 I2 I3 I7 I8)) (cwV 4 (lwC_X5_least hts0) lwG_X5_least rfl rfl rfl (by decide +kernel) ⟨Nat.le_of_ble_eq_true rfl, Nat.le_of_ble_eq_true rfl⟩) ⟨fun a U g mk q => by obtain ⟨q0, q1, qP, qK, qD⟩ := q; exact ⟨q0, q1, qP, va_K.moved (u := U) (U := U.calling g mk a) (Vm.Alike.refl U.vm) qK, qD⟩, kx_rc5 hKc hPc (q0 := 0) rfl, fun U hU hW => ⟨rfl, by rw [hU], by rw [hU]; exact hPc, va_K.moved hW.alike hKc, hDc.weaken (fun _ _ _ _ => trivial)⟩⟩ rfl rfl hl.1 rfl (lv_room (Nat.le_of_ble_eq_true rfl)) dL_law_1480 (lw_fitJ hj hL (Nat.le_of_ble_eq_true rfl) (Nat.le_of_ble_eq_true rfl))) hS (fun q _ h => hFc q h) hFc (fun r_38 u t H1 locs ht hvm w_38 hB hz1 hk1 hS => ?_)
  obtain ⟨o_39, o_40, o_41, o_42, o_43, o_44, o_45, o_46, o_47, o_48, o_49, o_50, o_51, o_52, o_53, o_54⟩ := u
  dsimp only at w_38 hB
  obtain ⟨hP1, hK1, hD1⟩ := hB
  rw [ht] at hP1
  have hK1 := va_K.moved hvm.symm hK1
  obtain ⟨hP, hD⟩ := kx_joinM (w2 := [kx_4 xm_ xq_row xq_t xt_ xh0 xk0 xw_ xz_ slots o_10, kx_2 xq_t xq_row xq_joined xq_from xq_to xq_size xq_lossOf xq_lessBy xq_value xq_number o_11 o_12, kx_0 xq_row xq_cell len, kx_a xq_cell cyI 160 f, kx_a xq_from cyI 319 o_13, kx_a xq_to cyI 319 o_14, kx_a xq_size cyI 319 o_15, kx_a xq_lossOf cyI 319 o_16, kx_a xq_lessBy cyI 319 o_17, kx_a xq_value cyI 1914 o_18, kx_a xq_number cyI 1914 o_19, kx_3 xq_joined xj_v xj_n o_20 o_21 o_22, kx_a xj_v cyI 12 o_23, kx_a xj_n cyI 12 o_24, kx_3 xh0 xa_v xa_n o_25 o_26 o_27, kx_a xa_v cyI 12 o_28, kx_a xa_n cyI 12 o_29, kx_3 xk0 xkv xkn sb lb eb, kx_a xkv cyI 12 gb, kx_a xkn cyI 12 nb, kx_1 xt_ xt_k xt_o tk mo, kx_a xt_k cyI 160 fk, kx_a xt_o cyI 160 fq, kx_a xw_ cyI 160 fw, kx_a xz_ cyI 161 fz, kx_5 yh0 yg_row len slots 0 yg_many yg_loss yg_less yg_voteValue yg_voteNumber yg_allValue yg_allNumber o_40 yg_nodeL yg_nodeR o_39 yg_part o_41 yg_wasMany yg_wasLoss yg_wasValue yg_wasNumber yg_path u_pathMany yg_heavyValue yg_heavyTimes o_42 yg_fewest yg_which yg_met u_mostMet, kx_a yg_row cyI 160 f, kx_a yg_many cyI 324 o_43, kx_a yg_loss cyI 324 o_44, kx_a yg_less cyI 324 o_45, kx_a yg_voteValue cyI 1944 o_46, kx_a yg_voteNumber cyI 1944 o_47, kx_a yg_allValue cyI 12 o_48, kx_a yg_allNumber cyI 12 o_49, kx_a yg_nodeL cyI 320 o_50, kx_a yg_nodeR cyI 320 o_51, kx_a yg_part cyI 320 o_52, kx_a yg_wasMany cyI 320 u_wasMany, kx_a yg_wasLoss cyI 320 u_wasLoss, kx_a yg_wasValue cyI 1920 u_wasValue, kx_a yg_wasNumber cyI 1920 u_wasNumber, kx_a yg_path cyI 12 u_path, kx_a yg_heavyValue cyI 160 o_53, kx_a yg_heavyTimes cyI 160 o_54, kx_a yg_fewest cyI 161 u_fewest, kx_a yg_which cyI 160 u_which, kx_a yg_met cyI 160 u_met, (q_o, .inl (cyL, 1, .inr (.inl ol)))]) hP hD hP1 hD1 hk1 hFc [false, false, false, false, false, false, false, false, false, false, false, false, false, false, false, false, false, false, false, false, false, false, false, false, false, true, true, true, true, true, true, true, true, true, true, true, true, false, false, false, false, false, true, true, false, false, false, false] hCc rfl
  clear hP1 hD1 hK1 hk1 hz1 hFc hDc hPc hKc hCc
  generalize H1 = H at hP hS ⊢
  have w_38 : six4 o_43 ∧ parts320 o_52 := w_38
  refine lv_pop hx hb dL_law_1483 rfl ?_
  refine lv_goto (tgt := 2288) hx hb dL_law_1484 (by decide) ?_
  obtain ⟨x_55, ex_55⟩ : ∃ y : Int32, y = ix + 8 := ⟨_, rfl⟩
  have i_55 : x_55.toInt = ix.toInt + 8 := ki_add ex_55 rfl rfl (om_578 hix hj0) (om_579 hix hjI hLI)
  refine lv_iinc (v := x_55) (lv' := [(4, .int x_55), (3, .ref q_o), (2, .ref yh0), (1, .ref xm_), (0, .ref b)]) hx hb dL_law_2288 hl (k := 0) rfl (by rw [ex_55]; rfl) (by decide) rfl (fun ls hl => ?_)
  refine lv_goto (tgt := 23) hx hb dL_law_2291 (by decide) ?_
  refine W.widen (k := 60 + 2 * (j + 1)) (n := 20000 + 12 * (j + 1)) (lw_wdC (k := 0) (Nat.le_of_ble_eq_true rfl)) (lw_wdS (k := 0) (Nat.le_of_ble_eq_true rfl)) ?_
  have k_56 : (0 : Int32).toInt = 0 := rfl
  exact ih len slots o_10 o_11 o_12 o_20 o_21 o_22 o_25 o_26 o_27 sb lb eb tk mo 0 o_40 o_39 o_41 u_pathMany o_42 u_mostMet f o_13 o_14 o_15 o_16 o_17 o_18 o_19 o_23 o_24 o_28 o_29 gb nb fk fq fw fz o_43 o_44 o_45 o_46 o_47 o_48 o_49 o_50 o_51 o_52 u_wasMany u_wasLoss u_wasValue u_wasNumber u_path o_53 o_54 u_fewest u_which u_met ol x_55 (om_ix i_55 hix) I0 I1 I2 I3 I4 w_9.2 w_9.1 w_38.1 w_38.2 _ _ ls hP hD hS (lv_sub hl [0, 1, 2, 3, 4] rfl)

set_option maxHeartbeats 4000000 in
set_option maxRecDepth 100000 in
theorem lc_29 {p : Program} {l : Launch} {e : Env} {s : State} {m : MethodId} {below : List Frame} {meth : Method} {c : Code} {dC : Nat → ClassId} {dI : Nat → Nat → Nat} {b : Nat} {xs : Nat → Int32} (hl0 : l.stackTraces = false) {L j : Nat} (hL : L ≤ 4096) (hj : 8 * j + 8 ≤ L) (C0 : lw_At p s m meth c b L xs) (hth : ki_ThA (fun q : Nat => s.heap.size ≤ q) s) {cyI cyL : ClassId} {xm_ xq_t xq_row xq_cell xq_from xq_to xq_size xq_lossOf xq_lessBy xq_value xq_number xq_joined xj_v xj_n xh0 xa_v xa_n xk0 xkv xkn xt_ xt_k xt_o xw_ xz_ yh0 yg_row yg_many yg_loss yg_less yg_voteValue yg_voteNumber yg_allValue yg_allNumber yg_nodeL yg_nodeR yg_part yg_wasMany yg_wasLoss yg_wasValue yg_wasNumber yg_path yg_heavyValue yg_heavyTimes yg_fewest yg_which yg_met q_o : Nat} (hK : va_K (dC, dI) vwCl [(cyI, .int), (cyL, .long)] s) (ih : lw_G p l e s m below meth c b dC dI cyI cyL xm_ xq_t xq_row xq_cell xq_from xq_to xq_size xq_lossOf xq_lessBy xq_value xq_number xq_joined xj_v xj_n xh0 xa_v xa_n xk0 xkv xkn xt_ xt_k xt_o xw_ xz_ yh0 yg_row yg_many yg_loss yg_less yg_voteValue yg_voteNumber yg_allValue yg_allNumber yg_nodeL yg_nodeR yg_part yg_wasMany yg_wasLoss yg_wasValue yg_wasNumber yg_path yg_heavyValue yg_heavyTimes yg_fewest yg_which yg_met q_o (j + 1)) {len slots old nodes here js jl je vs lo le sb lb eb tk mo u_thrown u_allMany u_nodes u_partMany u_pathMany u_heavyMany u_mostMet ix : Int32} {f ff ft fs fo fe uv un jv jn fv fn gb nb fk fq fw fz u_many u_loss u_less u_voteValue u_voteNumber u_allValue u_allNumber u_nodeL u_nodeR u_part u_wasMany u_wasLoss u_wasValue u_wasNumber u_path u_heavyValue u_heavyTimes u_fewest u_which u_met : Nat → Int32} {ol : Nat → Int64} (hix : ix.toInt = 8 * (j : Int)) (I0 : 0 ≤ len.toInt) (I1 : len.toInt ≤ 160) (I2 : 1 ≤ slots.toInt) (I3 : slots.toInt ≤ 6) (I4 : shorts f) (I5 : sixes fs) (I6 : laidX old slots here f ff ft fs fo fe uv un nodes len) (I7 : six4 u_many) (I8 : parts320 u_part) {H : Heap} {locs : List Loc} (hP : va_P (dC, dI) vwCl [kx_4 xm_ xq_row xq_t xt_ xh0 xk0 xw_ xz_ slots old, kx_2 xq_t xq_row xq_joined xq_from xq_to xq_size xq_lossOf xq_lessBy xq_value xq_number nodes here, kx_0 xq_row xq_cell len, kx_a xq_cell cyI 160 f, kx_a xq_from cyI 319 ff, kx_a xq_to cyI 319 ft, kx_a xq_size cyI 319 fs, kx_a xq_lossOf cyI 319 fo, kx_a xq_lessBy cyI 319 fe, kx_a xq_value cyI 1914 uv, kx_a xq_number cyI 1914 un, kx_3 xq_joined xj_v xj_n js jl je, kx_a xj_v cyI 12 jv, kx_a xj_n cyI 12 jn, kx_3 xh0 xa_v xa_n vs lo le, kx_a xa_v cyI 12 fv, kx_a xa_n cyI 12 fn, kx_3 xk0 xkv xkn sb lb eb, kx_a xkv cyI 12 gb, kx_a xkn cyI 12 nb, kx_1 xt_ xt_k xt_o tk mo, kx_a xt_k cyI 160 fk, kx_a xt_o cyI 160 fq, kx_a xw_ cyI 160 fw, kx_a xz_ cyI 161 fz, kx_5 yh0 yg_row len slots u_thrown yg_many yg_loss yg_less yg_voteValue yg_voteNumber yg_allValue yg_allNumber u_allMany yg_nodeL yg_nodeR u_nodes yg_part u_partMany yg_wasMany yg_wasLoss yg_wasValue yg_wasNumber yg_path u_pathMany yg_heavyValue yg_heavyTimes u_heavyMany yg_fewest yg_which yg_met u_mostMet, kx_a yg_row cyI 160 f, kx_a yg_many cyI 324 u_many, kx_a yg_loss cyI 324 u_loss, kx_a yg_less cyI 324 u_less, kx_a yg_voteValue cyI 1944 u_voteValue, kx_a yg_voteNumber cyI 1944 u_voteNumber, kx_a yg_allValue cyI 12 u_allValue, kx_a yg_allNumber cyI 12 u_allNumber, kx_a yg_nodeL cyI 320 u_nodeL, kx_a yg_nodeR cyI 320 u_nodeR, kx_a yg_part cyI 320 u_part, kx_a yg_wasMany cyI 320 u_wasMany, kx_a yg_wasLoss cyI 320 u_wasLoss, kx_a yg_wasValue cyI 1920 u_wasValue, kx_a yg_wasNumber cyI 1920 u_wasNumber, kx_a yg_path cyI 12 u_path, kx_a yg_heavyValue cyI 160 u_heavyValue, kx_a yg_heavyTimes cyI 160 u_heavyTimes, kx_a yg_fewest cyI 161 u_fewest, kx_a yg_which cyI 160 u_which, kx_a yg_met cyI 160 u_met, (q_o, .inl (cyL, 1, .inr (.inl ol)))] H) (hD : va_D (fun q : Nat => s.heap.size ≤ q) [kx_4 xm_ xq_row xq_t xt_ xh0 xk0 xw_ xz_ slots old, kx_2 xq_t xq_row xq_joined xq_from xq_to xq_size xq_lossOf xq_lessBy xq_value xq_number nodes here, kx_0 xq_row xq_cell len, kx_a xq_cell cyI 160 f, kx_a xq_from cyI 319 ff, kx_a xq_to cyI 319 ft, kx_a xq_size cyI 319 fs, kx_a xq_lossOf cyI 319 fo, kx_a xq_lessBy cyI 319 fe, kx_a xq_value cyI 1914 uv, kx_a xq_number cyI 1914 un, kx_3 xq_joined xj_v xj_n js jl je, kx_a xj_v cyI 12 jv, kx_a xj_n cyI 12 jn, kx_3 xh0 xa_v xa_n vs lo le, kx_a xa_v cyI 12 fv, kx_a xa_n cyI 12 fn, kx_3 xk0 xkv xkn sb lb eb, kx_a xkv cyI 12 gb, kx_a xkn cyI 12 nb, kx_1 xt_ xt_k xt_o tk mo, kx_a xt_k cyI 160 fk, kx_a xt_o cyI 160 fq, kx_a xw_ cyI 160 fw, kx_a xz_ cyI 161 fz, kx_5 yh0 yg_row len slots u_thrown yg_many yg_loss yg_less yg_voteValue yg_voteNumber yg_allValue yg_allNumber u_allMany yg_nodeL yg_nodeR u_nodes yg_part u_partMany yg_wasMany yg_wasLoss yg_wasValue yg_wasNumber yg_path u_pathMany yg_heavyValue yg_heavyTimes u_heavyMany yg_fewest yg_which yg_met u_mostMet, kx_a yg_row cyI 160 f, kx_a yg_many cyI 324 u_many, kx_a yg_loss cyI 324 u_loss, kx_a yg_less cyI 324 u_less, kx_a yg_voteValue cyI 1944 u_voteValue, kx_a yg_voteNumber cyI 1944 u_voteNumber, kx_a yg_allValue cyI 12 u_allValue, kx_a yg_allNumber cyI 12 u_allNumber, kx_a yg_nodeL cyI 320 u_nodeL, kx_a yg_nodeR cyI 320 u_nodeR, kx_a yg_part cyI 320 u_part, kx_a yg_wasMany cyI 320 u_wasMany, kx_a yg_wasLoss cyI 320 u_wasLoss, kx_a yg_wasValue cyI 1920 u_wasValue, kx_a yg_wasNumber cyI 1920 u_wasNumber, kx_a yg_path cyI 12 u_path, kx_a yg_heavyValue cyI 160 u_heavyValue, kx_a yg_heavyTimes cyI 160 u_heavyTimes, kx_a yg_fewest cyI 161 u_fewest, kx_a yg_which cyI 160 u_which, kx_a yg_met cyI 160 u_met, (q_o, .inl (cyL, 1, .inr (.inl ol)))]) (hS : va_S (fun q : Nat => s.heap.size ≤ q) s.heap H locs) {ls : Array Slot} (hl : lv_has ls 7 [(4, .int ix), (3, .ref q_o), (2, .ref yh0), (1, .ref xm_), (0, .ref b)]) : W p l e room_1 s m #[Value.ref b] below meth c H locs (60 + 2 * j) (20000 + 12 * j) (lw_Z below #[Value.ref b] s) (F0 m 1487 ls []) := by
  obtain ⟨hx, hb, hr, hml, hown, hts0, hX, hbl, hlocks, hgv⟩ := id C0
  have hts := hts0
  have hA : ∀ q : Nat, s.heap.size ≤ q → (fun q : Nat => s.heap.size ≤ q) q := fun _ h => h
  have hbA : ¬ (fun q : Nat => s.heap.size ≤ q) b := Nat.not_le.mpr hbl
  have hown : s.vm.findClass RL = some m.cls := hown
  have hb : c.code = cL_law := hb
  have hj0 : 0 ≤ (j : Int) := Int.natCast_nonneg j
  have hjI : 8 * (j : Int) + 8 ≤ (L : Int) := lw_jI hj
  have hLI : (L : Int) ≤ 4096 := lw_LI hL
  have hN__methodLinkNest_RX0_28_yX4_isHeavy_RX4 : va_Nw (.methodLinkNest RX0 28 yX4_isHeavy RX4) s := va_Nw.of rfl (hts0 (.methodLinkNest RX0 28 yX4_isHeavy RX4) lwW_515)
  refine lv_aload_n hx hb dL_law_1487 rfl (lv_at hl 3 rfl) ?_
  refine lv_aload_n hx hb dL_law_1488 rfl (lv_at hl 4 rfl) ?_
  refine lv_iload hx hb dL_law_1489 (lv_at hl 0 rfl) ?_
  refine lv_iconst (v := 1) hx hb dL_law_1491 (by decide) ?_
  refine lv_iadd hx hb dL_law_1492 ?_
  refine lv_topi (fun y_1 ey_1 => ?_)
  have i_1 : y_1.toInt = ix.toInt + 1 := ki_add ey_1 rfl rfl (om_568 hix hj0) (om_569 hix hjI hLI)
  refine va_sld hx hb hX hbl hbA hS (i := y_1) (ki_in (om_570 hix hj0 i_1) (om_571 hix hjI i_1)) dL_law_1493 ?_
  refine lv_topi (fun y_2 ey_2 => ?_)
  refine lv_aload_n hx hb dL_law_1494 rfl (lv_at hl 4 rfl) ?_
  refine lv_iload hx hb dL_law_1495 (lv_at hl 0 rfl) ?_
  refine lv_iconst (v := 2) hx hb dL_law_1497 (by decide) ?_
  refine lv_iadd hx hb dL_law_1498 ?_
  refine lv_topi (fun y_3 ey_3 => ?_)
  have i_3 : y_3.toInt = ix.toInt + 2 := ki_add ey_3 rfl rfl (om_572 hix hj0) (om_573 hix hjI hLI)
  refine va_sld hx hb hX hbl hbA hS (i := y_3) (ki_in (om_574 hix hj0 i_3) (om_575 hix hjI i_3)) dL_law_1499 ?_
  refine lv_topi (fun y_4 ey_4 => ?_)
  have hPc := hP.sub (ws' := [kx_4 xm_ xq_row xq_t xt_ xh0 xk0 xw_ xz_ slots old, kx_0 xq_row xq_cell len, kx_a xq_cell cyI 160 f]) [0, 2, 3] rfl
  have hKc := hK.sub (tys' := [(cyI, .int)]) [0] rfl
  refine vp_callSi (W.runV (As := [.int y_2, .int y_4]) (rest := []) ⟨hx, hb, hml, hown, (lwC_X4_majority hts0)⟩ (c_X4_majority l dC dI xm_ xq_row xq_t xt_ xh0 xk0 xw_ xz_ slots old xq_cell cyI len f y_2 y_4 I0 I1) (cwV 2 (lwC_X4_majority hts0) lwG_X4_majority rfl rfl rfl (by decide +kernel) ⟨Nat.le_of_ble_eq_true rfl, Nat.le_of_ble_eq_true rfl⟩) ⟨fun a U g mk q => by obtain ⟨q0, qP, qK, qn0⟩ := q; exact ⟨q0, qP, va_K.moved (u := U) (U := U.calling g mk a) (Vm.Alike.refl U.vm) qK, va_Nw.same (u := U) (U := U.calling g mk a) rfl rfl qn0⟩, kx_rc4 hKc hPc (q0 := 0) rfl, fun U hU hW => ⟨rfl, by rw [hU]; exact hPc, va_K.moved hW.alike hKc, va_Nw.warmM hW hN__methodLinkNest_RX0_28_yX4_isHeavy_RX4⟩⟩ rfl rfl hl.1 rfl (lv_room (Nat.le_of_ble_eq_true rfl)) dL_law_1500 (lw_fitJ hj hL (Nat.le_of_ble_eq_true rfl) (Nat.le_of_ble_eq_true rfl))) (fun r_5 w_5 => ?_)
  refine lv_pop hx hb dL_law_1503 rfl ?_
  refine lv_aload_n hx hb dL_law_1504 rfl (lv_at hl 2 rfl) ?_
  refine lv_aload_n hx hb dL_law_1505 rfl (lv_at hl 4 rfl) ?_
  refine lv_iload hx hb dL_law_1506 (lv_at hl 0 rfl) ?_
  refine lv_iconst (v := 1) hx hb dL_law_1508 (by decide) ?_
  refine lv_iadd hx hb dL_law_1509 ?_
  refine lv_topi (fun y_6 ey_6 => ?_)
  have i_6 : y_6.toInt = ix.toInt + 1 := ki_add ey_6 rfl rfl (om_568 hix hj0) (om_569 hix hjI hLI)
  refine va_sld hx hb hX hbl hbA hS (i := y_6) (ki_in (om_570 hix hj0 i_6) (om_571 hix hjI i_6)) dL_law_1510 ?_
  refine lv_topi (fun y_7 ey_7 => ?_)
  have qy_7 : y_2 = y_7 := by rw [ey_2, ey_7, ki_nateq (show y_1.toInt = y_6.toInt from (om_576 i_1 i_6))]
  subst qy_7
  refine lv_aload_n hx hb dL_law_1511 rfl (lv_at hl 4 rfl) ?_
  refine lv_iload hx hb dL_law_1512 (lv_at hl 0 rfl) ?_
  refine lv_iconst (v := 2) hx hb dL_law_1514 (by decide) ?_
  refine lv_iadd hx hb dL_law_1515 ?_
  refine lv_topi (fun y_8 ey_8 => ?_)
  have i_8 : y_8.toInt = ix.toInt + 2 := ki_add ey_8 rfl rfl (om_572 hix hj0) (om_573 hix hjI hLI)
  refine va_sld hx hb hX hbl hbA hS (i := y_8) (ki_in (om_574 hix hj0 i_8) (om_575 hix hjI i_8)) dL_law_1516 ?_
  refine lv_topi (fun y_9 ey_9 => ?_)
  have qy_9 : y_4 = y_9 := by rw [ey_4, ey_9, ki_nateq (show y_3.toInt = y_8.toInt from (om_577 i_3 i_8))]
  subst qy_9
  obtain ⟨hPc, hDc, hFc, hCc⟩ := kx_preM (wc := [kx_5 yh0 yg_row len slots u_thrown yg_many yg_loss yg_less yg_voteValue yg_voteNumber yg_allValue yg_allNumber u_allMany yg_nodeL yg_nodeR u_nodes yg_part u_partMany yg_wasMany yg_wasLoss yg_wasValue yg_wasNumber yg_path u_pathMany yg_heavyValue yg_heavyTimes u_heavyMany yg_fewest yg_which yg_met u_mostMet, kx_a yg_row cyI 160 f]) hP hD hS hA [false, false, false, false, false, false, false, false, false, false, false, false, false, false, false, false, false, false, false, false, false, false, false, false, false, true, true, false, false, false, false, false, false, false, false, false, false, false, false, false, false, false, false, false, false, false, false, false] rfl
  have hKc := hK.sub (tys' := [(cyI, .int)]) [0] rfl
  refine va_calli (va_runV (As := [.int y_2, .int y_4]) (rest := []) ⟨hx, hb, hml, hown, (lwC_X5_majority hts0)⟩ (kx_un (c_X5_majority l dC dI yh0 yg_row yg_many yg_loss yg_less yg_voteValue yg_voteNumber yg_allValue yg_allNumber yg_nodeL yg_nodeR yg_part yg_wasMany yg_wasLoss yg_wasValue yg_wasNumber yg_path yg_heavyValue yg_heavyTimes yg_fewest yg_which yg_met len slots u_thrown u_allMany u_nodes u_partMany u_pathMany u_heavyMany u_mostMet cyI f y_2 y_4 H.size I0 I1)) (cwV 2 (lwC_X5_majority hts0) lwG_X5_majority rfl rfl rfl (by decide +kernel) ⟨Nat.le_of_ble_eq_true rfl, Nat.le_of_ble_eq_true rfl⟩) ⟨fun a U g mk q => by obtain ⟨q0, q1, qP, qK, qD⟩ := q; exact ⟨q0, q1, qP, va_K.moved (u := U) (U := U.calling g mk a) (Vm.Alike.refl U.vm) qK, qD⟩, kx_rc5 hKc hPc (q0 := 0) rfl, fun U hU hW => ⟨rfl, by rw [hU], by rw [hU]; exact hPc, va_K.moved hW.alike hKc, hDc.weaken (fun _ _ _ _ => trivial)⟩⟩ rfl rfl hl.1 rfl (lv_room (Nat.le_of_ble_eq_true rfl)) dL_law_1517 (lw_fitJ hj hL (Nat.le_of_ble_eq_true rfl) (Nat.le_of_ble_eq_true rfl))) hS (fun q _ h => hFc q h) hFc (fun r_10 u t H1 locs ht hvm w_10 hB hz1 hk1 hS => ?_)
  obtain ⟨hP1, hK1, hD1⟩ := hB
  rw [ht] at hP1
  have hK1 := va_K.moved hvm.symm hK1
  obtain ⟨hP, hD⟩ := kx_joinM (w2 := [kx_4 xm_ xq_row xq_t xt_ xh0 xk0 xw_ xz_ slots old, kx_2 xq_t xq_row xq_joined xq_from xq_to xq_size xq_lossOf xq_lessBy xq_value xq_number nodes here, kx_0 xq_row xq_cell len, kx_a xq_cell cyI 160 f, kx_a xq_from cyI 319 ff, kx_a xq_to cyI 319 ft, kx_a xq_size cyI 319 fs, kx_a xq_lossOf cyI 319 fo, kx_a xq_lessBy cyI 319 fe, kx_a xq_value cyI 1914 uv, kx_a xq_number cyI 1914 un, kx_3 xq_joined xj_v xj_n js jl je, kx_a xj_v cyI 12 jv, kx_a xj_n cyI 12 jn, kx_3 xh0 xa_v xa_n vs lo le, kx_a xa_v cyI 12 fv, kx_a xa_n cyI 12 fn, kx_3 xk0 xkv xkn sb lb eb, kx_a xkv cyI 12 gb, kx_a xkn cyI 12 nb, kx_1 xt_ xt_k xt_o tk mo, kx_a xt_k cyI 160 fk, kx_a xt_o cyI 160 fq, kx_a xw_ cyI 160 fw, kx_a xz_ cyI 161 fz, kx_5 yh0 yg_row len slots 0 yg_many yg_loss yg_less yg_voteValue yg_voteNumber yg_allValue yg_allNumber u_allMany yg_nodeL yg_nodeR u_nodes yg_part u_partMany yg_wasMany yg_wasLoss yg_wasValue yg_wasNumber yg_path u_pathMany yg_heavyValue yg_heavyTimes u_heavyMany yg_fewest yg_which yg_met u_mostMet, kx_a yg_row cyI 160 f, kx_a yg_many cyI 324 u_many, kx_a yg_loss cyI 324 u_loss, kx_a yg_less cyI 324 u_less, kx_a yg_voteValue cyI 1944 u_voteValue, kx_a yg_voteNumber cyI 1944 u_voteNumber, kx_a yg_allValue cyI 12 u_allValue, kx_a yg_allNumber cyI 12 u_allNumber, kx_a yg_nodeL cyI 320 u_nodeL, kx_a yg_nodeR cyI 320 u_nodeR, kx_a yg_part cyI 320 u_part, kx_a yg_wasMany cyI 320 u_wasMany, kx_a yg_wasLoss cyI 320 u_wasLoss, kx_a yg_wasValue cyI 1920 u_wasValue, kx_a yg_wasNumber cyI 1920 u_wasNumber, kx_a yg_path cyI 12 u_path, kx_a yg_heavyValue cyI 160 u_heavyValue, kx_a yg_heavyTimes cyI 160 u_heavyTimes, kx_a yg_fewest cyI 161 u_fewest, kx_a yg_which cyI 160 u_which, kx_a yg_met cyI 160 u_met, (q_o, .inl (cyL, 1, .inr (.inl ol)))]) hP hD hP1 hD1 hk1 hFc [false, false, false, false, false, false, false, false, false, false, false, false, false, false, false, false, false, false, false, false, false, false, false, false, false, true, true, false, false, false, false, false, false, false, false, false, false, false, false, false, false, false, false, false, false, false, false, false] hCc rfl
  clear hP1 hD1 hK1 hk1 hz1 hFc hDc hPc hKc hCc
  generalize H1 = H at hP hS ⊢
  refine lv_pop hx hb dL_law_1520 rfl ?_
  refine lv_goto (tgt := 2288) hx hb dL_law_1521 (by decide) ?_
  obtain ⟨x_11, ex_11⟩ : ∃ y : Int32, y = ix + 8 := ⟨_, rfl⟩
  have i_11 : x_11.toInt = ix.toInt + 8 := ki_add ex_11 rfl rfl (om_578 hix hj0) (om_579 hix hjI hLI)
  refine lv_iinc (v := x_11) (lv' := [(4, .int x_11), (3, .ref q_o), (2, .ref yh0), (1, .ref xm_), (0, .ref b)]) hx hb dL_law_2288 hl (k := 0) rfl (by rw [ex_11]; rfl) (by decide) rfl (fun ls hl => ?_)
  refine lv_goto (tgt := 23) hx hb dL_law_2291 (by decide) ?_
  refine W.widen (k := 60 + 2 * (j + 1)) (n := 20000 + 12 * (j + 1)) (lw_wdC (k := 0) (Nat.le_of_ble_eq_true rfl)) (lw_wdS (k := 0) (Nat.le_of_ble_eq_true rfl)) ?_
  have k_12 : (0 : Int32).toInt = 0 := rfl
  exact ih len slots old nodes here js jl je vs lo le sb lb eb tk mo 0 u_allMany u_nodes u_partMany u_pathMany u_heavyMany u_mostMet f ff ft fs fo fe uv un jv jn fv fn gb nb fk fq fw fz u_many u_loss u_less u_voteValue u_voteNumber u_allValue u_allNumber u_nodeL u_nodeR u_part u_wasMany u_wasLoss u_wasValue u_wasNumber u_path u_heavyValue u_heavyTimes u_fewest u_which u_met ol x_11 (om_ix i_11 hix) I0 I1 I2 I3 I4 I5 I6 I7 I8 _ _ ls hP hD hS (lv_sub hl [0, 1, 2, 3, 4] rfl)

set_option maxHeartbeats 4000000 in
set_option maxRecDepth 100000 in
theorem lc_30 {p : Program} {l : Launch} {e : Env} {s : State} {m : MethodId} {below : List Frame} {meth : Method} {c : Code} {dC : Nat → ClassId} {dI : Nat → Nat → Nat} {b : Nat} {xs : Nat → Int32} (hl0 : l.stackTraces = false) {L j : Nat} (hL : L ≤ 4096) (hj : 8 * j + 8 ≤ L) (C0 : lw_At p s m meth c b L xs) (hth : ki_ThA (fun q : Nat => s.heap.size ≤ q) s) {cyI cyL : ClassId} {xm_ xq_t xq_row xq_cell xq_from xq_to xq_size xq_lossOf xq_lessBy xq_value xq_number xq_joined xj_v xj_n xh0 xa_v xa_n xk0 xkv xkn xt_ xt_k xt_o xw_ xz_ yh0 yg_row yg_many yg_loss yg_less yg_voteValue yg_voteNumber yg_allValue yg_allNumber yg_nodeL yg_nodeR yg_part yg_wasMany yg_wasLoss yg_wasValue yg_wasNumber yg_path yg_heavyValue yg_heavyTimes yg_fewest yg_which yg_met q_o : Nat} (hK : va_K (dC, dI) vwCl [(cyI, .int), (cyL, .long)] s) (ih : lw_G p l e s m below meth c b dC dI cyI cyL xm_ xq_t xq_row xq_cell xq_from xq_to xq_size xq_lossOf xq_lessBy xq_value xq_number xq_joined xj_v xj_n xh0 xa_v xa_n xk0 xkv xkn xt_ xt_k xt_o xw_ xz_ yh0 yg_row yg_many yg_loss yg_less yg_voteValue yg_voteNumber yg_allValue yg_allNumber yg_nodeL yg_nodeR yg_part yg_wasMany yg_wasLoss yg_wasValue yg_wasNumber yg_path yg_heavyValue yg_heavyTimes yg_fewest yg_which yg_met q_o (j + 1)) {len slots old nodes here js jl je vs lo le sb lb eb tk mo u_thrown u_allMany u_nodes u_partMany u_pathMany u_heavyMany u_mostMet ix : Int32} {f ff ft fs fo fe uv un jv jn fv fn gb nb fk fq fw fz u_many u_loss u_less u_voteValue u_voteNumber u_allValue u_allNumber u_nodeL u_nodeR u_part u_wasMany u_wasLoss u_wasValue u_wasNumber u_path u_heavyValue u_heavyTimes u_fewest u_which u_met : Nat → Int32} {ol : Nat → Int64} (hix : ix.toInt = 8 * (j : Int)) (I0 : 0 ≤ len.toInt) (I1 : len.toInt ≤ 160) (I2 : 1 ≤ slots.toInt) (I3 : slots.toInt ≤ 6) (I4 : shorts f) (I5 : sixes fs) (I6 : laidX old slots here f ff ft fs fo fe uv un nodes len) (I7 : six4 u_many) (I8 : parts320 u_part) {H : Heap} {locs : List Loc} (hP : va_P (dC, dI) vwCl [kx_4 xm_ xq_row xq_t xt_ xh0 xk0 xw_ xz_ slots old, kx_2 xq_t xq_row xq_joined xq_from xq_to xq_size xq_lossOf xq_lessBy xq_value xq_number nodes here, kx_0 xq_row xq_cell len, kx_a xq_cell cyI 160 f, kx_a xq_from cyI 319 ff, kx_a xq_to cyI 319 ft, kx_a xq_size cyI 319 fs, kx_a xq_lossOf cyI 319 fo, kx_a xq_lessBy cyI 319 fe, kx_a xq_value cyI 1914 uv, kx_a xq_number cyI 1914 un, kx_3 xq_joined xj_v xj_n js jl je, kx_a xj_v cyI 12 jv, kx_a xj_n cyI 12 jn, kx_3 xh0 xa_v xa_n vs lo le, kx_a xa_v cyI 12 fv, kx_a xa_n cyI 12 fn, kx_3 xk0 xkv xkn sb lb eb, kx_a xkv cyI 12 gb, kx_a xkn cyI 12 nb, kx_1 xt_ xt_k xt_o tk mo, kx_a xt_k cyI 160 fk, kx_a xt_o cyI 160 fq, kx_a xw_ cyI 160 fw, kx_a xz_ cyI 161 fz, kx_5 yh0 yg_row len slots u_thrown yg_many yg_loss yg_less yg_voteValue yg_voteNumber yg_allValue yg_allNumber u_allMany yg_nodeL yg_nodeR u_nodes yg_part u_partMany yg_wasMany yg_wasLoss yg_wasValue yg_wasNumber yg_path u_pathMany yg_heavyValue yg_heavyTimes u_heavyMany yg_fewest yg_which yg_met u_mostMet, kx_a yg_row cyI 160 f, kx_a yg_many cyI 324 u_many, kx_a yg_loss cyI 324 u_loss, kx_a yg_less cyI 324 u_less, kx_a yg_voteValue cyI 1944 u_voteValue, kx_a yg_voteNumber cyI 1944 u_voteNumber, kx_a yg_allValue cyI 12 u_allValue, kx_a yg_allNumber cyI 12 u_allNumber, kx_a yg_nodeL cyI 320 u_nodeL, kx_a yg_nodeR cyI 320 u_nodeR, kx_a yg_part cyI 320 u_part, kx_a yg_wasMany cyI 320 u_wasMany, kx_a yg_wasLoss cyI 320 u_wasLoss, kx_a yg_wasValue cyI 1920 u_wasValue, kx_a yg_wasNumber cyI 1920 u_wasNumber, kx_a yg_path cyI 12 u_path, kx_a yg_heavyValue cyI 160 u_heavyValue, kx_a yg_heavyTimes cyI 160 u_heavyTimes, kx_a yg_fewest cyI 161 u_fewest, kx_a yg_which cyI 160 u_which, kx_a yg_met cyI 160 u_met, (q_o, .inl (cyL, 1, .inr (.inl ol)))] H) (hD : va_D (fun q : Nat => s.heap.size ≤ q) [kx_4 xm_ xq_row xq_t xt_ xh0 xk0 xw_ xz_ slots old, kx_2 xq_t xq_row xq_joined xq_from xq_to xq_size xq_lossOf xq_lessBy xq_value xq_number nodes here, kx_0 xq_row xq_cell len, kx_a xq_cell cyI 160 f, kx_a xq_from cyI 319 ff, kx_a xq_to cyI 319 ft, kx_a xq_size cyI 319 fs, kx_a xq_lossOf cyI 319 fo, kx_a xq_lessBy cyI 319 fe, kx_a xq_value cyI 1914 uv, kx_a xq_number cyI 1914 un, kx_3 xq_joined xj_v xj_n js jl je, kx_a xj_v cyI 12 jv, kx_a xj_n cyI 12 jn, kx_3 xh0 xa_v xa_n vs lo le, kx_a xa_v cyI 12 fv, kx_a xa_n cyI 12 fn, kx_3 xk0 xkv xkn sb lb eb, kx_a xkv cyI 12 gb, kx_a xkn cyI 12 nb, kx_1 xt_ xt_k xt_o tk mo, kx_a xt_k cyI 160 fk, kx_a xt_o cyI 160 fq, kx_a xw_ cyI 160 fw, kx_a xz_ cyI 161 fz, kx_5 yh0 yg_row len slots u_thrown yg_many yg_loss yg_less yg_voteValue yg_voteNumber yg_allValue yg_allNumber u_allMany yg_nodeL yg_nodeR u_nodes yg_part u_partMany yg_wasMany yg_wasLoss yg_wasValue yg_wasNumber yg_path u_pathMany yg_heavyValue yg_heavyTimes u_heavyMany yg_fewest yg_which yg_met u_mostMet, kx_a yg_row cyI 160 f, kx_a yg_many cyI 324 u_many, kx_a yg_loss cyI 324 u_loss, kx_a yg_less cyI 324 u_less, kx_a yg_voteValue cyI 1944 u_voteValue, kx_a yg_voteNumber cyI 1944 u_voteNumber, kx_a yg_allValue cyI 12 u_allValue, kx_a yg_allNumber cyI 12 u_allNumber, kx_a yg_nodeL cyI 320 u_nodeL, kx_a yg_nodeR cyI 320 u_nodeR, kx_a yg_part cyI 320 u_part, kx_a yg_wasMany cyI 320 u_wasMany, kx_a yg_wasLoss cyI 320 u_wasLoss, kx_a yg_wasValue cyI 1920 u_wasValue, kx_a yg_wasNumber cyI 1920 u_wasNumber, kx_a yg_path cyI 12 u_path, kx_a yg_heavyValue cyI 160 u_heavyValue, kx_a yg_heavyTimes cyI 160 u_heavyTimes, kx_a yg_fewest cyI 161 u_fewest, kx_a yg_which cyI 160 u_which, kx_a yg_met cyI 160 u_met, (q_o, .inl (cyL, 1, .inr (.inl ol)))]) (hS : va_S (fun q : Nat => s.heap.size ≤ q) s.heap H locs) {ls : Array Slot} (hl : lv_has ls 7 [(4, .int ix), (3, .ref q_o), (2, .ref yh0), (1, .ref xm_), (0, .ref b)]) : W p l e room_1 s m #[Value.ref b] below meth c H locs (60 + 2 * j) (20000 + 12 * j) (lw_Z below #[Value.ref b] s) (F0 m 1524 ls []) := by
  obtain ⟨hx, hb, hr, hml, hown, hts0, hX, hbl, hlocks, hgv⟩ := id C0
  have hts := hts0
  have hA : ∀ q : Nat, s.heap.size ≤ q → (fun q : Nat => s.heap.size ≤ q) q := fun _ h => h
  have hbA : ¬ (fun q : Nat => s.heap.size ≤ q) b := Nat.not_le.mpr hbl
  have hown : s.vm.findClass RL = some m.cls := hown
  have hb : c.code = cL_law := hb
  have hj0 : 0 ≤ (j : Int) := Int.natCast_nonneg j
  have hjI : 8 * (j : Int) + 8 ≤ (L : Int) := lw_jI hj
  have hLI : (L : Int) ≤ 4096 := lw_LI hL
  refine lv_aload_n hx hb dL_law_1524 rfl (lv_at hl 3 rfl) ?_
  refine lv_aload_n hx hb dL_law_1525 rfl (lv_at hl 4 rfl) ?_
  refine lv_iload hx hb dL_law_1526 (lv_at hl 0 rfl) ?_
  refine lv_iconst (v := 1) hx hb dL_law_1528 (by decide) ?_
  refine lv_iadd hx hb dL_law_1529 ?_
  refine lv_topi (fun y_1 ey_1 => ?_)
  have i_1 : y_1.toInt = ix.toInt + 1 := ki_add ey_1 rfl rfl (om_568 hix hj0) (om_569 hix hjI hLI)
  refine va_sld hx hb hX hbl hbA hS (i := y_1) (ki_in (om_570 hix hj0 i_1) (om_571 hix hjI i_1)) dL_law_1530 ?_
  refine lv_topi (fun y_2 ey_2 => ?_)
  refine lv_aload_n hx hb dL_law_1531 rfl (lv_at hl 4 rfl) ?_
  refine lv_iload hx hb dL_law_1532 (lv_at hl 0 rfl) ?_
  refine lv_iconst (v := 2) hx hb dL_law_1534 (by decide) ?_
  refine lv_iadd hx hb dL_law_1535 ?_
  refine lv_topi (fun y_3 ey_3 => ?_)
  have i_3 : y_3.toInt = ix.toInt + 2 := ki_add ey_3 rfl rfl (om_572 hix hj0) (om_573 hix hjI hLI)
  refine va_sld hx hb hX hbl hbA hS (i := y_3) (ki_in (om_574 hix hj0 i_3) (om_575 hix hjI i_3)) dL_law_1536 ?_
  refine lv_topi (fun y_4 ey_4 => ?_)
  refine lv_aload_n hx hb dL_law_1537 rfl (lv_at hl 4 rfl) ?_
  refine lv_iload hx hb dL_law_1538 (lv_at hl 0 rfl) ?_
  refine lv_iconst (v := 3) hx hb dL_law_1540 (by decide) ?_
  refine lv_iadd hx hb dL_law_1541 ?_
  refine lv_topi (fun y_5 ey_5 => ?_)
  have i_5 : y_5.toInt = ix.toInt + 3 := ki_add ey_5 rfl rfl (om_580 hix hj0) (om_581 hix hjI hLI)
  refine va_sld hx hb hX hbl hbA hS (i := y_5) (ki_in (om_582 hix hj0 i_5) (om_583 hix hjI i_5)) dL_law_1542 ?_
  refine lv_topi (fun y_6 ey_6 => ?_)
  have hPc := hP.sub (ws' := [kx_4 xm_ xq_row xq_t xt_ xh0 xk0 xw_ xz_ slots old, kx_0 xq_row xq_cell len, kx_a xq_cell cyI 160 f]) [0, 2, 3] rfl
  have hKc := hK.sub (tys' := [(cyI, .int)]) [0] rfl
  refine vp_callSi (W.runV (As := [.int y_2, .int y_4, .int y_6]) (rest := []) ⟨hx, hb, hml, hown, (lwC_X4_margin hts0)⟩ (c_X4_margin l dC dI xm_ xq_row xq_t xt_ xh0 xk0 xw_ xz_ slots old xq_cell cyI len f y_2 y_4 y_6 I0 I1) (cwV 3 (lwC_X4_margin hts0) lwG_X4_margin rfl rfl rfl (by decide +kernel) ⟨Nat.le_of_ble_eq_true rfl, Nat.le_of_ble_eq_true rfl⟩) ⟨fun a U g mk q => by obtain ⟨q0, qP, qK⟩ := q; exact ⟨q0, qP, va_K.moved (u := U) (U := U.calling g mk a) (Vm.Alike.refl U.vm) qK⟩, kx_rc4 hKc hPc (q0 := 0) rfl, fun U hU hW => ⟨rfl, by rw [hU]; exact hPc, va_K.moved hW.alike hKc⟩⟩ rfl rfl hl.1 rfl (lv_room (Nat.le_of_ble_eq_true rfl)) dL_law_1543 (lw_fitJ hj hL (Nat.le_of_ble_eq_true rfl) (Nat.le_of_ble_eq_true rfl))) (fun r_7 w_7 => ?_)
  refine lv_pop hx hb dL_law_1546 rfl ?_
  refine lv_aload_n hx hb dL_law_1547 rfl (lv_at hl 2 rfl) ?_
  refine lv_aload_n hx hb dL_law_1548 rfl (lv_at hl 4 rfl) ?_
  refine lv_iload hx hb dL_law_1549 (lv_at hl 0 rfl) ?_
  refine lv_iconst (v := 1) hx hb dL_law_1551 (by decide) ?_
  refine lv_iadd hx hb dL_law_1552 ?_
  refine lv_topi (fun y_8 ey_8 => ?_)
  have i_8 : y_8.toInt = ix.toInt + 1 := ki_add ey_8 rfl rfl (om_568 hix hj0) (om_569 hix hjI hLI)
  refine va_sld hx hb hX hbl hbA hS (i := y_8) (ki_in (om_570 hix hj0 i_8) (om_571 hix hjI i_8)) dL_law_1553 ?_
  refine lv_topi (fun y_9 ey_9 => ?_)
  have qy_9 : y_2 = y_9 := by rw [ey_2, ey_9, ki_nateq (show y_1.toInt = y_8.toInt from (om_576 i_1 i_8))]
  subst qy_9
  refine lv_aload_n hx hb dL_law_1554 rfl (lv_at hl 4 rfl) ?_
  refine lv_iload hx hb dL_law_1555 (lv_at hl 0 rfl) ?_
  refine lv_iconst (v := 2) hx hb dL_law_1557 (by decide) ?_
  refine lv_iadd hx hb dL_law_1558 ?_
  refine lv_topi (fun y_10 ey_10 => ?_)
  have i_10 : y_10.toInt = ix.toInt + 2 := ki_add ey_10 rfl rfl (om_572 hix hj0) (om_573 hix hjI hLI)
  refine va_sld hx hb hX hbl hbA hS (i := y_10) (ki_in (om_574 hix hj0 i_10) (om_575 hix hjI i_10)) dL_law_1559 ?_
  refine lv_topi (fun y_11 ey_11 => ?_)
  have qy_11 : y_4 = y_11 := by rw [ey_4, ey_11, ki_nateq (show y_3.toInt = y_10.toInt from (om_577 i_3 i_10))]
  subst qy_11
  refine lv_aload_n hx hb dL_law_1560 rfl (lv_at hl 4 rfl) ?_
  refine lv_iload hx hb dL_law_1561 (lv_at hl 0 rfl) ?_
  refine lv_iconst (v := 3) hx hb dL_law_1563 (by decide) ?_
  refine lv_iadd hx hb dL_law_1564 ?_
  refine lv_topi (fun y_12 ey_12 => ?_)
  have i_12 : y_12.toInt = ix.toInt + 3 := ki_add ey_12 rfl rfl (om_580 hix hj0) (om_581 hix hjI hLI)
  refine va_sld hx hb hX hbl hbA hS (i := y_12) (ki_in (om_582 hix hj0 i_12) (om_583 hix hjI i_12)) dL_law_1565 ?_
  refine lv_topi (fun y_13 ey_13 => ?_)
  have qy_13 : y_6 = y_13 := by rw [ey_6, ey_13, ki_nateq (show y_5.toInt = y_12.toInt from (om_584 i_5 i_12))]
  subst qy_13
  obtain ⟨hPc, hDc, hFc, hCc⟩ := kx_preM (wc := [kx_5 yh0 yg_row len slots u_thrown yg_many yg_loss yg_less yg_voteValue yg_voteNumber yg_allValue yg_allNumber u_allMany yg_nodeL yg_nodeR u_nodes yg_part u_partMany yg_wasMany yg_wasLoss yg_wasValue yg_wasNumber yg_path u_pathMany yg_heavyValue yg_heavyTimes u_heavyMany yg_fewest yg_which yg_met u_mostMet, kx_a yg_row cyI 160 f]) hP hD hS hA [false, false, false, false, false, false, false, false, false, false, false, false, false, false, false, false, false, false, false, false, false, false, false, false, false, true, true, false, false, false, false, false, false, false, false, false, false, false, false, false, false, false, false, false, false, false, false, false] rfl
  have hKc := hK.sub (tys' := [(cyI, .int)]) [0] rfl
  refine va_calli (va_runV (As := [.int y_2, .int y_4, .int y_6]) (rest := []) ⟨hx, hb, hml, hown, (lwC_X5_margin hts0)⟩ (kx_un (c_X5_margin l dC dI yh0 yg_row yg_many yg_loss yg_less yg_voteValue yg_voteNumber yg_allValue yg_allNumber yg_nodeL yg_nodeR yg_part yg_wasMany yg_wasLoss yg_wasValue yg_wasNumber yg_path yg_heavyValue yg_heavyTimes yg_fewest yg_which yg_met len slots u_thrown u_allMany u_nodes u_partMany u_pathMany u_heavyMany u_mostMet cyI f y_2 y_4 y_6 H.size I0 I1)) (cwV 3 (lwC_X5_margin hts0) lwG_X5_margin rfl rfl rfl (by decide +kernel) ⟨Nat.le_of_ble_eq_true rfl, Nat.le_of_ble_eq_true rfl⟩) ⟨fun a U g mk q => by obtain ⟨q0, q1, qP, qK, qD⟩ := q; exact ⟨q0, q1, qP, va_K.moved (u := U) (U := U.calling g mk a) (Vm.Alike.refl U.vm) qK, qD⟩, kx_rc5 hKc hPc (q0 := 0) rfl, fun U hU hW => ⟨rfl, by rw [hU], by rw [hU]; exact hPc, va_K.moved hW.alike hKc, hDc.weaken (fun _ _ _ _ => trivial)⟩⟩ rfl rfl hl.1 rfl (lv_room (Nat.le_of_ble_eq_true rfl)) dL_law_1566 (lw_fitJ hj hL (Nat.le_of_ble_eq_true rfl) (Nat.le_of_ble_eq_true rfl))) hS (fun q _ h => hFc q h) hFc (fun r_14 u t H1 locs ht hvm w_14 hB hz1 hk1 hS => ?_)
  obtain ⟨hP1, hK1, hD1⟩ := hB
  rw [ht] at hP1
  have hK1 := va_K.moved hvm.symm hK1
  obtain ⟨hP, hD⟩ := kx_joinM (w2 := [kx_4 xm_ xq_row xq_t xt_ xh0 xk0 xw_ xz_ slots old, kx_2 xq_t xq_row xq_joined xq_from xq_to xq_size xq_lossOf xq_lessBy xq_value xq_number nodes here, kx_0 xq_row xq_cell len, kx_a xq_cell cyI 160 f, kx_a xq_from cyI 319 ff, kx_a xq_to cyI 319 ft, kx_a xq_size cyI 319 fs, kx_a xq_lossOf cyI 319 fo, kx_a xq_lessBy cyI 319 fe, kx_a xq_value cyI 1914 uv, kx_a xq_number cyI 1914 un, kx_3 xq_joined xj_v xj_n js jl je, kx_a xj_v cyI 12 jv, kx_a xj_n cyI 12 jn, kx_3 xh0 xa_v xa_n vs lo le, kx_a xa_v cyI 12 fv, kx_a xa_n cyI 12 fn, kx_3 xk0 xkv xkn sb lb eb, kx_a xkv cyI 12 gb, kx_a xkn cyI 12 nb, kx_1 xt_ xt_k xt_o tk mo, kx_a xt_k cyI 160 fk, kx_a xt_o cyI 160 fq, kx_a xw_ cyI 160 fw, kx_a xz_ cyI 161 fz, kx_5 yh0 yg_row len slots 0 yg_many yg_loss yg_less yg_voteValue yg_voteNumber yg_allValue yg_allNumber u_allMany yg_nodeL yg_nodeR u_nodes yg_part u_partMany yg_wasMany yg_wasLoss yg_wasValue yg_wasNumber yg_path u_pathMany yg_heavyValue yg_heavyTimes u_heavyMany yg_fewest yg_which yg_met u_mostMet, kx_a yg_row cyI 160 f, kx_a yg_many cyI 324 u_many, kx_a yg_loss cyI 324 u_loss, kx_a yg_less cyI 324 u_less, kx_a yg_voteValue cyI 1944 u_voteValue, kx_a yg_voteNumber cyI 1944 u_voteNumber, kx_a yg_allValue cyI 12 u_allValue, kx_a yg_allNumber cyI 12 u_allNumber, kx_a yg_nodeL cyI 320 u_nodeL, kx_a yg_nodeR cyI 320 u_nodeR, kx_a yg_part cyI 320 u_part, kx_a yg_wasMany cyI 320 u_wasMany, kx_a yg_wasLoss cyI 320 u_wasLoss, kx_a yg_wasValue cyI 1920 u_wasValue, kx_a yg_wasNumber cyI 1920 u_wasNumber, kx_a yg_path cyI 12 u_path, kx_a yg_heavyValue cyI 160 u_heavyValue, kx_a yg_heavyTimes cyI 160 u_heavyTimes, kx_a yg_fewest cyI 161 u_fewest, kx_a yg_which cyI 160 u_which, kx_a yg_met cyI 160 u_met, (q_o, .inl (cyL, 1, .inr (.inl ol)))]) hP hD hP1 hD1 hk1 hFc [false, false, false, false, false, false, false, false, false, false, false, false, false, false, false, false, false, false, false, false, false, false, false, false, false, true, true, false, false, false, false, false, false, false, false, false, false, false, false, false, false, false, false, false, false, false, false, false] hCc rfl
  clear hP1 hD1 hK1 hk1 hz1 hFc hDc hPc hKc hCc
  generalize H1 = H at hP hS ⊢
  refine lv_pop hx hb dL_law_1569 rfl ?_
  refine lv_goto (tgt := 2288) hx hb dL_law_1570 (by decide) ?_
  obtain ⟨x_15, ex_15⟩ : ∃ y : Int32, y = ix + 8 := ⟨_, rfl⟩
  have i_15 : x_15.toInt = ix.toInt + 8 := ki_add ex_15 rfl rfl (om_578 hix hj0) (om_579 hix hjI hLI)
  refine lv_iinc (v := x_15) (lv' := [(4, .int x_15), (3, .ref q_o), (2, .ref yh0), (1, .ref xm_), (0, .ref b)]) hx hb dL_law_2288 hl (k := 0) rfl (by rw [ex_15]; rfl) (by decide) rfl (fun ls hl => ?_)
  refine lv_goto (tgt := 23) hx hb dL_law_2291 (by decide) ?_
  refine W.widen (k := 60 + 2 * (j + 1)) (n := 20000 + 12 * (j + 1)) (lw_wdC (k := 0) (Nat.le_of_ble_eq_true rfl)) (lw_wdS (k := 0) (Nat.le_of_ble_eq_true rfl)) ?_
  have k_16 : (0 : Int32).toInt = 0 := rfl
  exact ih len slots old nodes here js jl je vs lo le sb lb eb tk mo 0 u_allMany u_nodes u_partMany u_pathMany u_heavyMany u_mostMet f ff ft fs fo fe uv un jv jn fv fn gb nb fk fq fw fz u_many u_loss u_less u_voteValue u_voteNumber u_allValue u_allNumber u_nodeL u_nodeR u_part u_wasMany u_wasLoss u_wasValue u_wasNumber u_path u_heavyValue u_heavyTimes u_fewest u_which u_met ol x_15 (om_ix i_15 hix) I0 I1 I2 I3 I4 I5 I6 I7 I8 _ _ ls hP hD hS (lv_sub hl [0, 1, 2, 3, 4] rfl)

set_option maxHeartbeats 4000000 in
set_option maxRecDepth 100000 in
theorem lc_31 {p : Program} {l : Launch} {e : Env} {s : State} {m : MethodId} {below : List Frame} {meth : Method} {c : Code} {dC : Nat → ClassId} {dI : Nat → Nat → Nat} {b : Nat} {xs : Nat → Int32} (hl0 : l.stackTraces = false) {L j : Nat} (hL : L ≤ 4096) (hj : 8 * j + 8 ≤ L) (C0 : lw_At p s m meth c b L xs) (hth : ki_ThA (fun q : Nat => s.heap.size ≤ q) s) {cyI cyL : ClassId} {xm_ xq_t xq_row xq_cell xq_from xq_to xq_size xq_lossOf xq_lessBy xq_value xq_number xq_joined xj_v xj_n xh0 xa_v xa_n xk0 xkv xkn xt_ xt_k xt_o xw_ xz_ yh0 yg_row yg_many yg_loss yg_less yg_voteValue yg_voteNumber yg_allValue yg_allNumber yg_nodeL yg_nodeR yg_part yg_wasMany yg_wasLoss yg_wasValue yg_wasNumber yg_path yg_heavyValue yg_heavyTimes yg_fewest yg_which yg_met q_o : Nat} (hK : va_K (dC, dI) vwCl [(cyI, .int), (cyL, .long)] s) (ih : lw_G p l e s m below meth c b dC dI cyI cyL xm_ xq_t xq_row xq_cell xq_from xq_to xq_size xq_lossOf xq_lessBy xq_value xq_number xq_joined xj_v xj_n xh0 xa_v xa_n xk0 xkv xkn xt_ xt_k xt_o xw_ xz_ yh0 yg_row yg_many yg_loss yg_less yg_voteValue yg_voteNumber yg_allValue yg_allNumber yg_nodeL yg_nodeR yg_part yg_wasMany yg_wasLoss yg_wasValue yg_wasNumber yg_path yg_heavyValue yg_heavyTimes yg_fewest yg_which yg_met q_o (j + 1)) {len slots old nodes here js jl je vs lo le sb lb eb tk mo u_thrown u_allMany u_nodes u_partMany u_pathMany u_heavyMany u_mostMet ix : Int32} {f ff ft fs fo fe uv un jv jn fv fn gb nb fk fq fw fz u_many u_loss u_less u_voteValue u_voteNumber u_allValue u_allNumber u_nodeL u_nodeR u_part u_wasMany u_wasLoss u_wasValue u_wasNumber u_path u_heavyValue u_heavyTimes u_fewest u_which u_met : Nat → Int32} {ol : Nat → Int64} (hix : ix.toInt = 8 * (j : Int)) (I0 : 0 ≤ len.toInt) (I1 : len.toInt ≤ 160) (I2 : 1 ≤ slots.toInt) (I3 : slots.toInt ≤ 6) (I4 : shorts f) (I5 : sixes fs) (I6 : laidX old slots here f ff ft fs fo fe uv un nodes len) (I7 : six4 u_many) (I8 : parts320 u_part) {H : Heap} {locs : List Loc} (hP : va_P (dC, dI) vwCl [kx_4 xm_ xq_row xq_t xt_ xh0 xk0 xw_ xz_ slots old, kx_2 xq_t xq_row xq_joined xq_from xq_to xq_size xq_lossOf xq_lessBy xq_value xq_number nodes here, kx_0 xq_row xq_cell len, kx_a xq_cell cyI 160 f, kx_a xq_from cyI 319 ff, kx_a xq_to cyI 319 ft, kx_a xq_size cyI 319 fs, kx_a xq_lossOf cyI 319 fo, kx_a xq_lessBy cyI 319 fe, kx_a xq_value cyI 1914 uv, kx_a xq_number cyI 1914 un, kx_3 xq_joined xj_v xj_n js jl je, kx_a xj_v cyI 12 jv, kx_a xj_n cyI 12 jn, kx_3 xh0 xa_v xa_n vs lo le, kx_a xa_v cyI 12 fv, kx_a xa_n cyI 12 fn, kx_3 xk0 xkv xkn sb lb eb, kx_a xkv cyI 12 gb, kx_a xkn cyI 12 nb, kx_1 xt_ xt_k xt_o tk mo, kx_a xt_k cyI 160 fk, kx_a xt_o cyI 160 fq, kx_a xw_ cyI 160 fw, kx_a xz_ cyI 161 fz, kx_5 yh0 yg_row len slots u_thrown yg_many yg_loss yg_less yg_voteValue yg_voteNumber yg_allValue yg_allNumber u_allMany yg_nodeL yg_nodeR u_nodes yg_part u_partMany yg_wasMany yg_wasLoss yg_wasValue yg_wasNumber yg_path u_pathMany yg_heavyValue yg_heavyTimes u_heavyMany yg_fewest yg_which yg_met u_mostMet, kx_a yg_row cyI 160 f, kx_a yg_many cyI 324 u_many, kx_a yg_loss cyI 324 u_loss, kx_a yg_less cyI 324 u_less, kx_a yg_voteValue cyI 1944 u_voteValue, kx_a yg_voteNumber cyI 1944 u_voteNumber, kx_a yg_allValue cyI 12 u_allValue, kx_a yg_allNumber cyI 12 u_allNumber, kx_a yg_nodeL cyI 320 u_nodeL, kx_a yg_nodeR cyI 320 u_nodeR, kx_a yg_part cyI 320 u_part, kx_a yg_wasMany cyI 320 u_wasMany, kx_a yg_wasLoss cyI 320 u_wasLoss, kx_a yg_wasValue cyI 1920 u_wasValue, kx_a yg_wasNumber cyI 1920 u_wasNumber, kx_a yg_path cyI 12 u_path, kx_a yg_heavyValue cyI 160 u_heavyValue, kx_a yg_heavyTimes cyI 160 u_heavyTimes, kx_a yg_fewest cyI 161 u_fewest, kx_a yg_which cyI 160 u_which, kx_a yg_met cyI 160 u_met, (q_o, .inl (cyL, 1, .inr (.inl ol)))] H) (hD : va_D (fun q : Nat => s.heap.size ≤ q) [kx_4 xm_ xq_row xq_t xt_ xh0 xk0 xw_ xz_ slots old, kx_2 xq_t xq_row xq_joined xq_from xq_to xq_size xq_lossOf xq_lessBy xq_value xq_number nodes here, kx_0 xq_row xq_cell len, kx_a xq_cell cyI 160 f, kx_a xq_from cyI 319 ff, kx_a xq_to cyI 319 ft, kx_a xq_size cyI 319 fs, kx_a xq_lossOf cyI 319 fo, kx_a xq_lessBy cyI 319 fe, kx_a xq_value cyI 1914 uv, kx_a xq_number cyI 1914 un, kx_3 xq_joined xj_v xj_n js jl je, kx_a xj_v cyI 12 jv, kx_a xj_n cyI 12 jn, kx_3 xh0 xa_v xa_n vs lo le, kx_a xa_v cyI 12 fv, kx_a xa_n cyI 12 fn, kx_3 xk0 xkv xkn sb lb eb, kx_a xkv cyI 12 gb, kx_a xkn cyI 12 nb, kx_1 xt_ xt_k xt_o tk mo, kx_a xt_k cyI 160 fk, kx_a xt_o cyI 160 fq, kx_a xw_ cyI 160 fw, kx_a xz_ cyI 161 fz, kx_5 yh0 yg_row len slots u_thrown yg_many yg_loss yg_less yg_voteValue yg_voteNumber yg_allValue yg_allNumber u_allMany yg_nodeL yg_nodeR u_nodes yg_part u_partMany yg_wasMany yg_wasLoss yg_wasValue yg_wasNumber yg_path u_pathMany yg_heavyValue yg_heavyTimes u_heavyMany yg_fewest yg_which yg_met u_mostMet, kx_a yg_row cyI 160 f, kx_a yg_many cyI 324 u_many, kx_a yg_loss cyI 324 u_loss, kx_a yg_less cyI 324 u_less, kx_a yg_voteValue cyI 1944 u_voteValue, kx_a yg_voteNumber cyI 1944 u_voteNumber, kx_a yg_allValue cyI 12 u_allValue, kx_a yg_allNumber cyI 12 u_allNumber, kx_a yg_nodeL cyI 320 u_nodeL, kx_a yg_nodeR cyI 320 u_nodeR, kx_a yg_part cyI 320 u_part, kx_a yg_wasMany cyI 320 u_wasMany, kx_a yg_wasLoss cyI 320 u_wasLoss, kx_a yg_wasValue cyI 1920 u_wasValue, kx_a yg_wasNumber cyI 1920 u_wasNumber, kx_a yg_path cyI 12 u_path, kx_a yg_heavyValue cyI 160 u_heavyValue, kx_a yg_heavyTimes cyI 160 u_heavyTimes, kx_a yg_fewest cyI 161 u_fewest, kx_a yg_which cyI 160 u_which, kx_a yg_met cyI 160 u_met, (q_o, .inl (cyL, 1, .inr (.inl ol)))]) (hS : va_S (fun q : Nat => s.heap.size ≤ q) s.heap H locs) {ls : Array Slot} (hl : lv_has ls 7 [(4, .int ix), (3, .ref q_o), (2, .ref yh0), (1, .ref xm_), (0, .ref b)]) : W p l e room_1 s m #[Value.ref b] below meth c H locs (60 + 2 * j) (20000 + 12 * j) (lw_Z below #[Value.ref b] s) (F0 m 1573 ls []) := by
  obtain ⟨hx, hb, hr, hml, hown, hts0, hX, hbl, hlocks, hgv⟩ := id C0
  have hts := hts0
  have hA : ∀ q : Nat, s.heap.size ≤ q → (fun q : Nat => s.heap.size ≤ q) q := fun _ h => h
  have hbA : ¬ (fun q : Nat => s.heap.size ≤ q) b := Nat.not_le.mpr hbl
  have hown : s.vm.findClass RL = some m.cls := hown
  have hb : c.code = cL_law := hb
  have hj0 : 0 ≤ (j : Int) := Int.natCast_nonneg j
  have hjI : 8 * (j : Int) + 8 ≤ (L : Int) := lw_jI hj
  have hLI : (L : Int) ≤ 4096 := lw_LI hL
  have hN__methodLinkNest_RX3_42_yX4_isHeavy_RX4 : va_Nw (.methodLinkNest RX3 42 yX4_isHeavy RX4) s := va_Nw.of rfl (hts0 (.methodLinkNest RX3 42 yX4_isHeavy RX4) lwW_486)
  refine lv_aload_n hx hb dL_law_1573 rfl (lv_at hl 3 rfl) ?_
  refine lv_aload_n hx hb dL_law_1574 rfl (lv_at hl 4 rfl) ?_
  refine lv_iload hx hb dL_law_1575 (lv_at hl 0 rfl) ?_
  refine lv_iconst (v := 1) hx hb dL_law_1577 (by decide) ?_
  refine lv_iadd hx hb dL_law_1578 ?_
  refine lv_topi (fun y_1 ey_1 => ?_)
  have i_1 : y_1.toInt = ix.toInt + 1 := ki_add ey_1 rfl rfl (om_568 hix hj0) (om_569 hix hjI hLI)
  refine va_sld hx hb hX hbl hbA hS (i := y_1) (ki_in (om_570 hix hj0 i_1) (om_571 hix hjI i_1)) dL_law_1579 ?_
  refine lv_topi (fun y_2 ey_2 => ?_)
  refine lv_aload_n hx hb dL_law_1580 rfl (lv_at hl 4 rfl) ?_
  refine lv_iload hx hb dL_law_1581 (lv_at hl 0 rfl) ?_
  refine lv_iconst (v := 2) hx hb dL_law_1583 (by decide) ?_
  refine lv_iadd hx hb dL_law_1584 ?_
  refine lv_topi (fun y_3 ey_3 => ?_)
  have i_3 : y_3.toInt = ix.toInt + 2 := ki_add ey_3 rfl rfl (om_572 hix hj0) (om_573 hix hjI hLI)
  refine va_sld hx hb hX hbl hbA hS (i := y_3) (ki_in (om_574 hix hj0 i_3) (om_575 hix hjI i_3)) dL_law_1585 ?_
  refine lv_topi (fun y_4 ey_4 => ?_)
  refine lv_aload_n hx hb dL_law_1586 rfl (lv_at hl 4 rfl) ?_
  refine lv_iload hx hb dL_law_1587 (lv_at hl 0 rfl) ?_
  refine lv_iconst (v := 3) hx hb dL_law_1589 (by decide) ?_
  refine lv_iadd hx hb dL_law_1590 ?_
  refine lv_topi (fun y_5 ey_5 => ?_)
  have i_5 : y_5.toInt = ix.toInt + 3 := ki_add ey_5 rfl rfl (om_580 hix hj0) (om_581 hix hjI hLI)
  refine va_sld hx hb hX hbl hbA hS (i := y_5) (ki_in (om_582 hix hj0 i_5) (om_583 hix hjI i_5)) dL_law_1591 ?_
  refine lv_topi (fun y_6 ey_6 => ?_)
  refine lv_aload_n hx hb dL_law_1592 rfl (lv_at hl 4 rfl) ?_
  refine lv_iload hx hb dL_law_1593 (lv_at hl 0 rfl) ?_
  refine lv_iconst (v := 4) hx hb dL_law_1595 (by decide) ?_
  refine lv_iadd hx hb dL_law_1596 ?_
  refine lv_topi (fun y_7 ey_7 => ?_)
  have i_7 : y_7.toInt = ix.toInt + 4 := ki_add ey_7 rfl rfl (om_585 hix hj0) (om_586 hix hjI hLI)
  refine va_sld hx hb hX hbl hbA hS (i := y_7) (ki_in (om_587 hix hj0 i_7) (om_588 hix hjI i_7)) dL_law_1597 ?_
  refine lv_topi (fun y_8 ey_8 => ?_)
  refine lv_aload_n hx hb dL_law_1598 rfl (lv_at hl 4 rfl) ?_
  refine lv_iload hx hb dL_law_1599 (lv_at hl 0 rfl) ?_
  refine lv_iconst (v := 5) hx hb dL_law_1601 (by decide) ?_
  refine lv_iadd hx hb dL_law_1602 ?_
  refine lv_topi (fun y_9 ey_9 => ?_)
  have i_9 : y_9.toInt = ix.toInt + 5 := ki_add ey_9 rfl rfl (om_590 hix hj0) (om_591 hix hjI hLI)
  refine va_sld hx hb hX hbl hbA hS (i := y_9) (ki_in (om_592 hix hj0 i_9) (om_593 hix hjI i_9)) dL_law_1603 ?_
  refine lv_topi (fun y_10 ey_10 => ?_)
  refine lv_aload_n hx hb dL_law_1604 rfl (lv_at hl 4 rfl) ?_
  refine lv_iload hx hb dL_law_1605 (lv_at hl 0 rfl) ?_
  refine lv_bipush (v := 6) hx hb dL_law_1607 (by decide) ?_
  refine lv_iadd hx hb dL_law_1609 ?_
  refine lv_topi (fun y_11 ey_11 => ?_)
  have i_11 : y_11.toInt = ix.toInt + 6 := ki_add ey_11 rfl rfl (om_594 hix hj0) (om_595 hix hjI hLI)
  refine va_sld hx hb hX hbl hbA hS (i := y_11) (ki_in (om_596 hix hj0 i_11) (om_597 hix hjI i_11)) dL_law_1610 ?_
  refine lv_topi (fun y_12 ey_12 => ?_)
  obtain ⟨hPc, hDc, hFc, hCc⟩ := kx_preM (wc := [kx_4 xm_ xq_row xq_t xt_ xh0 xk0 xw_ xz_ slots old, kx_2 xq_t xq_row xq_joined xq_from xq_to xq_size xq_lossOf xq_lessBy xq_value xq_number nodes here, kx_0 xq_row xq_cell len, kx_a xq_cell cyI 160 f, kx_a xq_from cyI 319 ff, kx_a xq_to cyI 319 ft, kx_a xq_size cyI 319 fs, kx_a xq_lossOf cyI 319 fo, kx_a xq_lessBy cyI 319 fe, kx_a xq_value cyI 1914 uv, kx_a xq_number cyI 1914 un, kx_3 xq_joined xj_v xj_n js jl je, kx_a xj_v cyI 12 jv, kx_a xj_n cyI 12 jn, kx_3 xh0 xa_v xa_n vs lo le, kx_a xa_v cyI 12 fv, kx_a xa_n cyI 12 fn, kx_3 xk0 xkv xkn sb lb eb, kx_a xkv cyI 12 gb, kx_a xkn cyI 12 nb]) hP hD hS hA [true, true, true, true, true, true, true, true, true, true, true, true, true, true, true, true, true, true, true, true, false, false, false, false, false, false, false, false, false, false, false, false, false, false, false, false, false, false, false, false, false, false, false, false, false, false, false, false] rfl
  have hKc := hK.sub (tys' := [(cyI, .int)]) [0] rfl
  refine va_calli (va_runV (As := [.int y_2, .int y_4, .int y_6, .int y_8, .int y_10, .int y_12]) (rest := []) ⟨hx, hb, hml, hown, (lwC_X4_both hts0)⟩ (c_X4_both_x l dC dI xm_ xq_row xq_t xt_ xh0 xk0 xw_ xz_ slots old xq_joined xq_from xq_to xq_size xq_lossOf xq_lessBy xq_value xq_number nodes here xq_cell cyI len f ff ft fs fo uv un fe xj_v xj_n js jl je jv jn xa_v xa_n vs lo le fv fn xkv xkn sb lb eb gb nb y_2 y_4 y_6 y_8 y_10 y_12 H.size I0 I1 I5 I2 I3 I6) (cwV 6 (lwC_X4_both hts0) lwG_X4_both rfl rfl rfl (by decide +kernel) ⟨Nat.le_of_ble_eq_true rfl, Nat.le_of_ble_eq_true rfl⟩) ⟨fun a U g mk q => by obtain ⟨q0, q1, qP, qK, qD, qn0⟩ := q; exact ⟨q0, q1, qP, va_K.moved (u := U) (U := U.calling g mk a) (Vm.Alike.refl U.vm) qK, qD, va_Nw.same (u := U) (U := U.calling g mk a) rfl rfl qn0⟩, kx_rc4 hKc hPc (q0 := 0) rfl, fun U hU hW => ⟨rfl, by rw [hU], by rw [hU]; exact hPc, va_K.moved hW.alike hKc, hDc.weaken (fun _ _ _ _ => trivial), va_Nw.warmM hW hN__methodLinkNest_RX3_42_yX4_isHeavy_RX4⟩⟩ rfl rfl hl.1 rfl (lv_room (Nat.le_of_ble_eq_true rfl)) dL_law_1611 (lw_fitJ hj hL (Nat.le_of_ble_eq_true rfl) (Nat.le_of_ble_eq_true rfl))) hS (fun q _ h => hFc q h) hFc (fun r_13 u t H1 locs ht hvm w_13 hB hz1 hk1 hS => ?_)
  obtain ⟨o_14, o_15, o_16, o_17, o_18, o_19, o_20, o_21, o_22, o_23, o_24, o_25, o_26, o_27, o_28, o_29, o_30, o_31, o_32, o_33, o_34, o_35, o_36, o_37, o_38⟩ := u
  dsimp only at w_13 hB
  obtain ⟨hP1, hK1, hD1⟩ := hB
  rw [ht] at hP1
  have hK1 := va_K.moved hvm.symm hK1
  obtain ⟨hP, hD⟩ := kx_joinM (w2 := [kx_4 xm_ xq_row xq_t xt_ xh0 xk0 xw_ xz_ slots o_14, kx_2 xq_t xq_row xq_joined xq_from xq_to xq_size xq_lossOf xq_lessBy xq_value xq_number o_15 o_16, kx_0 xq_row xq_cell len, kx_a xq_cell cyI 160 f, kx_a xq_from cyI 319 o_17, kx_a xq_to cyI 319 o_18, kx_a xq_size cyI 319 o_19, kx_a xq_lossOf cyI 319 o_20, kx_a xq_lessBy cyI 319 o_21, kx_a xq_value cyI 1914 o_22, kx_a xq_number cyI 1914 o_23, kx_3 xq_joined xj_v xj_n o_24 o_25 o_26, kx_a xj_v cyI 12 o_27, kx_a xj_n cyI 12 o_28, kx_3 xh0 xa_v xa_n o_29 o_30 o_31, kx_a xa_v cyI 12 o_32, kx_a xa_n cyI 12 o_33, kx_3 xk0 xkv xkn o_34 o_35 o_36, kx_a xkv cyI 12 o_37, kx_a xkn cyI 12 o_38, kx_1 xt_ xt_k xt_o tk mo, kx_a xt_k cyI 160 fk, kx_a xt_o cyI 160 fq, kx_a xw_ cyI 160 fw, kx_a xz_ cyI 161 fz, kx_5 yh0 yg_row len slots u_thrown yg_many yg_loss yg_less yg_voteValue yg_voteNumber yg_allValue yg_allNumber u_allMany yg_nodeL yg_nodeR u_nodes yg_part u_partMany yg_wasMany yg_wasLoss yg_wasValue yg_wasNumber yg_path u_pathMany yg_heavyValue yg_heavyTimes u_heavyMany yg_fewest yg_which yg_met u_mostMet, kx_a yg_row cyI 160 f, kx_a yg_many cyI 324 u_many, kx_a yg_loss cyI 324 u_loss, kx_a yg_less cyI 324 u_less, kx_a yg_voteValue cyI 1944 u_voteValue, kx_a yg_voteNumber cyI 1944 u_voteNumber, kx_a yg_allValue cyI 12 u_allValue, kx_a yg_allNumber cyI 12 u_allNumber, kx_a yg_nodeL cyI 320 u_nodeL, kx_a yg_nodeR cyI 320 u_nodeR, kx_a yg_part cyI 320 u_part, kx_a yg_wasMany cyI 320 u_wasMany, kx_a yg_wasLoss cyI 320 u_wasLoss, kx_a yg_wasValue cyI 1920 u_wasValue, kx_a yg_wasNumber cyI 1920 u_wasNumber, kx_a yg_path cyI 12 u_path, kx_a yg_heavyValue cyI 160 u_heavyValue, kx_a yg_heavyTimes cyI 160 u_heavyTimes, kx_a yg_fewest cyI 161 u_fewest, kx_a yg_which cyI 160 u_which, kx_a yg_met cyI 160 u_met, (q_o, .inl (cyL, 1, .inr (.inl ol)))]) hP hD hP1 hD1 hk1 hFc [true, true, true, true, true, true, true, true, true, true, true, true, true, true, true, true, true, true, true, true, false, false, false, false, false, false, false, false, false, false, false, false, false, false, false, false, false, false, false, false, false, false, false, false, false, false, false, false] hCc rfl
  clear hP1 hD1 hK1 hk1 hz1 hFc hDc hPc hKc hCc
  generalize H1 = H at hP hS ⊢
  have w_13 : laidX o_14 slots o_16 f o_17 o_18 o_19 o_20 o_21 o_22 o_23 o_15 len ∧ sixes o_19 := w_13
  refine lv_pop hx hb dL_law_1614 rfl ?_
  refine lv_aload_n hx hb dL_law_1615 rfl (lv_at hl 2 rfl) ?_
  refine lv_aload_n hx hb dL_law_1616 rfl (lv_at hl 4 rfl) ?_
  refine lv_iload hx hb dL_law_1617 (lv_at hl 0 rfl) ?_
  refine lv_iconst (v := 1) hx hb dL_law_1619 (by decide) ?_
  refine lv_iadd hx hb dL_law_1620 ?_
  refine lv_topi (fun y_39 ey_39 => ?_)
  have i_39 : y_39.toInt = ix.toInt + 1 := ki_add ey_39 rfl rfl (om_568 hix hj0) (om_569 hix hjI hLI)
  refine va_sld hx hb hX hbl hbA hS (i := y_39) (ki_in (om_570 hix hj0 i_39) (om_571 hix hjI i_39)) dL_law_1621 ?_
  refine lv_topi (fun y_40 ey_40 => ?_)
  have qy_40 : y_2 = y_40 := by rw [ey_2, ey_40, ki_nateq (show y_1.toInt = y_39.toInt from (om_576 i_1 i_39))]
  subst qy_40
  refine lv_aload_n hx hb dL_law_1622 rfl (lv_at hl 4 rfl) ?_
  refine lv_iload hx hb dL_law_1623 (lv_at hl 0 rfl) ?_
  refine lv_iconst (v := 2) hx hb dL_law_1625 (by decide) ?_
  refine lv_iadd hx hb dL_law_1626 ?_
  refine lv_topi (fun y_41 ey_41 => ?_)
  have i_41 : y_41.toInt = ix.toInt + 2 := ki_add ey_41 rfl rfl (om_572 hix hj0) (om_573 hix hjI hLI)
  refine va_sld hx hb hX hbl hbA hS (i := y_41) (ki_in (om_574 hix hj0 i_41) (om_575 hix hjI i_41)) dL_law_1627 ?_
  refine lv_topi (fun y_42 ey_42 => ?_)
  have qy_42 : y_4 = y_42 := by rw [ey_4, ey_42, ki_nateq (show y_3.toInt = y_41.toInt from (om_577 i_3 i_41))]
  subst qy_42
  refine lv_aload_n hx hb dL_law_1628 rfl (lv_at hl 4 rfl) ?_
  refine lv_iload hx hb dL_law_1629 (lv_at hl 0 rfl) ?_
  refine lv_iconst (v := 3) hx hb dL_law_1631 (by decide) ?_
  refine lv_iadd hx hb dL_law_1632 ?_
  refine lv_topi (fun y_43 ey_43 => ?_)
  have i_43 : y_43.toInt = ix.toInt + 3 := ki_add ey_43 rfl rfl (om_580 hix hj0) (om_581 hix hjI hLI)
  refine va_sld hx hb hX hbl hbA hS (i := y_43) (ki_in (om_582 hix hj0 i_43) (om_583 hix hjI i_43)) dL_law_1633 ?_
  refine lv_topi (fun y_44 ey_44 => ?_)
  have qy_44 : y_6 = y_44 := by rw [ey_6, ey_44, ki_nateq (show y_5.toInt = y_43.toInt from (om_584 i_5 i_43))]
  subst qy_44
  refine lv_aload_n hx hb dL_law_1634 rfl (lv_at hl 4 rfl) ?_
  refine lv_iload hx hb dL_law_1635 (lv_at hl 0 rfl) ?_
  refine lv_iconst (v := 4) hx hb dL_law_1637 (by decide) ?_
  refine lv_iadd hx hb dL_law_1638 ?_
  refine lv_topi (fun y_45 ey_45 => ?_)
  have i_45 : y_45.toInt = ix.toInt + 4 := ki_add ey_45 rfl rfl (om_585 hix hj0) (om_586 hix hjI hLI)
  refine va_sld hx hb hX hbl hbA hS (i := y_45) (ki_in (om_587 hix hj0 i_45) (om_588 hix hjI i_45)) dL_law_1639 ?_
  refine lv_topi (fun y_46 ey_46 => ?_)
  have qy_46 : y_8 = y_46 := by rw [ey_8, ey_46, ki_nateq (show y_7.toInt = y_45.toInt from (om_589 i_7 i_45))]
  subst qy_46
  refine lv_aload_n hx hb dL_law_1640 rfl (lv_at hl 4 rfl) ?_
  refine lv_iload hx hb dL_law_1641 (lv_at hl 0 rfl) ?_
  refine lv_iconst (v := 5) hx hb dL_law_1643 (by decide) ?_
  refine lv_iadd hx hb dL_law_1644 ?_
  refine lv_topi (fun y_47 ey_47 => ?_)
  have i_47 : y_47.toInt = ix.toInt + 5 := ki_add ey_47 rfl rfl (om_590 hix hj0) (om_591 hix hjI hLI)
  refine va_sld hx hb hX hbl hbA hS (i := y_47) (ki_in (om_592 hix hj0 i_47) (om_593 hix hjI i_47)) dL_law_1645 ?_
  refine lv_topi (fun y_48 ey_48 => ?_)
  have qy_48 : y_10 = y_48 := by rw [ey_10, ey_48, ki_nateq (show y_9.toInt = y_47.toInt from (om_598 i_9 i_47))]
  subst qy_48
  refine lv_aload_n hx hb dL_law_1646 rfl (lv_at hl 4 rfl) ?_
  refine lv_iload hx hb dL_law_1647 (lv_at hl 0 rfl) ?_
  refine lv_bipush (v := 6) hx hb dL_law_1649 (by decide) ?_
  refine lv_iadd hx hb dL_law_1651 ?_
  refine lv_topi (fun y_49 ey_49 => ?_)
  have i_49 : y_49.toInt = ix.toInt + 6 := ki_add ey_49 rfl rfl (om_594 hix hj0) (om_595 hix hjI hLI)
  refine va_sld hx hb hX hbl hbA hS (i := y_49) (ki_in (om_596 hix hj0 i_49) (om_597 hix hjI i_49)) dL_law_1652 ?_
  refine lv_topi (fun y_50 ey_50 => ?_)
  have qy_50 : y_12 = y_50 := by rw [ey_12, ey_50, ki_nateq (show y_11.toInt = y_49.toInt from (om_599 i_11 i_49))]
  subst qy_50
  obtain ⟨hPc, hDc, hFc, hCc⟩ := kx_preM (wc := [kx_5 yh0 yg_row len slots u_thrown yg_many yg_loss yg_less yg_voteValue yg_voteNumber yg_allValue yg_allNumber u_allMany yg_nodeL yg_nodeR u_nodes yg_part u_partMany yg_wasMany yg_wasLoss yg_wasValue yg_wasNumber yg_path u_pathMany yg_heavyValue yg_heavyTimes u_heavyMany yg_fewest yg_which yg_met u_mostMet, kx_a yg_row cyI 160 f, kx_a yg_heavyValue cyI 160 u_heavyValue, kx_a yg_heavyTimes cyI 160 u_heavyTimes]) hP hD hS hA [false, false, false, false, false, false, false, false, false, false, false, false, false, false, false, false, false, false, false, false, false, false, false, false, false, true, true, false, false, false, false, false, false, false, false, false, false, false, false, false, false, false, true, true, false, false, false, false] rfl
  have hKc := hK.sub (tys' := [(cyI, .int)]) [0] rfl
  refine va_calli (va_runV (As := [.int y_2, .int y_4, .int y_6, .int y_8, .int y_10, .int y_12]) (rest := []) ⟨hx, hb, hml, hown, (lwC_X5_both hts0)⟩ (kx_un (c_X5_both_x l dC dI yh0 yg_row yg_many yg_loss yg_less yg_voteValue yg_voteNumber yg_allValue yg_allNumber yg_nodeL yg_nodeR yg_part yg_wasMany yg_wasLoss yg_wasValue yg_wasNumber yg_path yg_heavyValue yg_heavyTimes yg_fewest yg_which yg_met len slots u_thrown u_allMany u_nodes u_partMany u_pathMany u_heavyMany u_mostMet cyI f u_heavyValue u_heavyTimes y_2 y_4 y_6 y_8 y_10 y_12 H.size I0 I1 I2 I3)) (cwV 6 (lwC_X5_both hts0) lwG_X5_both rfl rfl rfl (by decide +kernel) ⟨Nat.le_of_ble_eq_true rfl, Nat.le_of_ble_eq_true rfl⟩) ⟨fun a U g mk q => by obtain ⟨q0, q1, qP, qK, qD⟩ := q; exact ⟨q0, q1, qP, va_K.moved (u := U) (U := U.calling g mk a) (Vm.Alike.refl U.vm) qK, qD⟩, kx_rc5 hKc hPc (q0 := 0) rfl, fun U hU hW => ⟨rfl, by rw [hU], by rw [hU]; exact hPc, va_K.moved hW.alike hKc, hDc.weaken (fun _ _ _ _ => trivial)⟩⟩ rfl rfl hl.1 rfl (lv_room (Nat.le_of_ble_eq_true rfl)) dL_law_1653 (lw_fitJ hj hL (Nat.le_of_ble_eq_true rfl) (Nat.le_of_ble_eq_true rfl))) hS (fun q _ h => hFc q h) hFc (fun r_51 u t H1 locs ht hvm w_51 hB hz1 hk1 hS => ?_)
  obtain ⟨o_52, o_53, o_54⟩ := u
  dsimp only at w_51 hB
  obtain ⟨hP1, hK1, hD1⟩ := hB
  rw [ht] at hP1
  have hK1 := va_K.moved hvm.symm hK1
  obtain ⟨hP, hD⟩ := kx_joinM (w2 := [kx_4 xm_ xq_row xq_t xt_ xh0 xk0 xw_ xz_ slots o_14, kx_2 xq_t xq_row xq_joined xq_from xq_to xq_size xq_lossOf xq_lessBy xq_value xq_number o_15 o_16, kx_0 xq_row xq_cell len, kx_a xq_cell cyI 160 f, kx_a xq_from cyI 319 o_17, kx_a xq_to cyI 319 o_18, kx_a xq_size cyI 319 o_19, kx_a xq_lossOf cyI 319 o_20, kx_a xq_lessBy cyI 319 o_21, kx_a xq_value cyI 1914 o_22, kx_a xq_number cyI 1914 o_23, kx_3 xq_joined xj_v xj_n o_24 o_25 o_26, kx_a xj_v cyI 12 o_27, kx_a xj_n cyI 12 o_28, kx_3 xh0 xa_v xa_n o_29 o_30 o_31, kx_a xa_v cyI 12 o_32, kx_a xa_n cyI 12 o_33, kx_3 xk0 xkv xkn o_34 o_35 o_36, kx_a xkv cyI 12 o_37, kx_a xkn cyI 12 o_38, kx_1 xt_ xt_k xt_o tk mo, kx_a xt_k cyI 160 fk, kx_a xt_o cyI 160 fq, kx_a xw_ cyI 160 fw, kx_a xz_ cyI 161 fz, kx_5 yh0 yg_row len slots 0 yg_many yg_loss yg_less yg_voteValue yg_voteNumber yg_allValue yg_allNumber u_allMany yg_nodeL yg_nodeR u_nodes yg_part u_partMany yg_wasMany yg_wasLoss yg_wasValue yg_wasNumber yg_path u_pathMany yg_heavyValue yg_heavyTimes o_52 yg_fewest yg_which yg_met u_mostMet, kx_a yg_row cyI 160 f, kx_a yg_many cyI 324 u_many, kx_a yg_loss cyI 324 u_loss, kx_a yg_less cyI 324 u_less, kx_a yg_voteValue cyI 1944 u_voteValue, kx_a yg_voteNumber cyI 1944 u_voteNumber, kx_a yg_allValue cyI 12 u_allValue, kx_a yg_allNumber cyI 12 u_allNumber, kx_a yg_nodeL cyI 320 u_nodeL, kx_a yg_nodeR cyI 320 u_nodeR, kx_a yg_part cyI 320 u_part, kx_a yg_wasMany cyI 320 u_wasMany, kx_a yg_wasLoss cyI 320 u_wasLoss, kx_a yg_wasValue cyI 1920 u_wasValue, kx_a yg_wasNumber cyI 1920 u_wasNumber, kx_a yg_path cyI 12 u_path, kx_a yg_heavyValue cyI 160 o_53, kx_a yg_heavyTimes cyI 160 o_54, kx_a yg_fewest cyI 161 u_fewest, kx_a yg_which cyI 160 u_which, kx_a yg_met cyI 160 u_met, (q_o, .inl (cyL, 1, .inr (.inl ol)))]) hP hD hP1 hD1 hk1 hFc [false, false, false, false, false, false, false, false, false, false, false, false, false, false, false, false, false, false, false, false, false, false, false, false, false, true, true, false, false, false, false, false, false, false, false, false, false, false, false, false, false, false, true, true, false, false, false, false] hCc rfl
  clear hP1 hD1 hK1 hk1 hz1 hFc hDc hPc hKc hCc
  generalize H1 = H at hP hS ⊢
  have w_51 : ((0 ≤ y_2.toInt ∧ y_2.toInt < y_4.toInt ∧ y_4.toInt ≤ len.toInt ∧ 0 ≤ y_6.toInt ∧ y_6.toInt < y_8.toInt ∧ y_8.toInt ≤ len.toInt ∧ 1 ≤ y_10.toInt ∧ y_10.toInt ≤ y_12.toInt ∧ y_12.toInt ≤ 999 ∧ y_12.toInt ≤ y_10.toInt * (slots.toInt + 1) ∧ (y_8.toInt ≤ y_2.toInt ∨ y_4.toInt ≤ y_6.toInt)) ∧ mj_vs o_53 o_54 0 o_52.toNatClampNeg (mj_hvm y_10.toInt y_12.toInt (y_4.toInt - y_2.toInt + y_8.toInt - y_6.toInt) (fun v => (cnt f v y_2.toNatClampNeg (y_4.toInt - y_2.toInt).toNat : Int) + (cnt f v y_6.toNatClampNeg ((y_8.toInt : Int) - y_6.toInt).toNat : Int))) ∧ mj_srt o_53 o_54 0 o_52.toNatClampNeg ∧ 0 ≤ o_52.toInt ∧ o_52.toInt ≤ 160 ∧ r_51 = o_52) ∨ (((y_2.toInt < 0 ∨ y_4.toInt ≤ y_2.toInt ∨ len.toInt < y_4.toInt) ∨ (y_6.toInt < 0 ∨ y_8.toInt ≤ y_6.toInt ∨ len.toInt < y_8.toInt) ∨ y_10.toInt < 1 ∨ y_12.toInt < y_10.toInt ∨ 999 < y_12.toInt) ∧ r_51 = -1) ∨ ((0 ≤ y_2.toInt ∧ y_2.toInt < y_4.toInt ∧ y_4.toInt ≤ len.toInt ∧ 0 ≤ y_6.toInt ∧ y_6.toInt < y_8.toInt ∧ y_8.toInt ≤ len.toInt ∧ 1 ≤ y_10.toInt ∧ y_10.toInt ≤ y_12.toInt ∧ y_12.toInt ≤ 999 ∧ y_10.toInt * (slots.toInt + 1) < y_12.toInt) ∧ r_51 = -2) ∨ ((0 ≤ y_2.toInt ∧ y_2.toInt < y_4.toInt ∧ y_4.toInt ≤ len.toInt ∧ 0 ≤ y_6.toInt ∧ y_6.toInt < y_8.toInt ∧ y_8.toInt ≤ len.toInt ∧ 1 ≤ y_10.toInt ∧ y_10.toInt ≤ y_12.toInt ∧ y_12.toInt ≤ 999 ∧ y_12.toInt ≤ y_10.toInt * (slots.toInt + 1) ∧ y_2.toInt < y_8.toInt ∧ y_6.toInt < y_4.toInt) ∧ r_51 = -3) := w_51
  refine lv_pop hx hb dL_law_1656 rfl ?_
  refine lv_goto (tgt := 2288) hx hb dL_law_1657 (by decide) ?_
  obtain ⟨x_55, ex_55⟩ : ∃ y : Int32, y = ix + 8 := ⟨_, rfl⟩
  have i_55 : x_55.toInt = ix.toInt + 8 := ki_add ex_55 rfl rfl (om_578 hix hj0) (om_579 hix hjI hLI)
  refine lv_iinc (v := x_55) (lv' := [(4, .int x_55), (3, .ref q_o), (2, .ref yh0), (1, .ref xm_), (0, .ref b)]) hx hb dL_law_2288 hl (k := 0) rfl (by rw [ex_55]; rfl) (by decide) rfl (fun ls hl => ?_)
  refine lv_goto (tgt := 23) hx hb dL_law_2291 (by decide) ?_
  refine W.widen (k := 60 + 2 * (j + 1)) (n := 20000 + 12 * (j + 1)) (lw_wdC (k := 0) (Nat.le_of_ble_eq_true rfl)) (lw_wdS (k := 0) (Nat.le_of_ble_eq_true rfl)) ?_
  have k_56 : (0 : Int32).toInt = 0 := rfl
  exact ih len slots o_14 o_15 o_16 o_24 o_25 o_26 o_29 o_30 o_31 o_34 o_35 o_36 tk mo 0 u_allMany u_nodes u_partMany u_pathMany o_52 u_mostMet f o_17 o_18 o_19 o_20 o_21 o_22 o_23 o_27 o_28 o_32 o_33 o_37 o_38 fk fq fw fz u_many u_loss u_less u_voteValue u_voteNumber u_allValue u_allNumber u_nodeL u_nodeR u_part u_wasMany u_wasLoss u_wasValue u_wasNumber u_path o_53 o_54 u_fewest u_which u_met ol x_55 (om_ix i_55 hix) I0 I1 I2 I3 I4 w_13.2 w_13.1 I7 I8 _ _ ls hP hD hS (lv_sub hl [0, 1, 2, 3, 4] rfl)

set_option maxHeartbeats 4000000 in
set_option maxRecDepth 100000 in
theorem lc_32 {p : Program} {l : Launch} {e : Env} {s : State} {m : MethodId} {below : List Frame} {meth : Method} {c : Code} {dC : Nat → ClassId} {dI : Nat → Nat → Nat} {b : Nat} {xs : Nat → Int32} (hl0 : l.stackTraces = false) {L j : Nat} (hL : L ≤ 4096) (hj : 8 * j + 8 ≤ L) (C0 : lw_At p s m meth c b L xs) (hth : ki_ThA (fun q : Nat => s.heap.size ≤ q) s) {cyI cyL : ClassId} {xm_ xq_t xq_row xq_cell xq_from xq_to xq_size xq_lossOf xq_lessBy xq_value xq_number xq_joined xj_v xj_n xh0 xa_v xa_n xk0 xkv xkn xt_ xt_k xt_o xw_ xz_ yh0 yg_row yg_many yg_loss yg_less yg_voteValue yg_voteNumber yg_allValue yg_allNumber yg_nodeL yg_nodeR yg_part yg_wasMany yg_wasLoss yg_wasValue yg_wasNumber yg_path yg_heavyValue yg_heavyTimes yg_fewest yg_which yg_met q_o : Nat} (hK : va_K (dC, dI) vwCl [(cyI, .int), (cyL, .long)] s) (ih : lw_G p l e s m below meth c b dC dI cyI cyL xm_ xq_t xq_row xq_cell xq_from xq_to xq_size xq_lossOf xq_lessBy xq_value xq_number xq_joined xj_v xj_n xh0 xa_v xa_n xk0 xkv xkn xt_ xt_k xt_o xw_ xz_ yh0 yg_row yg_many yg_loss yg_less yg_voteValue yg_voteNumber yg_allValue yg_allNumber yg_nodeL yg_nodeR yg_part yg_wasMany yg_wasLoss yg_wasValue yg_wasNumber yg_path yg_heavyValue yg_heavyTimes yg_fewest yg_which yg_met q_o (j + 1)) {len slots old nodes here js jl je vs lo le sb lb eb tk mo u_thrown u_allMany u_nodes u_partMany u_pathMany u_heavyMany u_mostMet ix : Int32} {f ff ft fs fo fe uv un jv jn fv fn gb nb fk fq fw fz u_many u_loss u_less u_voteValue u_voteNumber u_allValue u_allNumber u_nodeL u_nodeR u_part u_wasMany u_wasLoss u_wasValue u_wasNumber u_path u_heavyValue u_heavyTimes u_fewest u_which u_met : Nat → Int32} {ol : Nat → Int64} (hix : ix.toInt = 8 * (j : Int)) (I0 : 0 ≤ len.toInt) (I1 : len.toInt ≤ 160) (I2 : 1 ≤ slots.toInt) (I3 : slots.toInt ≤ 6) (I4 : shorts f) (I5 : sixes fs) (I6 : laidX old slots here f ff ft fs fo fe uv un nodes len) (I7 : six4 u_many) (I8 : parts320 u_part) {H : Heap} {locs : List Loc} (hP : va_P (dC, dI) vwCl [kx_4 xm_ xq_row xq_t xt_ xh0 xk0 xw_ xz_ slots old, kx_2 xq_t xq_row xq_joined xq_from xq_to xq_size xq_lossOf xq_lessBy xq_value xq_number nodes here, kx_0 xq_row xq_cell len, kx_a xq_cell cyI 160 f, kx_a xq_from cyI 319 ff, kx_a xq_to cyI 319 ft, kx_a xq_size cyI 319 fs, kx_a xq_lossOf cyI 319 fo, kx_a xq_lessBy cyI 319 fe, kx_a xq_value cyI 1914 uv, kx_a xq_number cyI 1914 un, kx_3 xq_joined xj_v xj_n js jl je, kx_a xj_v cyI 12 jv, kx_a xj_n cyI 12 jn, kx_3 xh0 xa_v xa_n vs lo le, kx_a xa_v cyI 12 fv, kx_a xa_n cyI 12 fn, kx_3 xk0 xkv xkn sb lb eb, kx_a xkv cyI 12 gb, kx_a xkn cyI 12 nb, kx_1 xt_ xt_k xt_o tk mo, kx_a xt_k cyI 160 fk, kx_a xt_o cyI 160 fq, kx_a xw_ cyI 160 fw, kx_a xz_ cyI 161 fz, kx_5 yh0 yg_row len slots u_thrown yg_many yg_loss yg_less yg_voteValue yg_voteNumber yg_allValue yg_allNumber u_allMany yg_nodeL yg_nodeR u_nodes yg_part u_partMany yg_wasMany yg_wasLoss yg_wasValue yg_wasNumber yg_path u_pathMany yg_heavyValue yg_heavyTimes u_heavyMany yg_fewest yg_which yg_met u_mostMet, kx_a yg_row cyI 160 f, kx_a yg_many cyI 324 u_many, kx_a yg_loss cyI 324 u_loss, kx_a yg_less cyI 324 u_less, kx_a yg_voteValue cyI 1944 u_voteValue, kx_a yg_voteNumber cyI 1944 u_voteNumber, kx_a yg_allValue cyI 12 u_allValue, kx_a yg_allNumber cyI 12 u_allNumber, kx_a yg_nodeL cyI 320 u_nodeL, kx_a yg_nodeR cyI 320 u_nodeR, kx_a yg_part cyI 320 u_part, kx_a yg_wasMany cyI 320 u_wasMany, kx_a yg_wasLoss cyI 320 u_wasLoss, kx_a yg_wasValue cyI 1920 u_wasValue, kx_a yg_wasNumber cyI 1920 u_wasNumber, kx_a yg_path cyI 12 u_path, kx_a yg_heavyValue cyI 160 u_heavyValue, kx_a yg_heavyTimes cyI 160 u_heavyTimes, kx_a yg_fewest cyI 161 u_fewest, kx_a yg_which cyI 160 u_which, kx_a yg_met cyI 160 u_met, (q_o, .inl (cyL, 1, .inr (.inl ol)))] H) (hD : va_D (fun q : Nat => s.heap.size ≤ q) [kx_4 xm_ xq_row xq_t xt_ xh0 xk0 xw_ xz_ slots old, kx_2 xq_t xq_row xq_joined xq_from xq_to xq_size xq_lossOf xq_lessBy xq_value xq_number nodes here, kx_0 xq_row xq_cell len, kx_a xq_cell cyI 160 f, kx_a xq_from cyI 319 ff, kx_a xq_to cyI 319 ft, kx_a xq_size cyI 319 fs, kx_a xq_lossOf cyI 319 fo, kx_a xq_lessBy cyI 319 fe, kx_a xq_value cyI 1914 uv, kx_a xq_number cyI 1914 un, kx_3 xq_joined xj_v xj_n js jl je, kx_a xj_v cyI 12 jv, kx_a xj_n cyI 12 jn, kx_3 xh0 xa_v xa_n vs lo le, kx_a xa_v cyI 12 fv, kx_a xa_n cyI 12 fn, kx_3 xk0 xkv xkn sb lb eb, kx_a xkv cyI 12 gb, kx_a xkn cyI 12 nb, kx_1 xt_ xt_k xt_o tk mo, kx_a xt_k cyI 160 fk, kx_a xt_o cyI 160 fq, kx_a xw_ cyI 160 fw, kx_a xz_ cyI 161 fz, kx_5 yh0 yg_row len slots u_thrown yg_many yg_loss yg_less yg_voteValue yg_voteNumber yg_allValue yg_allNumber u_allMany yg_nodeL yg_nodeR u_nodes yg_part u_partMany yg_wasMany yg_wasLoss yg_wasValue yg_wasNumber yg_path u_pathMany yg_heavyValue yg_heavyTimes u_heavyMany yg_fewest yg_which yg_met u_mostMet, kx_a yg_row cyI 160 f, kx_a yg_many cyI 324 u_many, kx_a yg_loss cyI 324 u_loss, kx_a yg_less cyI 324 u_less, kx_a yg_voteValue cyI 1944 u_voteValue, kx_a yg_voteNumber cyI 1944 u_voteNumber, kx_a yg_allValue cyI 12 u_allValue, kx_a yg_allNumber cyI 12 u_allNumber, kx_a yg_nodeL cyI 320 u_nodeL, kx_a yg_nodeR cyI 320 u_nodeR, kx_a yg_part cyI 320 u_part, kx_a yg_wasMany cyI 320 u_wasMany, kx_a yg_wasLoss cyI 320 u_wasLoss, kx_a yg_wasValue cyI 1920 u_wasValue, kx_a yg_wasNumber cyI 1920 u_wasNumber, kx_a yg_path cyI 12 u_path, kx_a yg_heavyValue cyI 160 u_heavyValue, kx_a yg_heavyTimes cyI 160 u_heavyTimes, kx_a yg_fewest cyI 161 u_fewest, kx_a yg_which cyI 160 u_which, kx_a yg_met cyI 160 u_met, (q_o, .inl (cyL, 1, .inr (.inl ol)))]) (hS : va_S (fun q : Nat => s.heap.size ≤ q) s.heap H locs) {ls : Array Slot} (hl : lv_has ls 7 [(4, .int ix), (3, .ref q_o), (2, .ref yh0), (1, .ref xm_), (0, .ref b)]) : W p l e room_1 s m #[Value.ref b] below meth c H locs (60 + 2 * j) (20000 + 12 * j) (lw_Z below #[Value.ref b] s) (F0 m 1660 ls []) := by
  obtain ⟨hx, hb, hr, hml, hown, hts0, hX, hbl, hlocks, hgv⟩ := id C0
  have hts := hts0
  have hA : ∀ q : Nat, s.heap.size ≤ q → (fun q : Nat => s.heap.size ≤ q) q := fun _ h => h
  have hbA : ¬ (fun q : Nat => s.heap.size ≤ q) b := Nat.not_le.mpr hbl
  have hown : s.vm.findClass RL = some m.cls := hown
  have hb : c.code = cL_law := hb
  have hj0 : 0 ≤ (j : Int) := Int.natCast_nonneg j
  have hjI : 8 * (j : Int) + 8 ≤ (L : Int) := lw_jI hj
  have hLI : (L : Int) ≤ 4096 := lw_LI hL
  have hN__methodLinkNest_RX3_42_yX4_isHeavy_RX4 : va_Nw (.methodLinkNest RX3 42 yX4_isHeavy RX4) s := va_Nw.of rfl (hts0 (.methodLinkNest RX3 42 yX4_isHeavy RX4) lwW_486)
  refine lv_aload_n hx hb dL_law_1660 rfl (lv_at hl 3 rfl) ?_
  refine lv_aload_n hx hb dL_law_1661 rfl (lv_at hl 4 rfl) ?_
  refine lv_iload hx hb dL_law_1662 (lv_at hl 0 rfl) ?_
  refine lv_iconst (v := 1) hx hb dL_law_1664 (by decide) ?_
  refine lv_iadd hx hb dL_law_1665 ?_
  refine lv_topi (fun y_1 ey_1 => ?_)
  have i_1 : y_1.toInt = ix.toInt + 1 := ki_add ey_1 rfl rfl (om_568 hix hj0) (om_569 hix hjI hLI)
  refine va_sld hx hb hX hbl hbA hS (i := y_1) (ki_in (om_570 hix hj0 i_1) (om_571 hix hjI i_1)) dL_law_1666 ?_
  refine lv_topi (fun y_2 ey_2 => ?_)
  refine lv_aload_n hx hb dL_law_1667 rfl (lv_at hl 4 rfl) ?_
  refine lv_iload hx hb dL_law_1668 (lv_at hl 0 rfl) ?_
  refine lv_iconst (v := 2) hx hb dL_law_1670 (by decide) ?_
  refine lv_iadd hx hb dL_law_1671 ?_
  refine lv_topi (fun y_3 ey_3 => ?_)
  have i_3 : y_3.toInt = ix.toInt + 2 := ki_add ey_3 rfl rfl (om_572 hix hj0) (om_573 hix hjI hLI)
  refine va_sld hx hb hX hbl hbA hS (i := y_3) (ki_in (om_574 hix hj0 i_3) (om_575 hix hjI i_3)) dL_law_1672 ?_
  refine lv_topi (fun y_4 ey_4 => ?_)
  refine lv_aload_n hx hb dL_law_1673 rfl (lv_at hl 4 rfl) ?_
  refine lv_iload hx hb dL_law_1674 (lv_at hl 0 rfl) ?_
  refine lv_iconst (v := 3) hx hb dL_law_1676 (by decide) ?_
  refine lv_iadd hx hb dL_law_1677 ?_
  refine lv_topi (fun y_5 ey_5 => ?_)
  have i_5 : y_5.toInt = ix.toInt + 3 := ki_add ey_5 rfl rfl (om_580 hix hj0) (om_581 hix hjI hLI)
  refine va_sld hx hb hX hbl hbA hS (i := y_5) (ki_in (om_582 hix hj0 i_5) (om_583 hix hjI i_5)) dL_law_1678 ?_
  refine lv_topi (fun y_6 ey_6 => ?_)
  refine lv_aload_n hx hb dL_law_1679 rfl (lv_at hl 4 rfl) ?_
  refine lv_iload hx hb dL_law_1680 (lv_at hl 0 rfl) ?_
  refine lv_iconst (v := 4) hx hb dL_law_1682 (by decide) ?_
  refine lv_iadd hx hb dL_law_1683 ?_
  refine lv_topi (fun y_7 ey_7 => ?_)
  have i_7 : y_7.toInt = ix.toInt + 4 := ki_add ey_7 rfl rfl (om_585 hix hj0) (om_586 hix hjI hLI)
  refine va_sld hx hb hX hbl hbA hS (i := y_7) (ki_in (om_587 hix hj0 i_7) (om_588 hix hjI i_7)) dL_law_1684 ?_
  refine lv_topi (fun y_8 ey_8 => ?_)
  refine lv_aload_n hx hb dL_law_1685 rfl (lv_at hl 4 rfl) ?_
  refine lv_iload hx hb dL_law_1686 (lv_at hl 0 rfl) ?_
  refine lv_iconst (v := 5) hx hb dL_law_1688 (by decide) ?_
  refine lv_iadd hx hb dL_law_1689 ?_
  refine lv_topi (fun y_9 ey_9 => ?_)
  have i_9 : y_9.toInt = ix.toInt + 5 := ki_add ey_9 rfl rfl (om_590 hix hj0) (om_591 hix hjI hLI)
  refine va_sld hx hb hX hbl hbA hS (i := y_9) (ki_in (om_592 hix hj0 i_9) (om_593 hix hjI i_9)) dL_law_1690 ?_
  refine lv_topi (fun y_10 ey_10 => ?_)
  refine lv_aload_n hx hb dL_law_1691 rfl (lv_at hl 4 rfl) ?_
  refine lv_iload hx hb dL_law_1692 (lv_at hl 0 rfl) ?_
  refine lv_bipush (v := 6) hx hb dL_law_1694 (by decide) ?_
  refine lv_iadd hx hb dL_law_1696 ?_
  refine lv_topi (fun y_11 ey_11 => ?_)
  have i_11 : y_11.toInt = ix.toInt + 6 := ki_add ey_11 rfl rfl (om_594 hix hj0) (om_595 hix hjI hLI)
  refine va_sld hx hb hX hbl hbA hS (i := y_11) (ki_in (om_596 hix hj0 i_11) (om_597 hix hjI i_11)) dL_law_1697 ?_
  refine lv_topi (fun y_12 ey_12 => ?_)
  refine lv_aload_n hx hb dL_law_1698 rfl (lv_at hl 4 rfl) ?_
  refine lv_iload hx hb dL_law_1699 (lv_at hl 0 rfl) ?_
  refine lv_bipush (v := 7) hx hb dL_law_1701 (by decide) ?_
  refine lv_iadd hx hb dL_law_1703 ?_
  refine lv_topi (fun y_13 ey_13 => ?_)
  have i_13 : y_13.toInt = ix.toInt + 7 := ki_add ey_13 rfl rfl (om_600 hix hj0) (om_601 hix hjI hLI)
  refine va_sld hx hb hX hbl hbA hS (i := y_13) (ki_in (om_602 hix hj0 i_13) (om_603 hix hjI i_13)) dL_law_1704 ?_
  refine lv_topi (fun y_14 ey_14 => ?_)
  obtain ⟨hPc, hDc, hFc, hCc⟩ := kx_preM (wc := [kx_4 xm_ xq_row xq_t xt_ xh0 xk0 xw_ xz_ slots old, kx_2 xq_t xq_row xq_joined xq_from xq_to xq_size xq_lossOf xq_lessBy xq_value xq_number nodes here, kx_0 xq_row xq_cell len, kx_a xq_cell cyI 160 f, kx_a xq_from cyI 319 ff, kx_a xq_to cyI 319 ft, kx_a xq_size cyI 319 fs, kx_a xq_lossOf cyI 319 fo, kx_a xq_lessBy cyI 319 fe, kx_a xq_value cyI 1914 uv, kx_a xq_number cyI 1914 un, kx_3 xq_joined xj_v xj_n js jl je, kx_a xj_v cyI 12 jv, kx_a xj_n cyI 12 jn, kx_3 xh0 xa_v xa_n vs lo le, kx_a xa_v cyI 12 fv, kx_a xa_n cyI 12 fn, kx_3 xk0 xkv xkn sb lb eb, kx_a xkv cyI 12 gb, kx_a xkn cyI 12 nb]) hP hD hS hA [true, true, true, true, true, true, true, true, true, true, true, true, true, true, true, true, true, true, true, true, false, false, false, false, false, false, false, false, false, false, false, false, false, false, false, false, false, false, false, false, false, false, false, false, false, false, false, false] rfl
  have hKc := hK.sub (tys' := [(cyI, .int)]) [0] rfl
  refine va_calli (va_runV (As := [.int y_2, .int y_4, .int y_6, .int y_8, .int y_10, .int y_12, .int y_14]) (rest := []) ⟨hx, hb, hml, hown, (lwC_X4_bothAt hts0)⟩ (c_X4_bothAt_y l dC dI xm_ xq_row xq_t xt_ xh0 xk0 xw_ xz_ slots old xq_joined xq_from xq_to xq_size xq_lossOf xq_lessBy xq_value xq_number nodes here xq_cell cyI len f ff ft fs fo uv un fe xj_v xj_n js jl je jv jn xa_v xa_n vs lo le fv fn xkv xkn sb lb eb gb nb y_2 y_4 y_6 y_8 y_10 y_12 y_14 H.size I0 I1 I5 I2 I3 I6 I4) (cwV 7 (lwC_X4_bothAt hts0) lwG_X4_bothAt rfl rfl rfl (by decide +kernel) ⟨Nat.le_of_ble_eq_true rfl, Nat.le_of_ble_eq_true rfl⟩) ⟨fun a U g mk q => by obtain ⟨q0, q1, qP, qK, qD, qn0⟩ := q; exact ⟨q0, q1, qP, va_K.moved (u := U) (U := U.calling g mk a) (Vm.Alike.refl U.vm) qK, qD, va_Nw.same (u := U) (U := U.calling g mk a) rfl rfl qn0⟩, kx_rc4 hKc hPc (q0 := 0) rfl, fun U hU hW => ⟨rfl, by rw [hU], by rw [hU]; exact hPc, va_K.moved hW.alike hKc, hDc.weaken (fun _ _ _ _ => trivial), va_Nw.warmM hW hN__methodLinkNest_RX3_42_yX4_isHeavy_RX4⟩⟩ rfl rfl hl.1 rfl (lv_room (Nat.le_of_ble_eq_true rfl)) dL_law_1705 (lw_fitJ hj hL (Nat.le_of_ble_eq_true rfl) (Nat.le_of_ble_eq_true rfl))) hS (fun q _ h => hFc q h) hFc (fun r_15 u t H1 locs ht hvm w_15 hB hz1 hk1 hS => ?_)
  obtain ⟨o_16, o_17, o_18, o_19, o_20, o_21, o_22, o_23, o_24, o_25, o_26, o_27, o_28, o_29, o_30, o_31, o_32, o_33, o_34, o_35, o_36, o_37, o_38, o_39, o_40⟩ := u
  dsimp only at w_15 hB
  obtain ⟨hP1, hK1, hD1⟩ := hB
  rw [ht] at hP1
  have hK1 := va_K.moved hvm.symm hK1
  obtain ⟨hP, hD⟩ := kx_joinM (w2 := [kx_4 xm_ xq_row xq_t xt_ xh0 xk0 xw_ xz_ slots o_16, kx_2 xq_t xq_row xq_joined xq_from xq_to xq_size xq_lossOf xq_lessBy xq_value xq_number o_17 o_18, kx_0 xq_row xq_cell len, kx_a xq_cell cyI 160 f, kx_a xq_from cyI 319 o_19, kx_a xq_to cyI 319 o_20, kx_a xq_size cyI 319 o_21, kx_a xq_lossOf cyI 319 o_22, kx_a xq_lessBy cyI 319 o_23, kx_a xq_value cyI 1914 o_24, kx_a xq_number cyI 1914 o_25, kx_3 xq_joined xj_v xj_n o_26 o_27 o_28, kx_a xj_v cyI 12 o_29, kx_a xj_n cyI 12 o_30, kx_3 xh0 xa_v xa_n o_31 o_32 o_33, kx_a xa_v cyI 12 o_34, kx_a xa_n cyI 12 o_35, kx_3 xk0 xkv xkn o_36 o_37 o_38, kx_a xkv cyI 12 o_39, kx_a xkn cyI 12 o_40, kx_1 xt_ xt_k xt_o tk mo, kx_a xt_k cyI 160 fk, kx_a xt_o cyI 160 fq, kx_a xw_ cyI 160 fw, kx_a xz_ cyI 161 fz, kx_5 yh0 yg_row len slots u_thrown yg_many yg_loss yg_less yg_voteValue yg_voteNumber yg_allValue yg_allNumber u_allMany yg_nodeL yg_nodeR u_nodes yg_part u_partMany yg_wasMany yg_wasLoss yg_wasValue yg_wasNumber yg_path u_pathMany yg_heavyValue yg_heavyTimes u_heavyMany yg_fewest yg_which yg_met u_mostMet, kx_a yg_row cyI 160 f, kx_a yg_many cyI 324 u_many, kx_a yg_loss cyI 324 u_loss, kx_a yg_less cyI 324 u_less, kx_a yg_voteValue cyI 1944 u_voteValue, kx_a yg_voteNumber cyI 1944 u_voteNumber, kx_a yg_allValue cyI 12 u_allValue, kx_a yg_allNumber cyI 12 u_allNumber, kx_a yg_nodeL cyI 320 u_nodeL, kx_a yg_nodeR cyI 320 u_nodeR, kx_a yg_part cyI 320 u_part, kx_a yg_wasMany cyI 320 u_wasMany, kx_a yg_wasLoss cyI 320 u_wasLoss, kx_a yg_wasValue cyI 1920 u_wasValue, kx_a yg_wasNumber cyI 1920 u_wasNumber, kx_a yg_path cyI 12 u_path, kx_a yg_heavyValue cyI 160 u_heavyValue, kx_a yg_heavyTimes cyI 160 u_heavyTimes, kx_a yg_fewest cyI 161 u_fewest, kx_a yg_which cyI 160 u_which, kx_a yg_met cyI 160 u_met, (q_o, .inl (cyL, 1, .inr (.inl ol)))]) hP hD hP1 hD1 hk1 hFc [true, true, true, true, true, true, true, true, true, true, true, true, true, true, true, true, true, true, true, true, false, false, false, false, false, false, false, false, false, false, false, false, false, false, false, false, false, false, false, false, false, false, false, false, false, false, false, false] hCc rfl
  clear hP1 hD1 hK1 hk1 hz1 hFc hDc hPc hKc hCc
  generalize H1 = H at hP hS ⊢
  have w_15 : ((((0 ≤ y_2.toInt ∧ y_2.toInt < y_4.toInt ∧ y_4.toInt ≤ len.toInt ∧ 0 ≤ y_6.toInt ∧ y_6.toInt < y_8.toInt ∧ y_8.toInt ≤ len.toInt ∧ 1 ≤ y_10.toInt ∧ y_10.toInt ≤ y_12.toInt ∧ y_12.toInt ≤ 999 ∧ y_12.toInt ≤ y_10.toInt * (slots.toInt + 1) ∧ (y_8.toInt ≤ y_2.toInt ∨ y_4.toInt ≤ y_6.toInt)) ∧ 0 ≤ y_14.toInt) ∧ o_16.toInt = 0 ∧ mj_vs o_34 o_35 0 o_31.toNatClampNeg (mj_hvm y_10.toInt y_12.toInt (y_4.toInt - y_2.toInt + y_8.toInt - y_6.toInt) (fun v => (cnt f v y_2.toNatClampNeg (y_4.toInt - y_2.toInt).toNat : Int) + (cnt f v y_6.toNatClampNeg ((y_8.toInt : Int) - y_6.toInt).toNat : Int))) ∧ mj_srt o_34 o_35 0 o_31.toNatClampNeg ∧ 0 ≤ o_31.toInt ∧ ((y_14.toInt < o_31.toInt ∧ r_15 = o_34 y_14.toNatClampNeg) ∨ (o_31.toInt ≤ y_14.toInt ∧ r_15 = -40000))) ∨ ((((y_2.toInt < 0 ∨ y_4.toInt ≤ y_2.toInt ∨ len.toInt < y_4.toInt) ∨ (y_6.toInt < 0 ∨ y_8.toInt ≤ y_6.toInt ∨ len.toInt < y_8.toInt) ∨ y_10.toInt < 1 ∨ y_12.toInt < y_10.toInt ∨ 999 < y_12.toInt) ∨ (0 ≤ y_2.toInt ∧ y_2.toInt < y_4.toInt ∧ y_4.toInt ≤ len.toInt ∧ 0 ≤ y_6.toInt ∧ y_6.toInt < y_8.toInt ∧ y_8.toInt ≤ len.toInt ∧ 1 ≤ y_10.toInt ∧ y_10.toInt ≤ y_12.toInt ∧ y_12.toInt ≤ 999 ∧ y_10.toInt * (slots.toInt + 1) < y_12.toInt) ∨ (0 ≤ y_2.toInt ∧ y_2.toInt < y_4.toInt ∧ y_4.toInt ≤ len.toInt ∧ 0 ≤ y_6.toInt ∧ y_6.toInt < y_8.toInt ∧ y_8.toInt ≤ len.toInt ∧ 1 ≤ y_10.toInt ∧ y_10.toInt ≤ y_12.toInt ∧ y_12.toInt ≤ 999 ∧ y_12.toInt ≤ y_10.toInt * (slots.toInt + 1) ∧ y_2.toInt < y_8.toInt ∧ y_6.toInt < y_4.toInt) ∨ y_14.toInt < 0) ∧ r_15 = -40000)) ∧ laidX o_16 slots o_18 f o_19 o_20 o_21 o_22 o_23 o_24 o_25 o_17 len ∧ sixes o_21 := w_15
  refine lv_aload_n hx hb dL_law_1708 rfl (lv_at hl 2 rfl) ?_
  refine lv_aload_n hx hb dL_law_1709 rfl (lv_at hl 4 rfl) ?_
  refine lv_iload hx hb dL_law_1710 (lv_at hl 0 rfl) ?_
  refine lv_iconst (v := 1) hx hb dL_law_1712 (by decide) ?_
  refine lv_iadd hx hb dL_law_1713 ?_
  refine lv_topi (fun y_41 ey_41 => ?_)
  have i_41 : y_41.toInt = ix.toInt + 1 := ki_add ey_41 rfl rfl (om_568 hix hj0) (om_569 hix hjI hLI)
  refine va_sld hx hb hX hbl hbA hS (i := y_41) (ki_in (om_570 hix hj0 i_41) (om_571 hix hjI i_41)) dL_law_1714 ?_
  refine lv_topi (fun y_42 ey_42 => ?_)
  have qy_42 : y_2 = y_42 := by rw [ey_2, ey_42, ki_nateq (show y_1.toInt = y_41.toInt from (om_576 i_1 i_41))]
  subst qy_42
  refine lv_aload_n hx hb dL_law_1715 rfl (lv_at hl 4 rfl) ?_
  refine lv_iload hx hb dL_law_1716 (lv_at hl 0 rfl) ?_
  refine lv_iconst (v := 2) hx hb dL_law_1718 (by decide) ?_
  refine lv_iadd hx hb dL_law_1719 ?_
  refine lv_topi (fun y_43 ey_43 => ?_)
  have i_43 : y_43.toInt = ix.toInt + 2 := ki_add ey_43 rfl rfl (om_572 hix hj0) (om_573 hix hjI hLI)
  refine va_sld hx hb hX hbl hbA hS (i := y_43) (ki_in (om_574 hix hj0 i_43) (om_575 hix hjI i_43)) dL_law_1720 ?_
  refine lv_topi (fun y_44 ey_44 => ?_)
  have qy_44 : y_4 = y_44 := by rw [ey_4, ey_44, ki_nateq (show y_3.toInt = y_43.toInt from (om_577 i_3 i_43))]
  subst qy_44
  refine lv_aload_n hx hb dL_law_1721 rfl (lv_at hl 4 rfl) ?_
  refine lv_iload hx hb dL_law_1722 (lv_at hl 0 rfl) ?_
  refine lv_iconst (v := 3) hx hb dL_law_1724 (by decide) ?_
  refine lv_iadd hx hb dL_law_1725 ?_
  refine lv_topi (fun y_45 ey_45 => ?_)
  have i_45 : y_45.toInt = ix.toInt + 3 := ki_add ey_45 rfl rfl (om_580 hix hj0) (om_581 hix hjI hLI)
  refine va_sld hx hb hX hbl hbA hS (i := y_45) (ki_in (om_582 hix hj0 i_45) (om_583 hix hjI i_45)) dL_law_1726 ?_
  refine lv_topi (fun y_46 ey_46 => ?_)
  have qy_46 : y_6 = y_46 := by rw [ey_6, ey_46, ki_nateq (show y_5.toInt = y_45.toInt from (om_584 i_5 i_45))]
  subst qy_46
  refine lv_aload_n hx hb dL_law_1727 rfl (lv_at hl 4 rfl) ?_
  refine lv_iload hx hb dL_law_1728 (lv_at hl 0 rfl) ?_
  refine lv_iconst (v := 4) hx hb dL_law_1730 (by decide) ?_
  refine lv_iadd hx hb dL_law_1731 ?_
  refine lv_topi (fun y_47 ey_47 => ?_)
  have i_47 : y_47.toInt = ix.toInt + 4 := ki_add ey_47 rfl rfl (om_585 hix hj0) (om_586 hix hjI hLI)
  refine va_sld hx hb hX hbl hbA hS (i := y_47) (ki_in (om_587 hix hj0 i_47) (om_588 hix hjI i_47)) dL_law_1732 ?_
  refine lv_topi (fun y_48 ey_48 => ?_)
  have qy_48 : y_8 = y_48 := by rw [ey_8, ey_48, ki_nateq (show y_7.toInt = y_47.toInt from (om_589 i_7 i_47))]
  subst qy_48
  refine lv_aload_n hx hb dL_law_1733 rfl (lv_at hl 4 rfl) ?_
  refine lv_iload hx hb dL_law_1734 (lv_at hl 0 rfl) ?_
  refine lv_iconst (v := 5) hx hb dL_law_1736 (by decide) ?_
  refine lv_iadd hx hb dL_law_1737 ?_
  refine lv_topi (fun y_49 ey_49 => ?_)
  have i_49 : y_49.toInt = ix.toInt + 5 := ki_add ey_49 rfl rfl (om_590 hix hj0) (om_591 hix hjI hLI)
  refine va_sld hx hb hX hbl hbA hS (i := y_49) (ki_in (om_592 hix hj0 i_49) (om_593 hix hjI i_49)) dL_law_1738 ?_
  refine lv_topi (fun y_50 ey_50 => ?_)
  have qy_50 : y_10 = y_50 := by rw [ey_10, ey_50, ki_nateq (show y_9.toInt = y_49.toInt from (om_598 i_9 i_49))]
  subst qy_50
  refine lv_aload_n hx hb dL_law_1739 rfl (lv_at hl 4 rfl) ?_
  refine lv_iload hx hb dL_law_1740 (lv_at hl 0 rfl) ?_
  refine lv_bipush (v := 6) hx hb dL_law_1742 (by decide) ?_
  refine lv_iadd hx hb dL_law_1744 ?_
  refine lv_topi (fun y_51 ey_51 => ?_)
  have i_51 : y_51.toInt = ix.toInt + 6 := ki_add ey_51 rfl rfl (om_594 hix hj0) (om_595 hix hjI hLI)
  refine va_sld hx hb hX hbl hbA hS (i := y_51) (ki_in (om_596 hix hj0 i_51) (om_597 hix hjI i_51)) dL_law_1745 ?_
  refine lv_topi (fun y_52 ey_52 => ?_)
  have qy_52 : y_12 = y_52 := by rw [ey_12, ey_52, ki_nateq (show y_11.toInt = y_51.toInt from (om_599 i_11 i_51))]
  subst qy_52
  refine lv_aload_n hx hb dL_law_1746 rfl (lv_at hl 4 rfl) ?_
  refine lv_iload hx hb dL_law_1747 (lv_at hl 0 rfl) ?_
  refine lv_bipush (v := 7) hx hb dL_law_1749 (by decide) ?_
  refine lv_iadd hx hb dL_law_1751 ?_
  refine lv_topi (fun y_53 ey_53 => ?_)
  have i_53 : y_53.toInt = ix.toInt + 7 := ki_add ey_53 rfl rfl (om_600 hix hj0) (om_601 hix hjI hLI)
  refine va_sld hx hb hX hbl hbA hS (i := y_53) (ki_in (om_602 hix hj0 i_53) (om_603 hix hjI i_53)) dL_law_1752 ?_
  refine lv_topi (fun y_54 ey_54 => ?_)
  have qy_54 : y_14 = y_54 := by rw [ey_14, ey_54, ki_nateq (show y_13.toInt = y_53.toInt from (om_604 i_13 i_53))]
  subst qy_54
  obtain ⟨hPc, hDc, hFc, hCc⟩ := kx_preM (wc := [kx_5 yh0 yg_row len slots u_thrown yg_many yg_loss yg_less yg_voteValue yg_voteNumber yg_allValue yg_allNumber u_allMany yg_nodeL yg_nodeR u_nodes yg_part u_partMany yg_wasMany yg_wasLoss yg_wasValue yg_wasNumber yg_path u_pathMany yg_heavyValue yg_heavyTimes u_heavyMany yg_fewest yg_which yg_met u_mostMet, kx_a yg_row cyI 160 f, kx_a yg_heavyValue cyI 160 u_heavyValue, kx_a yg_heavyTimes cyI 160 u_heavyTimes]) hP hD hS hA [false, false, false, false, false, false, false, false, false, false, false, false, false, false, false, false, false, false, false, false, false, false, false, false, false, true, true, false, false, false, false, false, false, false, false, false, false, false, false, false, false, false, true, true, false, false, false, false] rfl
  have hKc := hK.sub (tys' := [(cyI, .int)]) [0] rfl
  refine va_calli (va_runV (As := [.int y_2, .int y_4, .int y_6, .int y_8, .int y_10, .int y_12, .int y_14]) (rest := [.int r_15]) ⟨hx, hb, hml, hown, (lwC_X5_bothAt hts0)⟩ (kx_un (c_X5_bothAt_x l dC dI yh0 yg_row yg_many yg_loss yg_less yg_voteValue yg_voteNumber yg_allValue yg_allNumber yg_nodeL yg_nodeR yg_part yg_wasMany yg_wasLoss yg_wasValue yg_wasNumber yg_path yg_heavyValue yg_heavyTimes yg_fewest yg_which yg_met len slots u_thrown u_allMany u_nodes u_partMany u_pathMany u_heavyMany u_mostMet cyI f u_heavyValue u_heavyTimes y_2 y_4 y_6 y_8 y_10 y_12 y_14 H.size I0 I1 I2 I3)) (cwV 7 (lwC_X5_bothAt hts0) lwG_X5_bothAt rfl rfl rfl (by decide +kernel) ⟨Nat.le_of_ble_eq_true rfl, Nat.le_of_ble_eq_true rfl⟩) ⟨fun a U g mk q => by obtain ⟨q0, q1, qP, qK, qD⟩ := q; exact ⟨q0, q1, qP, va_K.moved (u := U) (U := U.calling g mk a) (Vm.Alike.refl U.vm) qK, qD⟩, kx_rc5 hKc hPc (q0 := 0) rfl, fun U hU hW => ⟨rfl, by rw [hU], by rw [hU]; exact hPc, va_K.moved hW.alike hKc, hDc.weaken (fun _ _ _ _ => trivial)⟩⟩ rfl rfl hl.1 rfl (lv_room (Nat.le_of_ble_eq_true rfl)) dL_law_1753 (lw_fitJ hj hL (Nat.le_of_ble_eq_true rfl) (Nat.le_of_ble_eq_true rfl))) hS (fun q _ h => hFc q h) hFc (fun r_55 u t H1 locs ht hvm w_55 hB hz1 hk1 hS => ?_)
  obtain ⟨o_56, o_57, o_58⟩ := u
  dsimp only at w_55 hB
  obtain ⟨hP1, hK1, hD1⟩ := hB
  rw [ht] at hP1
  have hK1 := va_K.moved hvm.symm hK1
  obtain ⟨hP, hD⟩ := kx_joinM (w2 := [kx_4 xm_ xq_row xq_t xt_ xh0 xk0 xw_ xz_ slots o_16, kx_2 xq_t xq_row xq_joined xq_from xq_to xq_size xq_lossOf xq_lessBy xq_value xq_number o_17 o_18, kx_0 xq_row xq_cell len, kx_a xq_cell cyI 160 f, kx_a xq_from cyI 319 o_19, kx_a xq_to cyI 319 o_20, kx_a xq_size cyI 319 o_21, kx_a xq_lossOf cyI 319 o_22, kx_a xq_lessBy cyI 319 o_23, kx_a xq_value cyI 1914 o_24, kx_a xq_number cyI 1914 o_25, kx_3 xq_joined xj_v xj_n o_26 o_27 o_28, kx_a xj_v cyI 12 o_29, kx_a xj_n cyI 12 o_30, kx_3 xh0 xa_v xa_n o_31 o_32 o_33, kx_a xa_v cyI 12 o_34, kx_a xa_n cyI 12 o_35, kx_3 xk0 xkv xkn o_36 o_37 o_38, kx_a xkv cyI 12 o_39, kx_a xkn cyI 12 o_40, kx_1 xt_ xt_k xt_o tk mo, kx_a xt_k cyI 160 fk, kx_a xt_o cyI 160 fq, kx_a xw_ cyI 160 fw, kx_a xz_ cyI 161 fz, kx_5 yh0 yg_row len slots 0 yg_many yg_loss yg_less yg_voteValue yg_voteNumber yg_allValue yg_allNumber u_allMany yg_nodeL yg_nodeR u_nodes yg_part u_partMany yg_wasMany yg_wasLoss yg_wasValue yg_wasNumber yg_path u_pathMany yg_heavyValue yg_heavyTimes o_56 yg_fewest yg_which yg_met u_mostMet, kx_a yg_row cyI 160 f, kx_a yg_many cyI 324 u_many, kx_a yg_loss cyI 324 u_loss, kx_a yg_less cyI 324 u_less, kx_a yg_voteValue cyI 1944 u_voteValue, kx_a yg_voteNumber cyI 1944 u_voteNumber, kx_a yg_allValue cyI 12 u_allValue, kx_a yg_allNumber cyI 12 u_allNumber, kx_a yg_nodeL cyI 320 u_nodeL, kx_a yg_nodeR cyI 320 u_nodeR, kx_a yg_part cyI 320 u_part, kx_a yg_wasMany cyI 320 u_wasMany, kx_a yg_wasLoss cyI 320 u_wasLoss, kx_a yg_wasValue cyI 1920 u_wasValue, kx_a yg_wasNumber cyI 1920 u_wasNumber, kx_a yg_path cyI 12 u_path, kx_a yg_heavyValue cyI 160 o_57, kx_a yg_heavyTimes cyI 160 o_58, kx_a yg_fewest cyI 161 u_fewest, kx_a yg_which cyI 160 u_which, kx_a yg_met cyI 160 u_met, (q_o, .inl (cyL, 1, .inr (.inl ol)))]) hP hD hP1 hD1 hk1 hFc [false, false, false, false, false, false, false, false, false, false, false, false, false, false, false, false, false, false, false, false, false, false, false, false, false, true, true, false, false, false, false, false, false, false, false, false, false, false, false, false, false, false, true, true, false, false, false, false] hCc rfl
  clear hP1 hD1 hK1 hk1 hz1 hFc hDc hPc hKc hCc
  generalize H1 = H at hP hS ⊢
  have w_55 : (((0 ≤ y_2.toInt ∧ y_2.toInt < y_4.toInt ∧ y_4.toInt ≤ len.toInt ∧ 0 ≤ y_6.toInt ∧ y_6.toInt < y_8.toInt ∧ y_8.toInt ≤ len.toInt ∧ 1 ≤ y_10.toInt ∧ y_10.toInt ≤ y_12.toInt ∧ y_12.toInt ≤ 999 ∧ y_12.toInt ≤ y_10.toInt * (slots.toInt + 1) ∧ (y_8.toInt ≤ y_2.toInt ∨ y_4.toInt ≤ y_6.toInt)) ∧ mj_vs o_57 o_58 0 o_56.toNatClampNeg (mj_hvm y_10.toInt y_12.toInt (y_4.toInt - y_2.toInt + y_8.toInt - y_6.toInt) (fun v => (cnt f v y_2.toNatClampNeg (y_4.toInt - y_2.toInt).toNat : Int) + (cnt f v y_6.toNatClampNeg ((y_8.toInt : Int) - y_6.toInt).toNat : Int))) ∧ mj_srt o_57 o_58 0 o_56.toNatClampNeg ∧ 0 ≤ o_56.toInt ∧ o_56.toInt ≤ 160 ∧ ((0 ≤ y_14.toInt ∧ y_14.toInt < o_56.toInt ∧ r_55 = o_57 y_14.toNatClampNeg) ∨ ((y_14.toInt < 0 ∨ o_56.toInt ≤ y_14.toInt) ∧ r_55 = -40000))) ∨ ((((y_2.toInt < 0 ∨ y_4.toInt ≤ y_2.toInt ∨ len.toInt < y_4.toInt) ∨ (y_6.toInt < 0 ∨ y_8.toInt ≤ y_6.toInt ∨ len.toInt < y_8.toInt) ∨ y_10.toInt < 1 ∨ y_12.toInt < y_10.toInt ∨ 999 < y_12.toInt) ∨ (0 ≤ y_2.toInt ∧ y_2.toInt < y_4.toInt ∧ y_4.toInt ≤ len.toInt ∧ 0 ≤ y_6.toInt ∧ y_6.toInt < y_8.toInt ∧ y_8.toInt ≤ len.toInt ∧ 1 ≤ y_10.toInt ∧ y_10.toInt ≤ y_12.toInt ∧ y_12.toInt ≤ 999 ∧ y_10.toInt * (slots.toInt + 1) < y_12.toInt) ∨ (0 ≤ y_2.toInt ∧ y_2.toInt < y_4.toInt ∧ y_4.toInt ≤ len.toInt ∧ 0 ≤ y_6.toInt ∧ y_6.toInt < y_8.toInt ∧ y_8.toInt ≤ len.toInt ∧ 1 ≤ y_10.toInt ∧ y_10.toInt ≤ y_12.toInt ∧ y_12.toInt ≤ 999 ∧ y_12.toInt ≤ y_10.toInt * (slots.toInt + 1) ∧ y_2.toInt < y_8.toInt ∧ y_6.toInt < y_4.toInt)) ∧ r_55 = -40000)) := w_55
  refine lv_icmp_eq (tgt := 2288) hx hb dL_law_1756 (by decide) (fun c_59 => ?_) (fun c_59 => ?_)
  · have i_59 : r_15.toInt = r_55.toInt := kc_eq c_59
    obtain ⟨x_60, ex_60⟩ : ∃ y : Int32, y = ix + 8 := ⟨_, rfl⟩
    have i_60 : x_60.toInt = ix.toInt + 8 := ki_add ex_60 rfl rfl (om_578 hix hj0) (om_579 hix hjI hLI)
    refine lv_iinc (v := x_60) (lv' := [(4, .int x_60), (3, .ref q_o), (2, .ref yh0), (1, .ref xm_), (0, .ref b)]) hx hb dL_law_2288 hl (k := 0) rfl (by rw [ex_60]; rfl) (by decide) rfl (fun ls hl => ?_)
    refine lv_goto (tgt := 23) hx hb dL_law_2291 (by decide) ?_
    refine W.widen (k := 60 + 2 * (j + 1)) (n := 20000 + 12 * (j + 1)) (lw_wdC (k := 0) (Nat.le_of_ble_eq_true rfl)) (lw_wdS (k := 0) (Nat.le_of_ble_eq_true rfl)) ?_
    have k_61 : (0 : Int32).toInt = 0 := rfl
    exact ih len slots o_16 o_17 o_18 o_26 o_27 o_28 o_31 o_32 o_33 o_36 o_37 o_38 tk mo 0 u_allMany u_nodes u_partMany u_pathMany o_56 u_mostMet f o_19 o_20 o_21 o_22 o_23 o_24 o_25 o_29 o_30 o_34 o_35 o_39 o_40 fk fq fw fz u_many u_loss u_less u_voteValue u_voteNumber u_allValue u_allNumber u_nodeL u_nodeR u_part u_wasMany u_wasLoss u_wasValue u_wasNumber u_path o_57 o_58 u_fewest u_which u_met ol x_60 (om_ix i_60 hix) I0 I1 I2 I3 I4 w_15.2.2 w_15.2.1 I7 I8 _ _ ls hP hD hS (lv_sub hl [0, 1, 2, 3, 4] rfl)
  · have i_59 : ¬ r_15.toInt = r_55.toInt := kc_ne c_59
    refine lv_iconst (v := 0) hx hb dL_law_1759 (by decide) ?_
    exfalso
    refine c_59 ?_
    rcases w_15.1 with ⟨a1, a2, a3, a4, a5, a6⟩ | ⟨a1, a2⟩ <;> rcases w_55 with ⟨b1, b3, b4, b5, b6, b7⟩ | ⟨b1, b2⟩
    · have u9 := mj_vs_size a3 a4 b3 b4; have u8 := u9.1; have n1 := ki_nat o_31 rfl a5; have n2 := ki_nat o_56 rfl b5; rcases a6 with ⟨x1, x2⟩ | ⟨x1, x2⟩ <;> rcases b7 with ⟨y0, y1, y2⟩ | ⟨y1, y2⟩ <;> first | (exfalso; omega) | (rw [x2, y2]; done) | (exact mj_hb_uni u9.2 x2 y2 (by omega) (by omega))
    · exfalso; omega
    · rcases b7 with ⟨y0, y1, y2⟩ | ⟨y1, y2⟩ <;> first | (exfalso; omega) | (rw [a2, y2])
    · rw [a2, b2]

set_option maxHeartbeats 4000000 in
set_option maxRecDepth 100000 in
theorem lc_33 {p : Program} {l : Launch} {e : Env} {s : State} {m : MethodId} {below : List Frame} {meth : Method} {c : Code} {dC : Nat → ClassId} {dI : Nat → Nat → Nat} {b : Nat} {xs : Nat → Int32} (hl0 : l.stackTraces = false) {L j : Nat} (hL : L ≤ 4096) (hj : 8 * j + 8 ≤ L) (C0 : lw_At p s m meth c b L xs) (hth : ki_ThA (fun q : Nat => s.heap.size ≤ q) s) {cyI cyL : ClassId} {xm_ xq_t xq_row xq_cell xq_from xq_to xq_size xq_lossOf xq_lessBy xq_value xq_number xq_joined xj_v xj_n xh0 xa_v xa_n xk0 xkv xkn xt_ xt_k xt_o xw_ xz_ yh0 yg_row yg_many yg_loss yg_less yg_voteValue yg_voteNumber yg_allValue yg_allNumber yg_nodeL yg_nodeR yg_part yg_wasMany yg_wasLoss yg_wasValue yg_wasNumber yg_path yg_heavyValue yg_heavyTimes yg_fewest yg_which yg_met q_o : Nat} (hK : va_K (dC, dI) vwCl [(cyI, .int), (cyL, .long)] s) (ih : lw_G p l e s m below meth c b dC dI cyI cyL xm_ xq_t xq_row xq_cell xq_from xq_to xq_size xq_lossOf xq_lessBy xq_value xq_number xq_joined xj_v xj_n xh0 xa_v xa_n xk0 xkv xkn xt_ xt_k xt_o xw_ xz_ yh0 yg_row yg_many yg_loss yg_less yg_voteValue yg_voteNumber yg_allValue yg_allNumber yg_nodeL yg_nodeR yg_part yg_wasMany yg_wasLoss yg_wasValue yg_wasNumber yg_path yg_heavyValue yg_heavyTimes yg_fewest yg_which yg_met q_o (j + 1)) {len slots old nodes here js jl je vs lo le sb lb eb tk mo u_thrown u_allMany u_nodes u_partMany u_pathMany u_heavyMany u_mostMet ix : Int32} {f ff ft fs fo fe uv un jv jn fv fn gb nb fk fq fw fz u_many u_loss u_less u_voteValue u_voteNumber u_allValue u_allNumber u_nodeL u_nodeR u_part u_wasMany u_wasLoss u_wasValue u_wasNumber u_path u_heavyValue u_heavyTimes u_fewest u_which u_met : Nat → Int32} {ol : Nat → Int64} (hix : ix.toInt = 8 * (j : Int)) (I0 : 0 ≤ len.toInt) (I1 : len.toInt ≤ 160) (I2 : 1 ≤ slots.toInt) (I3 : slots.toInt ≤ 6) (I4 : shorts f) (I5 : sixes fs) (I6 : laidX old slots here f ff ft fs fo fe uv un nodes len) (I7 : six4 u_many) (I8 : parts320 u_part) {H : Heap} {locs : List Loc} (hP : va_P (dC, dI) vwCl [kx_4 xm_ xq_row xq_t xt_ xh0 xk0 xw_ xz_ slots old, kx_2 xq_t xq_row xq_joined xq_from xq_to xq_size xq_lossOf xq_lessBy xq_value xq_number nodes here, kx_0 xq_row xq_cell len, kx_a xq_cell cyI 160 f, kx_a xq_from cyI 319 ff, kx_a xq_to cyI 319 ft, kx_a xq_size cyI 319 fs, kx_a xq_lossOf cyI 319 fo, kx_a xq_lessBy cyI 319 fe, kx_a xq_value cyI 1914 uv, kx_a xq_number cyI 1914 un, kx_3 xq_joined xj_v xj_n js jl je, kx_a xj_v cyI 12 jv, kx_a xj_n cyI 12 jn, kx_3 xh0 xa_v xa_n vs lo le, kx_a xa_v cyI 12 fv, kx_a xa_n cyI 12 fn, kx_3 xk0 xkv xkn sb lb eb, kx_a xkv cyI 12 gb, kx_a xkn cyI 12 nb, kx_1 xt_ xt_k xt_o tk mo, kx_a xt_k cyI 160 fk, kx_a xt_o cyI 160 fq, kx_a xw_ cyI 160 fw, kx_a xz_ cyI 161 fz, kx_5 yh0 yg_row len slots u_thrown yg_many yg_loss yg_less yg_voteValue yg_voteNumber yg_allValue yg_allNumber u_allMany yg_nodeL yg_nodeR u_nodes yg_part u_partMany yg_wasMany yg_wasLoss yg_wasValue yg_wasNumber yg_path u_pathMany yg_heavyValue yg_heavyTimes u_heavyMany yg_fewest yg_which yg_met u_mostMet, kx_a yg_row cyI 160 f, kx_a yg_many cyI 324 u_many, kx_a yg_loss cyI 324 u_loss, kx_a yg_less cyI 324 u_less, kx_a yg_voteValue cyI 1944 u_voteValue, kx_a yg_voteNumber cyI 1944 u_voteNumber, kx_a yg_allValue cyI 12 u_allValue, kx_a yg_allNumber cyI 12 u_allNumber, kx_a yg_nodeL cyI 320 u_nodeL, kx_a yg_nodeR cyI 320 u_nodeR, kx_a yg_part cyI 320 u_part, kx_a yg_wasMany cyI 320 u_wasMany, kx_a yg_wasLoss cyI 320 u_wasLoss, kx_a yg_wasValue cyI 1920 u_wasValue, kx_a yg_wasNumber cyI 1920 u_wasNumber, kx_a yg_path cyI 12 u_path, kx_a yg_heavyValue cyI 160 u_heavyValue, kx_a yg_heavyTimes cyI 160 u_heavyTimes, kx_a yg_fewest cyI 161 u_fewest, kx_a yg_which cyI 160 u_which, kx_a yg_met cyI 160 u_met, (q_o, .inl (cyL, 1, .inr (.inl ol)))] H) (hD : va_D (fun q : Nat => s.heap.size ≤ q) [kx_4 xm_ xq_row xq_t xt_ xh0 xk0 xw_ xz_ slots old, kx_2 xq_t xq_row xq_joined xq_from xq_to xq_size xq_lossOf xq_lessBy xq_value xq_number nodes here, kx_0 xq_row xq_cell len, kx_a xq_cell cyI 160 f, kx_a xq_from cyI 319 ff, kx_a xq_to cyI 319 ft, kx_a xq_size cyI 319 fs, kx_a xq_lossOf cyI 319 fo, kx_a xq_lessBy cyI 319 fe, kx_a xq_value cyI 1914 uv, kx_a xq_number cyI 1914 un, kx_3 xq_joined xj_v xj_n js jl je, kx_a xj_v cyI 12 jv, kx_a xj_n cyI 12 jn, kx_3 xh0 xa_v xa_n vs lo le, kx_a xa_v cyI 12 fv, kx_a xa_n cyI 12 fn, kx_3 xk0 xkv xkn sb lb eb, kx_a xkv cyI 12 gb, kx_a xkn cyI 12 nb, kx_1 xt_ xt_k xt_o tk mo, kx_a xt_k cyI 160 fk, kx_a xt_o cyI 160 fq, kx_a xw_ cyI 160 fw, kx_a xz_ cyI 161 fz, kx_5 yh0 yg_row len slots u_thrown yg_many yg_loss yg_less yg_voteValue yg_voteNumber yg_allValue yg_allNumber u_allMany yg_nodeL yg_nodeR u_nodes yg_part u_partMany yg_wasMany yg_wasLoss yg_wasValue yg_wasNumber yg_path u_pathMany yg_heavyValue yg_heavyTimes u_heavyMany yg_fewest yg_which yg_met u_mostMet, kx_a yg_row cyI 160 f, kx_a yg_many cyI 324 u_many, kx_a yg_loss cyI 324 u_loss, kx_a yg_less cyI 324 u_less, kx_a yg_voteValue cyI 1944 u_voteValue, kx_a yg_voteNumber cyI 1944 u_voteNumber, kx_a yg_allValue cyI 12 u_allValue, kx_a yg_allNumber cyI 12 u_allNumber, kx_a yg_nodeL cyI 320 u_nodeL, kx_a yg_nodeR cyI 320 u_nodeR, kx_a yg_part cyI 320 u_part, kx_a yg_wasMany cyI 320 u_wasMany, kx_a yg_wasLoss cyI 320 u_wasLoss, kx_a yg_wasValue cyI 1920 u_wasValue, kx_a yg_wasNumber cyI 1920 u_wasNumber, kx_a yg_path cyI 12 u_path, kx_a yg_heavyValue cyI 160 u_heavyValue, kx_a yg_heavyTimes cyI 160 u_heavyTimes, kx_a yg_fewest cyI 161 u_fewest, kx_a yg_which cyI 160 u_which, kx_a yg_met cyI 160 u_met, (q_o, .inl (cyL, 1, .inr (.inl ol)))]) (hS : va_S (fun q : Nat => s.heap.size ≤ q) s.heap H locs) {ls : Array Slot} (hl : lv_has ls 7 [(4, .int ix), (3, .ref q_o), (2, .ref yh0), (1, .ref xm_), (0, .ref b)]) : W p l e room_1 s m #[Value.ref b] below meth c H locs (60 + 2 * j) (20000 + 12 * j) (lw_Z below #[Value.ref b] s) (F0 m 1761 ls []) := by
  obtain ⟨hx, hb, hr, hml, hown, hts0, hX, hbl, hlocks, hgv⟩ := id C0
  have hts := hts0
  have hA : ∀ q : Nat, s.heap.size ≤ q → (fun q : Nat => s.heap.size ≤ q) q := fun _ h => h
  have hbA : ¬ (fun q : Nat => s.heap.size ≤ q) b := Nat.not_le.mpr hbl
  have hown : s.vm.findClass RL = some m.cls := hown
  have hb : c.code = cL_law := hb
  have hj0 : 0 ≤ (j : Int) := Int.natCast_nonneg j
  have hjI : 8 * (j : Int) + 8 ≤ (L : Int) := lw_jI hj
  have hLI : (L : Int) ≤ 4096 := lw_LI hL
  refine lv_aload_n hx hb dL_law_1761 rfl (lv_at hl 3 rfl) ?_
  refine lv_aload_n hx hb dL_law_1762 rfl (lv_at hl 4 rfl) ?_
  refine lv_iload hx hb dL_law_1763 (lv_at hl 0 rfl) ?_
  refine lv_iconst (v := 1) hx hb dL_law_1765 (by decide) ?_
  refine lv_iadd hx hb dL_law_1766 ?_
  refine lv_topi (fun y_1 ey_1 => ?_)
  have i_1 : y_1.toInt = ix.toInt + 1 := ki_add ey_1 rfl rfl (om_568 hix hj0) (om_569 hix hjI hLI)
  refine va_sld hx hb hX hbl hbA hS (i := y_1) (ki_in (om_570 hix hj0 i_1) (om_571 hix hjI i_1)) dL_law_1767 ?_
  refine lv_topi (fun y_2 ey_2 => ?_)
  refine lv_aload_n hx hb dL_law_1768 rfl (lv_at hl 4 rfl) ?_
  refine lv_iload hx hb dL_law_1769 (lv_at hl 0 rfl) ?_
  refine lv_iconst (v := 2) hx hb dL_law_1771 (by decide) ?_
  refine lv_iadd hx hb dL_law_1772 ?_
  refine lv_topi (fun y_3 ey_3 => ?_)
  have i_3 : y_3.toInt = ix.toInt + 2 := ki_add ey_3 rfl rfl (om_572 hix hj0) (om_573 hix hjI hLI)
  refine va_sld hx hb hX hbl hbA hS (i := y_3) (ki_in (om_574 hix hj0 i_3) (om_575 hix hjI i_3)) dL_law_1773 ?_
  refine lv_topi (fun y_4 ey_4 => ?_)
  refine lv_aload_n hx hb dL_law_1774 rfl (lv_at hl 4 rfl) ?_
  refine lv_iload hx hb dL_law_1775 (lv_at hl 0 rfl) ?_
  refine lv_iconst (v := 3) hx hb dL_law_1777 (by decide) ?_
  refine lv_iadd hx hb dL_law_1778 ?_
  refine lv_topi (fun y_5 ey_5 => ?_)
  have i_5 : y_5.toInt = ix.toInt + 3 := ki_add ey_5 rfl rfl (om_580 hix hj0) (om_581 hix hjI hLI)
  refine va_sld hx hb hX hbl hbA hS (i := y_5) (ki_in (om_582 hix hj0 i_5) (om_583 hix hjI i_5)) dL_law_1779 ?_
  refine lv_topi (fun y_6 ey_6 => ?_)
  refine lv_aload_n hx hb dL_law_1780 rfl (lv_at hl 4 rfl) ?_
  refine lv_iload hx hb dL_law_1781 (lv_at hl 0 rfl) ?_
  refine lv_iconst (v := 4) hx hb dL_law_1783 (by decide) ?_
  refine lv_iadd hx hb dL_law_1784 ?_
  refine lv_topi (fun y_7 ey_7 => ?_)
  have i_7 : y_7.toInt = ix.toInt + 4 := ki_add ey_7 rfl rfl (om_585 hix hj0) (om_586 hix hjI hLI)
  refine va_sld hx hb hX hbl hbA hS (i := y_7) (ki_in (om_587 hix hj0 i_7) (om_588 hix hjI i_7)) dL_law_1785 ?_
  refine lv_topi (fun y_8 ey_8 => ?_)
  have hPc := hP.sub (ws' := [kx_4 xm_ xq_row xq_t xt_ xh0 xk0 xw_ xz_ slots old, kx_0 xq_row xq_cell len, kx_a xq_cell cyI 160 f]) [0, 2, 3] rfl
  have hKc := hK.sub (tys' := [(cyI, .int)]) [0] rfl
  refine vp_callSi (W.runV (As := [.int y_2, .int y_4, .int y_6, .int y_8]) (rest := []) ⟨hx, hb, hml, hown, (lwC_X4_longest hts0)⟩ (c_X4_longest l dC dI xm_ xq_row xq_t xt_ xh0 xk0 xw_ xz_ slots old xq_cell cyI len f y_2 y_4 y_6 y_8 I0 I1) (cwV 4 (lwC_X4_longest hts0) lwG_X4_longest rfl rfl rfl (by decide +kernel) ⟨Nat.le_of_ble_eq_true rfl, Nat.le_of_ble_eq_true rfl⟩) ⟨fun a U g mk q => by obtain ⟨q0, qP, qK⟩ := q; exact ⟨q0, qP, va_K.moved (u := U) (U := U.calling g mk a) (Vm.Alike.refl U.vm) qK⟩, kx_rc4 hKc hPc (q0 := 0) rfl, fun U hU hW => ⟨rfl, by rw [hU]; exact hPc, va_K.moved hW.alike hKc⟩⟩ rfl rfl hl.1 rfl (lv_room (Nat.le_of_ble_eq_true rfl)) dL_law_1786 (lw_fitJ hj hL (Nat.le_of_ble_eq_true rfl) (Nat.le_of_ble_eq_true rfl))) (fun r_9 w_9 => ?_)
  refine lv_pop hx hb dL_law_1789 rfl ?_
  refine lv_aload_n hx hb dL_law_1790 rfl (lv_at hl 2 rfl) ?_
  refine lv_aload_n hx hb dL_law_1791 rfl (lv_at hl 4 rfl) ?_
  refine lv_iload hx hb dL_law_1792 (lv_at hl 0 rfl) ?_
  refine lv_iconst (v := 1) hx hb dL_law_1794 (by decide) ?_
  refine lv_iadd hx hb dL_law_1795 ?_
  refine lv_topi (fun y_10 ey_10 => ?_)
  have i_10 : y_10.toInt = ix.toInt + 1 := ki_add ey_10 rfl rfl (om_568 hix hj0) (om_569 hix hjI hLI)
  refine va_sld hx hb hX hbl hbA hS (i := y_10) (ki_in (om_570 hix hj0 i_10) (om_571 hix hjI i_10)) dL_law_1796 ?_
  refine lv_topi (fun y_11 ey_11 => ?_)
  have qy_11 : y_2 = y_11 := by rw [ey_2, ey_11, ki_nateq (show y_1.toInt = y_10.toInt from (om_576 i_1 i_10))]
  subst qy_11
  refine lv_aload_n hx hb dL_law_1797 rfl (lv_at hl 4 rfl) ?_
  refine lv_iload hx hb dL_law_1798 (lv_at hl 0 rfl) ?_
  refine lv_iconst (v := 2) hx hb dL_law_1800 (by decide) ?_
  refine lv_iadd hx hb dL_law_1801 ?_
  refine lv_topi (fun y_12 ey_12 => ?_)
  have i_12 : y_12.toInt = ix.toInt + 2 := ki_add ey_12 rfl rfl (om_572 hix hj0) (om_573 hix hjI hLI)
  refine va_sld hx hb hX hbl hbA hS (i := y_12) (ki_in (om_574 hix hj0 i_12) (om_575 hix hjI i_12)) dL_law_1802 ?_
  refine lv_topi (fun y_13 ey_13 => ?_)
  have qy_13 : y_4 = y_13 := by rw [ey_4, ey_13, ki_nateq (show y_3.toInt = y_12.toInt from (om_577 i_3 i_12))]
  subst qy_13
  refine lv_aload_n hx hb dL_law_1803 rfl (lv_at hl 4 rfl) ?_
  refine lv_iload hx hb dL_law_1804 (lv_at hl 0 rfl) ?_
  refine lv_iconst (v := 3) hx hb dL_law_1806 (by decide) ?_
  refine lv_iadd hx hb dL_law_1807 ?_
  refine lv_topi (fun y_14 ey_14 => ?_)
  have i_14 : y_14.toInt = ix.toInt + 3 := ki_add ey_14 rfl rfl (om_580 hix hj0) (om_581 hix hjI hLI)
  refine va_sld hx hb hX hbl hbA hS (i := y_14) (ki_in (om_582 hix hj0 i_14) (om_583 hix hjI i_14)) dL_law_1808 ?_
  refine lv_topi (fun y_15 ey_15 => ?_)
  have qy_15 : y_6 = y_15 := by rw [ey_6, ey_15, ki_nateq (show y_5.toInt = y_14.toInt from (om_584 i_5 i_14))]
  subst qy_15
  refine lv_aload_n hx hb dL_law_1809 rfl (lv_at hl 4 rfl) ?_
  refine lv_iload hx hb dL_law_1810 (lv_at hl 0 rfl) ?_
  refine lv_iconst (v := 4) hx hb dL_law_1812 (by decide) ?_
  refine lv_iadd hx hb dL_law_1813 ?_
  refine lv_topi (fun y_16 ey_16 => ?_)
  have i_16 : y_16.toInt = ix.toInt + 4 := ki_add ey_16 rfl rfl (om_585 hix hj0) (om_586 hix hjI hLI)
  refine va_sld hx hb hX hbl hbA hS (i := y_16) (ki_in (om_587 hix hj0 i_16) (om_588 hix hjI i_16)) dL_law_1814 ?_
  refine lv_topi (fun y_17 ey_17 => ?_)
  have qy_17 : y_8 = y_17 := by rw [ey_8, ey_17, ki_nateq (show y_7.toInt = y_16.toInt from (om_589 i_7 i_16))]
  subst qy_17
  obtain ⟨hPc, hDc, hFc, hCc⟩ := kx_preM (wc := [kx_5 yh0 yg_row len slots u_thrown yg_many yg_loss yg_less yg_voteValue yg_voteNumber yg_allValue yg_allNumber u_allMany yg_nodeL yg_nodeR u_nodes yg_part u_partMany yg_wasMany yg_wasLoss yg_wasValue yg_wasNumber yg_path u_pathMany yg_heavyValue yg_heavyTimes u_heavyMany yg_fewest yg_which yg_met u_mostMet, kx_a yg_row cyI 160 f]) hP hD hS hA [false, false, false, false, false, false, false, false, false, false, false, false, false, false, false, false, false, false, false, false, false, false, false, false, false, true, true, false, false, false, false, false, false, false, false, false, false, false, false, false, false, false, false, false, false, false, false, false] rfl
  have hKc := hK.sub (tys' := [(cyI, .int)]) [0] rfl
  refine va_calli (va_runV (As := [.int y_2, .int y_4, .int y_6, .int y_8]) (rest := []) ⟨hx, hb, hml, hown, (lwC_X5_longest hts0)⟩ (kx_un (c_X5_longest l dC dI yh0 yg_row yg_many yg_loss yg_less yg_voteValue yg_voteNumber yg_allValue yg_allNumber yg_nodeL yg_nodeR yg_part yg_wasMany yg_wasLoss yg_wasValue yg_wasNumber yg_path yg_heavyValue yg_heavyTimes yg_fewest yg_which yg_met len slots u_thrown u_allMany u_nodes u_partMany u_pathMany u_heavyMany u_mostMet cyI f y_2 y_4 y_6 y_8 H.size I0 I1)) (cwV 4 (lwC_X5_longest hts0) lwG_X5_longest rfl rfl rfl (by decide +kernel) ⟨Nat.le_of_ble_eq_true rfl, Nat.le_of_ble_eq_true rfl⟩) ⟨fun a U g mk q => by obtain ⟨q0, q1, qP, qK, qD⟩ := q; exact ⟨q0, q1, qP, va_K.moved (u := U) (U := U.calling g mk a) (Vm.Alike.refl U.vm) qK, qD⟩, kx_rc5 hKc hPc (q0 := 0) rfl, fun U hU hW => ⟨rfl, by rw [hU], by rw [hU]; exact hPc, va_K.moved hW.alike hKc, hDc.weaken (fun _ _ _ _ => trivial)⟩⟩ rfl rfl hl.1 rfl (lv_room (Nat.le_of_ble_eq_true rfl)) dL_law_1815 (lw_fitJ hj hL (Nat.le_of_ble_eq_true rfl) (Nat.le_of_ble_eq_true rfl))) hS (fun q _ h => hFc q h) hFc (fun r_18 u t H1 locs ht hvm w_18 hB hz1 hk1 hS => ?_)
  obtain ⟨hP1, hK1, hD1⟩ := hB
  rw [ht] at hP1
  have hK1 := va_K.moved hvm.symm hK1
  obtain ⟨hP, hD⟩ := kx_joinM (w2 := [kx_4 xm_ xq_row xq_t xt_ xh0 xk0 xw_ xz_ slots old, kx_2 xq_t xq_row xq_joined xq_from xq_to xq_size xq_lossOf xq_lessBy xq_value xq_number nodes here, kx_0 xq_row xq_cell len, kx_a xq_cell cyI 160 f, kx_a xq_from cyI 319 ff, kx_a xq_to cyI 319 ft, kx_a xq_size cyI 319 fs, kx_a xq_lossOf cyI 319 fo, kx_a xq_lessBy cyI 319 fe, kx_a xq_value cyI 1914 uv, kx_a xq_number cyI 1914 un, kx_3 xq_joined xj_v xj_n js jl je, kx_a xj_v cyI 12 jv, kx_a xj_n cyI 12 jn, kx_3 xh0 xa_v xa_n vs lo le, kx_a xa_v cyI 12 fv, kx_a xa_n cyI 12 fn, kx_3 xk0 xkv xkn sb lb eb, kx_a xkv cyI 12 gb, kx_a xkn cyI 12 nb, kx_1 xt_ xt_k xt_o tk mo, kx_a xt_k cyI 160 fk, kx_a xt_o cyI 160 fq, kx_a xw_ cyI 160 fw, kx_a xz_ cyI 161 fz, kx_5 yh0 yg_row len slots 0 yg_many yg_loss yg_less yg_voteValue yg_voteNumber yg_allValue yg_allNumber u_allMany yg_nodeL yg_nodeR u_nodes yg_part u_partMany yg_wasMany yg_wasLoss yg_wasValue yg_wasNumber yg_path u_pathMany yg_heavyValue yg_heavyTimes u_heavyMany yg_fewest yg_which yg_met u_mostMet, kx_a yg_row cyI 160 f, kx_a yg_many cyI 324 u_many, kx_a yg_loss cyI 324 u_loss, kx_a yg_less cyI 324 u_less, kx_a yg_voteValue cyI 1944 u_voteValue, kx_a yg_voteNumber cyI 1944 u_voteNumber, kx_a yg_allValue cyI 12 u_allValue, kx_a yg_allNumber cyI 12 u_allNumber, kx_a yg_nodeL cyI 320 u_nodeL, kx_a yg_nodeR cyI 320 u_nodeR, kx_a yg_part cyI 320 u_part, kx_a yg_wasMany cyI 320 u_wasMany, kx_a yg_wasLoss cyI 320 u_wasLoss, kx_a yg_wasValue cyI 1920 u_wasValue, kx_a yg_wasNumber cyI 1920 u_wasNumber, kx_a yg_path cyI 12 u_path, kx_a yg_heavyValue cyI 160 u_heavyValue, kx_a yg_heavyTimes cyI 160 u_heavyTimes, kx_a yg_fewest cyI 161 u_fewest, kx_a yg_which cyI 160 u_which, kx_a yg_met cyI 160 u_met, (q_o, .inl (cyL, 1, .inr (.inl ol)))]) hP hD hP1 hD1 hk1 hFc [false, false, false, false, false, false, false, false, false, false, false, false, false, false, false, false, false, false, false, false, false, false, false, false, false, true, true, false, false, false, false, false, false, false, false, false, false, false, false, false, false, false, false, false, false, false, false, false] hCc rfl
  clear hP1 hD1 hK1 hk1 hz1 hFc hDc hPc hKc hCc
  generalize H1 = H at hP hS ⊢
  refine lv_pop hx hb dL_law_1818 rfl ?_
  refine lv_goto (tgt := 2288) hx hb dL_law_1819 (by decide) ?_
  obtain ⟨x_19, ex_19⟩ : ∃ y : Int32, y = ix + 8 := ⟨_, rfl⟩
  have i_19 : x_19.toInt = ix.toInt + 8 := ki_add ex_19 rfl rfl (om_578 hix hj0) (om_579 hix hjI hLI)
  refine lv_iinc (v := x_19) (lv' := [(4, .int x_19), (3, .ref q_o), (2, .ref yh0), (1, .ref xm_), (0, .ref b)]) hx hb dL_law_2288 hl (k := 0) rfl (by rw [ex_19]; rfl) (by decide) rfl (fun ls hl => ?_)
  refine lv_goto (tgt := 23) hx hb dL_law_2291 (by decide) ?_
  refine W.widen (k := 60 + 2 * (j + 1)) (n := 20000 + 12 * (j + 1)) (lw_wdC (k := 0) (Nat.le_of_ble_eq_true rfl)) (lw_wdS (k := 0) (Nat.le_of_ble_eq_true rfl)) ?_
  have k_20 : (0 : Int32).toInt = 0 := rfl
  exact ih len slots old nodes here js jl je vs lo le sb lb eb tk mo 0 u_allMany u_nodes u_partMany u_pathMany u_heavyMany u_mostMet f ff ft fs fo fe uv un jv jn fv fn gb nb fk fq fw fz u_many u_loss u_less u_voteValue u_voteNumber u_allValue u_allNumber u_nodeL u_nodeR u_part u_wasMany u_wasLoss u_wasValue u_wasNumber u_path u_heavyValue u_heavyTimes u_fewest u_which u_met ol x_19 (om_ix i_19 hix) I0 I1 I2 I3 I4 I5 I6 I7 I8 _ _ ls hP hD hS (lv_sub hl [0, 1, 2, 3, 4] rfl)

set_option maxHeartbeats 4000000 in
set_option maxRecDepth 100000 in
theorem lc_34 {p : Program} {l : Launch} {e : Env} {s : State} {m : MethodId} {below : List Frame} {meth : Method} {c : Code} {dC : Nat → ClassId} {dI : Nat → Nat → Nat} {b : Nat} {xs : Nat → Int32} (hl0 : l.stackTraces = false) {L j : Nat} (hL : L ≤ 4096) (hj : 8 * j + 8 ≤ L) (C0 : lw_At p s m meth c b L xs) (hth : ki_ThA (fun q : Nat => s.heap.size ≤ q) s) {cyI cyL : ClassId} {xm_ xq_t xq_row xq_cell xq_from xq_to xq_size xq_lossOf xq_lessBy xq_value xq_number xq_joined xj_v xj_n xh0 xa_v xa_n xk0 xkv xkn xt_ xt_k xt_o xw_ xz_ yh0 yg_row yg_many yg_loss yg_less yg_voteValue yg_voteNumber yg_allValue yg_allNumber yg_nodeL yg_nodeR yg_part yg_wasMany yg_wasLoss yg_wasValue yg_wasNumber yg_path yg_heavyValue yg_heavyTimes yg_fewest yg_which yg_met q_o : Nat} (hK : va_K (dC, dI) vwCl [(cyI, .int), (cyL, .long)] s) (ih : lw_G p l e s m below meth c b dC dI cyI cyL xm_ xq_t xq_row xq_cell xq_from xq_to xq_size xq_lossOf xq_lessBy xq_value xq_number xq_joined xj_v xj_n xh0 xa_v xa_n xk0 xkv xkn xt_ xt_k xt_o xw_ xz_ yh0 yg_row yg_many yg_loss yg_less yg_voteValue yg_voteNumber yg_allValue yg_allNumber yg_nodeL yg_nodeR yg_part yg_wasMany yg_wasLoss yg_wasValue yg_wasNumber yg_path yg_heavyValue yg_heavyTimes yg_fewest yg_which yg_met q_o (j + 1)) {len slots old nodes here js jl je vs lo le sb lb eb tk mo u_thrown u_allMany u_nodes u_partMany u_pathMany u_heavyMany u_mostMet ix : Int32} {f ff ft fs fo fe uv un jv jn fv fn gb nb fk fq fw fz u_many u_loss u_less u_voteValue u_voteNumber u_allValue u_allNumber u_nodeL u_nodeR u_part u_wasMany u_wasLoss u_wasValue u_wasNumber u_path u_heavyValue u_heavyTimes u_fewest u_which u_met : Nat → Int32} {ol : Nat → Int64} (hix : ix.toInt = 8 * (j : Int)) (I0 : 0 ≤ len.toInt) (I1 : len.toInt ≤ 160) (I2 : 1 ≤ slots.toInt) (I3 : slots.toInt ≤ 6) (I4 : shorts f) (I5 : sixes fs) (I6 : laidX old slots here f ff ft fs fo fe uv un nodes len) (I7 : six4 u_many) (I8 : parts320 u_part) {H : Heap} {locs : List Loc} (hP : va_P (dC, dI) vwCl [kx_4 xm_ xq_row xq_t xt_ xh0 xk0 xw_ xz_ slots old, kx_2 xq_t xq_row xq_joined xq_from xq_to xq_size xq_lossOf xq_lessBy xq_value xq_number nodes here, kx_0 xq_row xq_cell len, kx_a xq_cell cyI 160 f, kx_a xq_from cyI 319 ff, kx_a xq_to cyI 319 ft, kx_a xq_size cyI 319 fs, kx_a xq_lossOf cyI 319 fo, kx_a xq_lessBy cyI 319 fe, kx_a xq_value cyI 1914 uv, kx_a xq_number cyI 1914 un, kx_3 xq_joined xj_v xj_n js jl je, kx_a xj_v cyI 12 jv, kx_a xj_n cyI 12 jn, kx_3 xh0 xa_v xa_n vs lo le, kx_a xa_v cyI 12 fv, kx_a xa_n cyI 12 fn, kx_3 xk0 xkv xkn sb lb eb, kx_a xkv cyI 12 gb, kx_a xkn cyI 12 nb, kx_1 xt_ xt_k xt_o tk mo, kx_a xt_k cyI 160 fk, kx_a xt_o cyI 160 fq, kx_a xw_ cyI 160 fw, kx_a xz_ cyI 161 fz, kx_5 yh0 yg_row len slots u_thrown yg_many yg_loss yg_less yg_voteValue yg_voteNumber yg_allValue yg_allNumber u_allMany yg_nodeL yg_nodeR u_nodes yg_part u_partMany yg_wasMany yg_wasLoss yg_wasValue yg_wasNumber yg_path u_pathMany yg_heavyValue yg_heavyTimes u_heavyMany yg_fewest yg_which yg_met u_mostMet, kx_a yg_row cyI 160 f, kx_a yg_many cyI 324 u_many, kx_a yg_loss cyI 324 u_loss, kx_a yg_less cyI 324 u_less, kx_a yg_voteValue cyI 1944 u_voteValue, kx_a yg_voteNumber cyI 1944 u_voteNumber, kx_a yg_allValue cyI 12 u_allValue, kx_a yg_allNumber cyI 12 u_allNumber, kx_a yg_nodeL cyI 320 u_nodeL, kx_a yg_nodeR cyI 320 u_nodeR, kx_a yg_part cyI 320 u_part, kx_a yg_wasMany cyI 320 u_wasMany, kx_a yg_wasLoss cyI 320 u_wasLoss, kx_a yg_wasValue cyI 1920 u_wasValue, kx_a yg_wasNumber cyI 1920 u_wasNumber, kx_a yg_path cyI 12 u_path, kx_a yg_heavyValue cyI 160 u_heavyValue, kx_a yg_heavyTimes cyI 160 u_heavyTimes, kx_a yg_fewest cyI 161 u_fewest, kx_a yg_which cyI 160 u_which, kx_a yg_met cyI 160 u_met, (q_o, .inl (cyL, 1, .inr (.inl ol)))] H) (hD : va_D (fun q : Nat => s.heap.size ≤ q) [kx_4 xm_ xq_row xq_t xt_ xh0 xk0 xw_ xz_ slots old, kx_2 xq_t xq_row xq_joined xq_from xq_to xq_size xq_lossOf xq_lessBy xq_value xq_number nodes here, kx_0 xq_row xq_cell len, kx_a xq_cell cyI 160 f, kx_a xq_from cyI 319 ff, kx_a xq_to cyI 319 ft, kx_a xq_size cyI 319 fs, kx_a xq_lossOf cyI 319 fo, kx_a xq_lessBy cyI 319 fe, kx_a xq_value cyI 1914 uv, kx_a xq_number cyI 1914 un, kx_3 xq_joined xj_v xj_n js jl je, kx_a xj_v cyI 12 jv, kx_a xj_n cyI 12 jn, kx_3 xh0 xa_v xa_n vs lo le, kx_a xa_v cyI 12 fv, kx_a xa_n cyI 12 fn, kx_3 xk0 xkv xkn sb lb eb, kx_a xkv cyI 12 gb, kx_a xkn cyI 12 nb, kx_1 xt_ xt_k xt_o tk mo, kx_a xt_k cyI 160 fk, kx_a xt_o cyI 160 fq, kx_a xw_ cyI 160 fw, kx_a xz_ cyI 161 fz, kx_5 yh0 yg_row len slots u_thrown yg_many yg_loss yg_less yg_voteValue yg_voteNumber yg_allValue yg_allNumber u_allMany yg_nodeL yg_nodeR u_nodes yg_part u_partMany yg_wasMany yg_wasLoss yg_wasValue yg_wasNumber yg_path u_pathMany yg_heavyValue yg_heavyTimes u_heavyMany yg_fewest yg_which yg_met u_mostMet, kx_a yg_row cyI 160 f, kx_a yg_many cyI 324 u_many, kx_a yg_loss cyI 324 u_loss, kx_a yg_less cyI 324 u_less, kx_a yg_voteValue cyI 1944 u_voteValue, kx_a yg_voteNumber cyI 1944 u_voteNumber, kx_a yg_allValue cyI 12 u_allValue, kx_a yg_allNumber cyI 12 u_allNumber, kx_a yg_nodeL cyI 320 u_nodeL, kx_a yg_nodeR cyI 320 u_nodeR, kx_a yg_part cyI 320 u_part, kx_a yg_wasMany cyI 320 u_wasMany, kx_a yg_wasLoss cyI 320 u_wasLoss, kx_a yg_wasValue cyI 1920 u_wasValue, kx_a yg_wasNumber cyI 1920 u_wasNumber, kx_a yg_path cyI 12 u_path, kx_a yg_heavyValue cyI 160 u_heavyValue, kx_a yg_heavyTimes cyI 160 u_heavyTimes, kx_a yg_fewest cyI 161 u_fewest, kx_a yg_which cyI 160 u_which, kx_a yg_met cyI 160 u_met, (q_o, .inl (cyL, 1, .inr (.inl ol)))]) (hS : va_S (fun q : Nat => s.heap.size ≤ q) s.heap H locs) {ls : Array Slot} (hl : lv_has ls 7 [(4, .int ix), (3, .ref q_o), (2, .ref yh0), (1, .ref xm_), (0, .ref b)]) : W p l e room_1 s m #[Value.ref b] below meth c H locs (60 + 2 * j) (20000 + 12 * j) (lw_Z below #[Value.ref b] s) (F0 m 1822 ls []) := by
  obtain ⟨hx, hb, hr, hml, hown, hts0, hX, hbl, hlocks, hgv⟩ := id C0
  have hts := hts0
  have hA : ∀ q : Nat, s.heap.size ≤ q → (fun q : Nat => s.heap.size ≤ q) q := fun _ h => h
  have hbA : ¬ (fun q : Nat => s.heap.size ≤ q) b := Nat.not_le.mpr hbl
  have hown : s.vm.findClass RL = some m.cls := hown
  have hb : c.code = cL_law := hb
  have hj0 : 0 ≤ (j : Int) := Int.natCast_nonneg j
  have hjI : 8 * (j : Int) + 8 ≤ (L : Int) := lw_jI hj
  have hLI : (L : Int) ≤ 4096 := lw_LI hL
  refine lv_aload_n hx hb dL_law_1822 rfl (lv_at hl 3 rfl) ?_
  refine lv_aload_n hx hb dL_law_1823 rfl (lv_at hl 4 rfl) ?_
  refine lv_iload hx hb dL_law_1824 (lv_at hl 0 rfl) ?_
  refine lv_iconst (v := 1) hx hb dL_law_1826 (by decide) ?_
  refine lv_iadd hx hb dL_law_1827 ?_
  refine lv_topi (fun y_1 ey_1 => ?_)
  have i_1 : y_1.toInt = ix.toInt + 1 := ki_add ey_1 rfl rfl (om_568 hix hj0) (om_569 hix hjI hLI)
  refine va_sld hx hb hX hbl hbA hS (i := y_1) (ki_in (om_570 hix hj0 i_1) (om_571 hix hjI i_1)) dL_law_1828 ?_
  refine lv_topi (fun y_2 ey_2 => ?_)
  obtain ⟨hPc, hDc, hFc, hCc⟩ := kx_preM (wc := [kx_4 xm_ xq_row xq_t xt_ xh0 xk0 xw_ xz_ slots old, kx_0 xq_row xq_cell len, kx_a xq_cell cyI 160 f, kx_1 xt_ xt_k xt_o tk mo, kx_a xt_k cyI 160 fk, kx_a xt_o cyI 160 fq]) hP hD hS hA [true, false, true, true, false, false, false, false, false, false, false, false, false, false, false, false, false, false, false, false, true, true, true, false, false, false, false, false, false, false, false, false, false, false, false, false, false, false, false, false, false, false, false, false, false, false, false, false] rfl
  have hKc := hK.sub (tys' := [(cyI, .int)]) [0] rfl
  refine va_calli (va_runV (As := [.int y_2]) (rest := []) ⟨hx, hb, hml, hown, (lwC_X4_reach hts0)⟩ (kx_un (c_X4_reach l dC dI xm_ xq_row xq_t xt_ xh0 xk0 xw_ xz_ slots old xq_cell cyI len f xt_k xt_o tk mo fk fq y_2 H.size I0 I1)) (cwV 1 (lwC_X4_reach hts0) lwG_X4_reach rfl rfl rfl (by decide +kernel) ⟨Nat.le_of_ble_eq_true rfl, Nat.le_of_ble_eq_true rfl⟩) ⟨fun a U g mk q => by obtain ⟨q0, q1, qP, qK, qD⟩ := q; exact ⟨q0, q1, qP, va_K.moved (u := U) (U := U.calling g mk a) (Vm.Alike.refl U.vm) qK, qD⟩, kx_rc4 hKc hPc (q0 := 0) rfl, fun U hU hW => ⟨rfl, by rw [hU], by rw [hU]; exact hPc, va_K.moved hW.alike hKc, hDc.weaken (fun _ _ _ _ => trivial)⟩⟩ rfl rfl hl.1 rfl (lv_room (Nat.le_of_ble_eq_true rfl)) dL_law_1829 (lw_fitJ hj hL (Nat.le_of_ble_eq_true rfl) (Nat.le_of_ble_eq_true rfl))) hS (fun q _ h => hFc q h) hFc (fun r_3 u t H1 locs ht hvm w_3 hB hz1 hk1 hS => ?_)
  obtain ⟨o_4, o_5, o_6, o_7⟩ := u
  dsimp only at w_3 hB
  obtain ⟨hP1, hK1, hD1⟩ := hB
  rw [ht] at hP1
  have hK1 := va_K.moved hvm.symm hK1
  obtain ⟨hP, hD⟩ := kx_joinM (w2 := [kx_4 xm_ xq_row xq_t xt_ xh0 xk0 xw_ xz_ slots old, kx_2 xq_t xq_row xq_joined xq_from xq_to xq_size xq_lossOf xq_lessBy xq_value xq_number nodes here, kx_0 xq_row xq_cell len, kx_a xq_cell cyI 160 f, kx_a xq_from cyI 319 ff, kx_a xq_to cyI 319 ft, kx_a xq_size cyI 319 fs, kx_a xq_lossOf cyI 319 fo, kx_a xq_lessBy cyI 319 fe, kx_a xq_value cyI 1914 uv, kx_a xq_number cyI 1914 un, kx_3 xq_joined xj_v xj_n js jl je, kx_a xj_v cyI 12 jv, kx_a xj_n cyI 12 jn, kx_3 xh0 xa_v xa_n vs lo le, kx_a xa_v cyI 12 fv, kx_a xa_n cyI 12 fn, kx_3 xk0 xkv xkn sb lb eb, kx_a xkv cyI 12 gb, kx_a xkn cyI 12 nb, kx_1 xt_ xt_k xt_o o_4 o_5, kx_a xt_k cyI 160 o_6, kx_a xt_o cyI 160 o_7, kx_a xw_ cyI 160 fw, kx_a xz_ cyI 161 fz, kx_5 yh0 yg_row len slots u_thrown yg_many yg_loss yg_less yg_voteValue yg_voteNumber yg_allValue yg_allNumber u_allMany yg_nodeL yg_nodeR u_nodes yg_part u_partMany yg_wasMany yg_wasLoss yg_wasValue yg_wasNumber yg_path u_pathMany yg_heavyValue yg_heavyTimes u_heavyMany yg_fewest yg_which yg_met u_mostMet, kx_a yg_row cyI 160 f, kx_a yg_many cyI 324 u_many, kx_a yg_loss cyI 324 u_loss, kx_a yg_less cyI 324 u_less, kx_a yg_voteValue cyI 1944 u_voteValue, kx_a yg_voteNumber cyI 1944 u_voteNumber, kx_a yg_allValue cyI 12 u_allValue, kx_a yg_allNumber cyI 12 u_allNumber, kx_a yg_nodeL cyI 320 u_nodeL, kx_a yg_nodeR cyI 320 u_nodeR, kx_a yg_part cyI 320 u_part, kx_a yg_wasMany cyI 320 u_wasMany, kx_a yg_wasLoss cyI 320 u_wasLoss, kx_a yg_wasValue cyI 1920 u_wasValue, kx_a yg_wasNumber cyI 1920 u_wasNumber, kx_a yg_path cyI 12 u_path, kx_a yg_heavyValue cyI 160 u_heavyValue, kx_a yg_heavyTimes cyI 160 u_heavyTimes, kx_a yg_fewest cyI 161 u_fewest, kx_a yg_which cyI 160 u_which, kx_a yg_met cyI 160 u_met, (q_o, .inl (cyL, 1, .inr (.inl ol)))]) hP hD hP1 hD1 hk1 hFc [true, false, true, true, false, false, false, false, false, false, false, false, false, false, false, false, false, false, false, false, true, true, true, false, false, false, false, false, false, false, false, false, false, false, false, false, false, false, false, false, false, false, false, false, false, false, false, false] hCc rfl
  clear hP1 hD1 hK1 hk1 hz1 hFc hDc hPc hKc hCc
  generalize H1 = H at hP hS ⊢
  have w_3 : True := w_3
  refine lv_pop hx hb dL_law_1832 rfl ?_
  refine lv_aload_n hx hb dL_law_1833 rfl (lv_at hl 2 rfl) ?_
  refine lv_aload_n hx hb dL_law_1834 rfl (lv_at hl 4 rfl) ?_
  refine lv_iload hx hb dL_law_1835 (lv_at hl 0 rfl) ?_
  refine lv_iconst (v := 1) hx hb dL_law_1837 (by decide) ?_
  refine lv_iadd hx hb dL_law_1838 ?_
  refine lv_topi (fun y_8 ey_8 => ?_)
  have i_8 : y_8.toInt = ix.toInt + 1 := ki_add ey_8 rfl rfl (om_568 hix hj0) (om_569 hix hjI hLI)
  refine va_sld hx hb hX hbl hbA hS (i := y_8) (ki_in (om_570 hix hj0 i_8) (om_571 hix hjI i_8)) dL_law_1839 ?_
  refine lv_topi (fun y_9 ey_9 => ?_)
  have qy_9 : y_2 = y_9 := by rw [ey_2, ey_9, ki_nateq (show y_1.toInt = y_8.toInt from (om_576 i_1 i_8))]
  subst qy_9
  obtain ⟨hPc, hDc, hFc, hCc⟩ := kx_preM (wc := [kx_5 yh0 yg_row len slots u_thrown yg_many yg_loss yg_less yg_voteValue yg_voteNumber yg_allValue yg_allNumber u_allMany yg_nodeL yg_nodeR u_nodes yg_part u_partMany yg_wasMany yg_wasLoss yg_wasValue yg_wasNumber yg_path u_pathMany yg_heavyValue yg_heavyTimes u_heavyMany yg_fewest yg_which yg_met u_mostMet, kx_a yg_row cyI 160 f]) hP hD hS hA [false, false, false, false, false, false, false, false, false, false, false, false, false, false, false, false, false, false, false, false, false, false, false, false, false, true, true, false, false, false, false, false, false, false, false, false, false, false, false, false, false, false, false, false, false, false, false, false] rfl
  have hKc := hK.sub (tys' := [(cyI, .int)]) [0] rfl
  refine va_calli (va_runV (As := [.int y_2]) (rest := []) ⟨hx, hb, hml, hown, (lwC_X5_reach hts0)⟩ (kx_un (c_X5_reach l dC dI yh0 yg_row yg_many yg_loss yg_less yg_voteValue yg_voteNumber yg_allValue yg_allNumber yg_nodeL yg_nodeR yg_part yg_wasMany yg_wasLoss yg_wasValue yg_wasNumber yg_path yg_heavyValue yg_heavyTimes yg_fewest yg_which yg_met len slots u_thrown u_allMany u_nodes u_partMany u_pathMany u_heavyMany u_mostMet cyI f y_2 H.size I0 I1 I4)) (cwV 1 (lwC_X5_reach hts0) lwG_X5_reach rfl rfl rfl (by decide +kernel) ⟨Nat.le_of_ble_eq_true rfl, Nat.le_of_ble_eq_true rfl⟩) ⟨fun a U g mk q => by obtain ⟨q0, q1, qP, qK, qD⟩ := q; exact ⟨q0, q1, qP, va_K.moved (u := U) (U := U.calling g mk a) (Vm.Alike.refl U.vm) qK, qD⟩, kx_rc5 hKc hPc (q0 := 0) rfl, fun U hU hW => ⟨rfl, by rw [hU], by rw [hU]; exact hPc, va_K.moved hW.alike hKc, hDc.weaken (fun _ _ _ _ => trivial)⟩⟩ rfl rfl hl.1 rfl (lv_room (Nat.le_of_ble_eq_true rfl)) dL_law_1840 (lw_fitJ hj hL (Nat.le_of_ble_eq_true rfl) (Nat.le_of_ble_eq_true rfl))) hS (fun q _ h => hFc q h) hFc (fun r_10 u t H1 locs ht hvm w_10 hB hz1 hk1 hS => ?_)
  obtain ⟨hP1, hK1, hD1⟩ := hB
  rw [ht] at hP1
  have hK1 := va_K.moved hvm.symm hK1
  obtain ⟨hP, hD⟩ := kx_joinM (w2 := [kx_4 xm_ xq_row xq_t xt_ xh0 xk0 xw_ xz_ slots old, kx_2 xq_t xq_row xq_joined xq_from xq_to xq_size xq_lossOf xq_lessBy xq_value xq_number nodes here, kx_0 xq_row xq_cell len, kx_a xq_cell cyI 160 f, kx_a xq_from cyI 319 ff, kx_a xq_to cyI 319 ft, kx_a xq_size cyI 319 fs, kx_a xq_lossOf cyI 319 fo, kx_a xq_lessBy cyI 319 fe, kx_a xq_value cyI 1914 uv, kx_a xq_number cyI 1914 un, kx_3 xq_joined xj_v xj_n js jl je, kx_a xj_v cyI 12 jv, kx_a xj_n cyI 12 jn, kx_3 xh0 xa_v xa_n vs lo le, kx_a xa_v cyI 12 fv, kx_a xa_n cyI 12 fn, kx_3 xk0 xkv xkn sb lb eb, kx_a xkv cyI 12 gb, kx_a xkn cyI 12 nb, kx_1 xt_ xt_k xt_o o_4 o_5, kx_a xt_k cyI 160 o_6, kx_a xt_o cyI 160 o_7, kx_a xw_ cyI 160 fw, kx_a xz_ cyI 161 fz, kx_5 yh0 yg_row len slots 0 yg_many yg_loss yg_less yg_voteValue yg_voteNumber yg_allValue yg_allNumber u_allMany yg_nodeL yg_nodeR u_nodes yg_part u_partMany yg_wasMany yg_wasLoss yg_wasValue yg_wasNumber yg_path u_pathMany yg_heavyValue yg_heavyTimes u_heavyMany yg_fewest yg_which yg_met u_mostMet, kx_a yg_row cyI 160 f, kx_a yg_many cyI 324 u_many, kx_a yg_loss cyI 324 u_loss, kx_a yg_less cyI 324 u_less, kx_a yg_voteValue cyI 1944 u_voteValue, kx_a yg_voteNumber cyI 1944 u_voteNumber, kx_a yg_allValue cyI 12 u_allValue, kx_a yg_allNumber cyI 12 u_allNumber, kx_a yg_nodeL cyI 320 u_nodeL, kx_a yg_nodeR cyI 320 u_nodeR, kx_a yg_part cyI 320 u_part, kx_a yg_wasMany cyI 320 u_wasMany, kx_a yg_wasLoss cyI 320 u_wasLoss, kx_a yg_wasValue cyI 1920 u_wasValue, kx_a yg_wasNumber cyI 1920 u_wasNumber, kx_a yg_path cyI 12 u_path, kx_a yg_heavyValue cyI 160 u_heavyValue, kx_a yg_heavyTimes cyI 160 u_heavyTimes, kx_a yg_fewest cyI 161 u_fewest, kx_a yg_which cyI 160 u_which, kx_a yg_met cyI 160 u_met, (q_o, .inl (cyL, 1, .inr (.inl ol)))]) hP hD hP1 hD1 hk1 hFc [false, false, false, false, false, false, false, false, false, false, false, false, false, false, false, false, false, false, false, false, false, false, false, false, false, true, true, false, false, false, false, false, false, false, false, false, false, false, false, false, false, false, false, false, false, false, false, false] hCc rfl
  clear hP1 hD1 hK1 hk1 hz1 hFc hDc hPc hKc hCc
  generalize H1 = H at hP hS ⊢
  refine lv_pop hx hb dL_law_1843 rfl ?_
  refine lv_goto (tgt := 2288) hx hb dL_law_1844 (by decide) ?_
  obtain ⟨x_11, ex_11⟩ : ∃ y : Int32, y = ix + 8 := ⟨_, rfl⟩
  have i_11 : x_11.toInt = ix.toInt + 8 := ki_add ex_11 rfl rfl (om_578 hix hj0) (om_579 hix hjI hLI)
  refine lv_iinc (v := x_11) (lv' := [(4, .int x_11), (3, .ref q_o), (2, .ref yh0), (1, .ref xm_), (0, .ref b)]) hx hb dL_law_2288 hl (k := 0) rfl (by rw [ex_11]; rfl) (by decide) rfl (fun ls hl => ?_)
  refine lv_goto (tgt := 23) hx hb dL_law_2291 (by decide) ?_
  refine W.widen (k := 60 + 2 * (j + 1)) (n := 20000 + 12 * (j + 1)) (lw_wdC (k := 0) (Nat.le_of_ble_eq_true rfl)) (lw_wdS (k := 0) (Nat.le_of_ble_eq_true rfl)) ?_
  have k_12 : (0 : Int32).toInt = 0 := rfl
  exact ih len slots old nodes here js jl je vs lo le sb lb eb o_4 o_5 0 u_allMany u_nodes u_partMany u_pathMany u_heavyMany u_mostMet f ff ft fs fo fe uv un jv jn fv fn gb nb o_6 o_7 fw fz u_many u_loss u_less u_voteValue u_voteNumber u_allValue u_allNumber u_nodeL u_nodeR u_part u_wasMany u_wasLoss u_wasValue u_wasNumber u_path u_heavyValue u_heavyTimes u_fewest u_which u_met ol x_11 (om_ix i_11 hix) I0 I1 I2 I3 I4 I5 I6 I7 I8 _ _ ls hP hD hS (lv_sub hl [0, 1, 2, 3, 4] rfl)

set_option maxHeartbeats 4000000 in
set_option maxRecDepth 100000 in
theorem lc_35 {p : Program} {l : Launch} {e : Env} {s : State} {m : MethodId} {below : List Frame} {meth : Method} {c : Code} {dC : Nat → ClassId} {dI : Nat → Nat → Nat} {b : Nat} {xs : Nat → Int32} (hl0 : l.stackTraces = false) {L j : Nat} (hL : L ≤ 4096) (hj : 8 * j + 8 ≤ L) (C0 : lw_At p s m meth c b L xs) (hth : ki_ThA (fun q : Nat => s.heap.size ≤ q) s) {cyI cyL : ClassId} {xm_ xq_t xq_row xq_cell xq_from xq_to xq_size xq_lossOf xq_lessBy xq_value xq_number xq_joined xj_v xj_n xh0 xa_v xa_n xk0 xkv xkn xt_ xt_k xt_o xw_ xz_ yh0 yg_row yg_many yg_loss yg_less yg_voteValue yg_voteNumber yg_allValue yg_allNumber yg_nodeL yg_nodeR yg_part yg_wasMany yg_wasLoss yg_wasValue yg_wasNumber yg_path yg_heavyValue yg_heavyTimes yg_fewest yg_which yg_met q_o : Nat} (hK : va_K (dC, dI) vwCl [(cyI, .int), (cyL, .long)] s) (ih : lw_G p l e s m below meth c b dC dI cyI cyL xm_ xq_t xq_row xq_cell xq_from xq_to xq_size xq_lossOf xq_lessBy xq_value xq_number xq_joined xj_v xj_n xh0 xa_v xa_n xk0 xkv xkn xt_ xt_k xt_o xw_ xz_ yh0 yg_row yg_many yg_loss yg_less yg_voteValue yg_voteNumber yg_allValue yg_allNumber yg_nodeL yg_nodeR yg_part yg_wasMany yg_wasLoss yg_wasValue yg_wasNumber yg_path yg_heavyValue yg_heavyTimes yg_fewest yg_which yg_met q_o (j + 1)) {len slots old nodes here js jl je vs lo le sb lb eb tk mo u_thrown u_allMany u_nodes u_partMany u_pathMany u_heavyMany u_mostMet ix : Int32} {f ff ft fs fo fe uv un jv jn fv fn gb nb fk fq fw fz u_many u_loss u_less u_voteValue u_voteNumber u_allValue u_allNumber u_nodeL u_nodeR u_part u_wasMany u_wasLoss u_wasValue u_wasNumber u_path u_heavyValue u_heavyTimes u_fewest u_which u_met : Nat → Int32} {ol : Nat → Int64} (hix : ix.toInt = 8 * (j : Int)) (I0 : 0 ≤ len.toInt) (I1 : len.toInt ≤ 160) (I2 : 1 ≤ slots.toInt) (I3 : slots.toInt ≤ 6) (I4 : shorts f) (I5 : sixes fs) (I6 : laidX old slots here f ff ft fs fo fe uv un nodes len) (I7 : six4 u_many) (I8 : parts320 u_part) {H : Heap} {locs : List Loc} (hP : va_P (dC, dI) vwCl [kx_4 xm_ xq_row xq_t xt_ xh0 xk0 xw_ xz_ slots old, kx_2 xq_t xq_row xq_joined xq_from xq_to xq_size xq_lossOf xq_lessBy xq_value xq_number nodes here, kx_0 xq_row xq_cell len, kx_a xq_cell cyI 160 f, kx_a xq_from cyI 319 ff, kx_a xq_to cyI 319 ft, kx_a xq_size cyI 319 fs, kx_a xq_lossOf cyI 319 fo, kx_a xq_lessBy cyI 319 fe, kx_a xq_value cyI 1914 uv, kx_a xq_number cyI 1914 un, kx_3 xq_joined xj_v xj_n js jl je, kx_a xj_v cyI 12 jv, kx_a xj_n cyI 12 jn, kx_3 xh0 xa_v xa_n vs lo le, kx_a xa_v cyI 12 fv, kx_a xa_n cyI 12 fn, kx_3 xk0 xkv xkn sb lb eb, kx_a xkv cyI 12 gb, kx_a xkn cyI 12 nb, kx_1 xt_ xt_k xt_o tk mo, kx_a xt_k cyI 160 fk, kx_a xt_o cyI 160 fq, kx_a xw_ cyI 160 fw, kx_a xz_ cyI 161 fz, kx_5 yh0 yg_row len slots u_thrown yg_many yg_loss yg_less yg_voteValue yg_voteNumber yg_allValue yg_allNumber u_allMany yg_nodeL yg_nodeR u_nodes yg_part u_partMany yg_wasMany yg_wasLoss yg_wasValue yg_wasNumber yg_path u_pathMany yg_heavyValue yg_heavyTimes u_heavyMany yg_fewest yg_which yg_met u_mostMet, kx_a yg_row cyI 160 f, kx_a yg_many cyI 324 u_many, kx_a yg_loss cyI 324 u_loss, kx_a yg_less cyI 324 u_less, kx_a yg_voteValue cyI 1944 u_voteValue, kx_a yg_voteNumber cyI 1944 u_voteNumber, kx_a yg_allValue cyI 12 u_allValue, kx_a yg_allNumber cyI 12 u_allNumber, kx_a yg_nodeL cyI 320 u_nodeL, kx_a yg_nodeR cyI 320 u_nodeR, kx_a yg_part cyI 320 u_part, kx_a yg_wasMany cyI 320 u_wasMany, kx_a yg_wasLoss cyI 320 u_wasLoss, kx_a yg_wasValue cyI 1920 u_wasValue, kx_a yg_wasNumber cyI 1920 u_wasNumber, kx_a yg_path cyI 12 u_path, kx_a yg_heavyValue cyI 160 u_heavyValue, kx_a yg_heavyTimes cyI 160 u_heavyTimes, kx_a yg_fewest cyI 161 u_fewest, kx_a yg_which cyI 160 u_which, kx_a yg_met cyI 160 u_met, (q_o, .inl (cyL, 1, .inr (.inl ol)))] H) (hD : va_D (fun q : Nat => s.heap.size ≤ q) [kx_4 xm_ xq_row xq_t xt_ xh0 xk0 xw_ xz_ slots old, kx_2 xq_t xq_row xq_joined xq_from xq_to xq_size xq_lossOf xq_lessBy xq_value xq_number nodes here, kx_0 xq_row xq_cell len, kx_a xq_cell cyI 160 f, kx_a xq_from cyI 319 ff, kx_a xq_to cyI 319 ft, kx_a xq_size cyI 319 fs, kx_a xq_lossOf cyI 319 fo, kx_a xq_lessBy cyI 319 fe, kx_a xq_value cyI 1914 uv, kx_a xq_number cyI 1914 un, kx_3 xq_joined xj_v xj_n js jl je, kx_a xj_v cyI 12 jv, kx_a xj_n cyI 12 jn, kx_3 xh0 xa_v xa_n vs lo le, kx_a xa_v cyI 12 fv, kx_a xa_n cyI 12 fn, kx_3 xk0 xkv xkn sb lb eb, kx_a xkv cyI 12 gb, kx_a xkn cyI 12 nb, kx_1 xt_ xt_k xt_o tk mo, kx_a xt_k cyI 160 fk, kx_a xt_o cyI 160 fq, kx_a xw_ cyI 160 fw, kx_a xz_ cyI 161 fz, kx_5 yh0 yg_row len slots u_thrown yg_many yg_loss yg_less yg_voteValue yg_voteNumber yg_allValue yg_allNumber u_allMany yg_nodeL yg_nodeR u_nodes yg_part u_partMany yg_wasMany yg_wasLoss yg_wasValue yg_wasNumber yg_path u_pathMany yg_heavyValue yg_heavyTimes u_heavyMany yg_fewest yg_which yg_met u_mostMet, kx_a yg_row cyI 160 f, kx_a yg_many cyI 324 u_many, kx_a yg_loss cyI 324 u_loss, kx_a yg_less cyI 324 u_less, kx_a yg_voteValue cyI 1944 u_voteValue, kx_a yg_voteNumber cyI 1944 u_voteNumber, kx_a yg_allValue cyI 12 u_allValue, kx_a yg_allNumber cyI 12 u_allNumber, kx_a yg_nodeL cyI 320 u_nodeL, kx_a yg_nodeR cyI 320 u_nodeR, kx_a yg_part cyI 320 u_part, kx_a yg_wasMany cyI 320 u_wasMany, kx_a yg_wasLoss cyI 320 u_wasLoss, kx_a yg_wasValue cyI 1920 u_wasValue, kx_a yg_wasNumber cyI 1920 u_wasNumber, kx_a yg_path cyI 12 u_path, kx_a yg_heavyValue cyI 160 u_heavyValue, kx_a yg_heavyTimes cyI 160 u_heavyTimes, kx_a yg_fewest cyI 161 u_fewest, kx_a yg_which cyI 160 u_which, kx_a yg_met cyI 160 u_met, (q_o, .inl (cyL, 1, .inr (.inl ol)))]) (hS : va_S (fun q : Nat => s.heap.size ≤ q) s.heap H locs) {ls : Array Slot} (hl : lv_has ls 7 [(4, .int ix), (3, .ref q_o), (2, .ref yh0), (1, .ref xm_), (0, .ref b)]) : W p l e room_1 s m #[Value.ref b] below meth c H locs (60 + 2 * j) (20000 + 12 * j) (lw_Z below #[Value.ref b] s) (F0 m 1847 ls []) := by
  obtain ⟨hx, hb, hr, hml, hown, hts0, hX, hbl, hlocks, hgv⟩ := id C0
  have hts := hts0
  have hA : ∀ q : Nat, s.heap.size ≤ q → (fun q : Nat => s.heap.size ≤ q) q := fun _ h => h
  have hbA : ¬ (fun q : Nat => s.heap.size ≤ q) b := Nat.not_le.mpr hbl
  have hown : s.vm.findClass RL = some m.cls := hown
  have hb : c.code = cL_law := hb
  have hj0 : 0 ≤ (j : Int) := Int.natCast_nonneg j
  have hjI : 8 * (j : Int) + 8 ≤ (L : Int) := lw_jI hj
  have hLI : (L : Int) ≤ 4096 := lw_LI hL
  refine lv_aload_n hx hb dL_law_1847 rfl (lv_at hl 3 rfl) ?_
  refine lv_aload_n hx hb dL_law_1848 rfl (lv_at hl 4 rfl) ?_
  refine lv_iload hx hb dL_law_1849 (lv_at hl 0 rfl) ?_
  refine lv_iconst (v := 1) hx hb dL_law_1851 (by decide) ?_
  refine lv_iadd hx hb dL_law_1852 ?_
  refine lv_topi (fun y_1 ey_1 => ?_)
  have i_1 : y_1.toInt = ix.toInt + 1 := ki_add ey_1 rfl rfl (om_568 hix hj0) (om_569 hix hjI hLI)
  refine va_sld hx hb hX hbl hbA hS (i := y_1) (ki_in (om_570 hix hj0 i_1) (om_571 hix hjI i_1)) dL_law_1853 ?_
  refine lv_topi (fun y_2 ey_2 => ?_)
  refine lv_aload_n hx hb dL_law_1854 rfl (lv_at hl 4 rfl) ?_
  refine lv_iload hx hb dL_law_1855 (lv_at hl 0 rfl) ?_
  refine lv_iconst (v := 2) hx hb dL_law_1857 (by decide) ?_
  refine lv_iadd hx hb dL_law_1858 ?_
  refine lv_topi (fun y_3 ey_3 => ?_)
  have i_3 : y_3.toInt = ix.toInt + 2 := ki_add ey_3 rfl rfl (om_572 hix hj0) (om_573 hix hjI hLI)
  refine va_sld hx hb hX hbl hbA hS (i := y_3) (ki_in (om_574 hix hj0 i_3) (om_575 hix hjI i_3)) dL_law_1859 ?_
  refine lv_topi (fun y_4 ey_4 => ?_)
  obtain ⟨hPc, hDc, hFc, hCc⟩ := kx_preM (wc := [kx_4 xm_ xq_row xq_t xt_ xh0 xk0 xw_ xz_ slots old, kx_0 xq_row xq_cell len, kx_a xq_cell cyI 160 f, kx_1 xt_ xt_k xt_o tk mo, kx_a xt_k cyI 160 fk, kx_a xt_o cyI 160 fq, kx_a xz_ cyI 161 fz]) hP hD hS hA [true, false, true, true, false, false, false, false, false, false, false, false, false, false, false, false, false, false, false, false, true, true, true, false, true, false, false, false, false, false, false, false, false, false, false, false, false, false, false, false, false, false, false, false, false, false, false, false] rfl
  have hKc := hK.sub (tys' := [(cyI, .int)]) [0] rfl
  refine va_calli (va_runV (As := [.int y_2, .int y_4]) (rest := []) ⟨hx, hb, hml, hown, (lwC_X4_parted hts0)⟩ (kx_un (c_X4_parted l dC dI xm_ xq_row xq_t xt_ xh0 xk0 xw_ xz_ slots old xq_cell cyI len f xt_k xt_o tk mo fk fq fz y_2 y_4 H.size I0 I1)) (cwV 2 (lwC_X4_parted hts0) lwG_X4_parted rfl rfl rfl (by decide +kernel) ⟨Nat.le_of_ble_eq_true rfl, Nat.le_of_ble_eq_true rfl⟩) ⟨fun a U g mk q => by obtain ⟨q0, q1, qP, qK, qD⟩ := q; exact ⟨q0, q1, qP, va_K.moved (u := U) (U := U.calling g mk a) (Vm.Alike.refl U.vm) qK, qD⟩, kx_rc4 hKc hPc (q0 := 0) rfl, fun U hU hW => ⟨rfl, by rw [hU], by rw [hU]; exact hPc, va_K.moved hW.alike hKc, hDc.weaken (fun _ _ _ _ => trivial)⟩⟩ rfl rfl hl.1 rfl (lv_room (Nat.le_of_ble_eq_true rfl)) dL_law_1860 (lw_fitJ hj hL (Nat.le_of_ble_eq_true rfl) (Nat.le_of_ble_eq_true rfl))) hS (fun q _ h => hFc q h) hFc (fun r_5 u t H1 locs ht hvm w_5 hB hz1 hk1 hS => ?_)
  obtain ⟨o_6, o_7, o_8, o_9, o_10⟩ := u
  dsimp only at w_5 hB
  obtain ⟨hP1, hK1, hD1⟩ := hB
  rw [ht] at hP1
  have hK1 := va_K.moved hvm.symm hK1
  obtain ⟨hP, hD⟩ := kx_joinM (w2 := [kx_4 xm_ xq_row xq_t xt_ xh0 xk0 xw_ xz_ slots old, kx_2 xq_t xq_row xq_joined xq_from xq_to xq_size xq_lossOf xq_lessBy xq_value xq_number nodes here, kx_0 xq_row xq_cell len, kx_a xq_cell cyI 160 f, kx_a xq_from cyI 319 ff, kx_a xq_to cyI 319 ft, kx_a xq_size cyI 319 fs, kx_a xq_lossOf cyI 319 fo, kx_a xq_lessBy cyI 319 fe, kx_a xq_value cyI 1914 uv, kx_a xq_number cyI 1914 un, kx_3 xq_joined xj_v xj_n js jl je, kx_a xj_v cyI 12 jv, kx_a xj_n cyI 12 jn, kx_3 xh0 xa_v xa_n vs lo le, kx_a xa_v cyI 12 fv, kx_a xa_n cyI 12 fn, kx_3 xk0 xkv xkn sb lb eb, kx_a xkv cyI 12 gb, kx_a xkn cyI 12 nb, kx_1 xt_ xt_k xt_o o_6 o_7, kx_a xt_k cyI 160 o_8, kx_a xt_o cyI 160 o_9, kx_a xw_ cyI 160 fw, kx_a xz_ cyI 161 o_10, kx_5 yh0 yg_row len slots u_thrown yg_many yg_loss yg_less yg_voteValue yg_voteNumber yg_allValue yg_allNumber u_allMany yg_nodeL yg_nodeR u_nodes yg_part u_partMany yg_wasMany yg_wasLoss yg_wasValue yg_wasNumber yg_path u_pathMany yg_heavyValue yg_heavyTimes u_heavyMany yg_fewest yg_which yg_met u_mostMet, kx_a yg_row cyI 160 f, kx_a yg_many cyI 324 u_many, kx_a yg_loss cyI 324 u_loss, kx_a yg_less cyI 324 u_less, kx_a yg_voteValue cyI 1944 u_voteValue, kx_a yg_voteNumber cyI 1944 u_voteNumber, kx_a yg_allValue cyI 12 u_allValue, kx_a yg_allNumber cyI 12 u_allNumber, kx_a yg_nodeL cyI 320 u_nodeL, kx_a yg_nodeR cyI 320 u_nodeR, kx_a yg_part cyI 320 u_part, kx_a yg_wasMany cyI 320 u_wasMany, kx_a yg_wasLoss cyI 320 u_wasLoss, kx_a yg_wasValue cyI 1920 u_wasValue, kx_a yg_wasNumber cyI 1920 u_wasNumber, kx_a yg_path cyI 12 u_path, kx_a yg_heavyValue cyI 160 u_heavyValue, kx_a yg_heavyTimes cyI 160 u_heavyTimes, kx_a yg_fewest cyI 161 u_fewest, kx_a yg_which cyI 160 u_which, kx_a yg_met cyI 160 u_met, (q_o, .inl (cyL, 1, .inr (.inl ol)))]) hP hD hP1 hD1 hk1 hFc [true, false, true, true, false, false, false, false, false, false, false, false, false, false, false, false, false, false, false, false, true, true, true, false, true, false, false, false, false, false, false, false, false, false, false, false, false, false, false, false, false, false, false, false, false, false, false, false] hCc rfl
  clear hP1 hD1 hK1 hk1 hz1 hFc hDc hPc hKc hCc
  generalize H1 = H at hP hS ⊢
  have w_5 : True := w_5
  refine lv_pop hx hb dL_law_1863 rfl ?_
  refine lv_aload_n hx hb dL_law_1864 rfl (lv_at hl 2 rfl) ?_
  refine lv_aload_n hx hb dL_law_1865 rfl (lv_at hl 4 rfl) ?_
  refine lv_iload hx hb dL_law_1866 (lv_at hl 0 rfl) ?_
  refine lv_iconst (v := 1) hx hb dL_law_1868 (by decide) ?_
  refine lv_iadd hx hb dL_law_1869 ?_
  refine lv_topi (fun y_11 ey_11 => ?_)
  have i_11 : y_11.toInt = ix.toInt + 1 := ki_add ey_11 rfl rfl (om_568 hix hj0) (om_569 hix hjI hLI)
  refine va_sld hx hb hX hbl hbA hS (i := y_11) (ki_in (om_570 hix hj0 i_11) (om_571 hix hjI i_11)) dL_law_1870 ?_
  refine lv_topi (fun y_12 ey_12 => ?_)
  have qy_12 : y_2 = y_12 := by rw [ey_2, ey_12, ki_nateq (show y_1.toInt = y_11.toInt from (om_576 i_1 i_11))]
  subst qy_12
  refine lv_aload_n hx hb dL_law_1871 rfl (lv_at hl 4 rfl) ?_
  refine lv_iload hx hb dL_law_1872 (lv_at hl 0 rfl) ?_
  refine lv_iconst (v := 2) hx hb dL_law_1874 (by decide) ?_
  refine lv_iadd hx hb dL_law_1875 ?_
  refine lv_topi (fun y_13 ey_13 => ?_)
  have i_13 : y_13.toInt = ix.toInt + 2 := ki_add ey_13 rfl rfl (om_572 hix hj0) (om_573 hix hjI hLI)
  refine va_sld hx hb hX hbl hbA hS (i := y_13) (ki_in (om_574 hix hj0 i_13) (om_575 hix hjI i_13)) dL_law_1876 ?_
  refine lv_topi (fun y_14 ey_14 => ?_)
  have qy_14 : y_4 = y_14 := by rw [ey_4, ey_14, ki_nateq (show y_3.toInt = y_13.toInt from (om_577 i_3 i_13))]
  subst qy_14
  obtain ⟨hPc, hDc, hFc, hCc⟩ := kx_pre (wc := [kx_5 yh0 yg_row len slots u_thrown yg_many yg_loss yg_less yg_voteValue yg_voteNumber yg_allValue yg_allNumber u_allMany yg_nodeL yg_nodeR u_nodes yg_part u_partMany yg_wasMany yg_wasLoss yg_wasValue yg_wasNumber yg_path u_pathMany yg_heavyValue yg_heavyTimes u_heavyMany yg_fewest yg_which yg_met u_mostMet, kx_a yg_row cyI 160 f, kx_a yg_which cyI 160 u_which, kx_a yg_met cyI 160 u_met, kx_a yg_fewest cyI 161 u_fewest]) hP hD hS hA [25, 26, 45, 46, 44] (by decide) rfl
  have hKc := hK.sub (tys' := [(cyI, .int)]) [0] rfl
  refine va_calli (va_runV (As := [.int y_2, .int y_4]) (rest := []) ⟨hx, hb, hml, hown, (lwC_X5_parted hts0)⟩ (kx_un (c_X5_parted l dC dI yh0 yg_row yg_many yg_loss yg_less yg_voteValue yg_voteNumber yg_allValue yg_allNumber yg_nodeL yg_nodeR yg_part yg_wasMany yg_wasLoss yg_wasValue yg_wasNumber yg_path yg_heavyValue yg_heavyTimes yg_fewest yg_which yg_met len slots u_thrown u_allMany u_nodes u_partMany u_pathMany u_heavyMany u_mostMet cyI f u_which u_met u_fewest y_2 y_4 H.size I0 I1)) (cwV 2 (lwC_X5_parted hts0) lwG_X5_parted rfl rfl rfl (by decide +kernel) ⟨Nat.le_of_ble_eq_true rfl, Nat.le_of_ble_eq_true rfl⟩) ⟨fun a U g mk q => by obtain ⟨q0, q1, qP, qK, qD⟩ := q; exact ⟨q0, q1, qP, va_K.moved (u := U) (U := U.calling g mk a) (Vm.Alike.refl U.vm) qK, qD⟩, kx_rc5 hKc hPc (q0 := 0) rfl, fun U hU hW => ⟨rfl, by rw [hU], by rw [hU]; exact hPc, va_K.moved hW.alike hKc, hDc.weaken (fun _ _ _ _ => trivial)⟩⟩ rfl rfl hl.1 rfl (lv_room (Nat.le_of_ble_eq_true rfl)) dL_law_1877 (lw_fitJ hj hL (Nat.le_of_ble_eq_true rfl) (Nat.le_of_ble_eq_true rfl))) hS (fun q _ h => hFc q h) hFc (fun r_15 u t H1 locs ht hvm w_15 hB hz1 hk1 hS => ?_)
  obtain ⟨o_16, o_17, o_18, o_19⟩ := u
  dsimp only at w_15 hB
  obtain ⟨hP1, hK1, hD1⟩ := hB
  rw [ht] at hP1
  have hK1 := va_K.moved hvm.symm hK1
  obtain ⟨hP, hD⟩ := kx_join (w2 := [kx_4 xm_ xq_row xq_t xt_ xh0 xk0 xw_ xz_ slots old, kx_2 xq_t xq_row xq_joined xq_from xq_to xq_size xq_lossOf xq_lessBy xq_value xq_number nodes here, kx_0 xq_row xq_cell len, kx_a xq_cell cyI 160 f, kx_a xq_from cyI 319 ff, kx_a xq_to cyI 319 ft, kx_a xq_size cyI 319 fs, kx_a xq_lossOf cyI 319 fo, kx_a xq_lessBy cyI 319 fe, kx_a xq_value cyI 1914 uv, kx_a xq_number cyI 1914 un, kx_3 xq_joined xj_v xj_n js jl je, kx_a xj_v cyI 12 jv, kx_a xj_n cyI 12 jn, kx_3 xh0 xa_v xa_n vs lo le, kx_a xa_v cyI 12 fv, kx_a xa_n cyI 12 fn, kx_3 xk0 xkv xkn sb lb eb, kx_a xkv cyI 12 gb, kx_a xkn cyI 12 nb, kx_1 xt_ xt_k xt_o o_6 o_7, kx_a xt_k cyI 160 o_8, kx_a xt_o cyI 160 o_9, kx_a xw_ cyI 160 fw, kx_a xz_ cyI 161 o_10, kx_a yg_many cyI 324 u_many, kx_a yg_loss cyI 324 u_loss, kx_a yg_less cyI 324 u_less, kx_a yg_voteValue cyI 1944 u_voteValue, kx_a yg_voteNumber cyI 1944 u_voteNumber, kx_a yg_allValue cyI 12 u_allValue, kx_a yg_allNumber cyI 12 u_allNumber, kx_a yg_nodeL cyI 320 u_nodeL, kx_a yg_nodeR cyI 320 u_nodeR, kx_a yg_part cyI 320 u_part, kx_a yg_wasMany cyI 320 u_wasMany, kx_a yg_wasLoss cyI 320 u_wasLoss, kx_a yg_wasValue cyI 1920 u_wasValue, kx_a yg_wasNumber cyI 1920 u_wasNumber, kx_a yg_path cyI 12 u_path, kx_a yg_heavyValue cyI 160 u_heavyValue, kx_a yg_heavyTimes cyI 160 u_heavyTimes, (q_o, .inl (cyL, 1, .inr (.inl ol))), kx_5 yh0 yg_row len slots 0 yg_many yg_loss yg_less yg_voteValue yg_voteNumber yg_allValue yg_allNumber u_allMany yg_nodeL yg_nodeR u_nodes yg_part u_partMany yg_wasMany yg_wasLoss yg_wasValue yg_wasNumber yg_path u_pathMany yg_heavyValue yg_heavyTimes u_heavyMany yg_fewest yg_which yg_met o_16, kx_a yg_row cyI 160 f, kx_a yg_which cyI 160 o_17, kx_a yg_met cyI 160 o_18, kx_a yg_fewest cyI 161 o_19]) hP hD hP1 hD1 hk1 hFc [25, 26, 45, 46, 44] [0, 1, 2, 3, 4, 5, 6, 7, 8, 9, 10, 11, 12, 13, 14, 15, 16, 17, 18, 19, 20, 21, 22, 23, 24, 27, 28, 29, 30, 31, 32, 33, 34, 35, 36, 37, 38, 39, 40, 41, 42, 43, 47] hCc rfl (by decide) (by decide)
  clear hP1 hD1 hK1 hk1 hz1 hFc hDc hPc hKc hCc
  generalize H1 = H at hP hS ⊢
  have w_15 : True := w_15
  refine lv_pop hx hb dL_law_1880 rfl ?_
  refine lv_goto (tgt := 2288) hx hb dL_law_1881 (by decide) ?_
  obtain ⟨x_20, ex_20⟩ : ∃ y : Int32, y = ix + 8 := ⟨_, rfl⟩
  have i_20 : x_20.toInt = ix.toInt + 8 := ki_add ex_20 rfl rfl (om_578 hix hj0) (om_579 hix hjI hLI)
  refine lv_iinc (v := x_20) (lv' := [(4, .int x_20), (3, .ref q_o), (2, .ref yh0), (1, .ref xm_), (0, .ref b)]) hx hb dL_law_2288 hl (k := 0) rfl (by rw [ex_20]; rfl) (by decide) rfl (fun ls hl => ?_)
  refine lv_goto (tgt := 23) hx hb dL_law_2291 (by decide) ?_
  refine W.widen (k := 60 + 2 * (j + 1)) (n := 20000 + 12 * (j + 1)) (lw_wdC (k := 0) (Nat.le_of_ble_eq_true rfl)) (lw_wdS (k := 0) (Nat.le_of_ble_eq_true rfl)) ?_
  have k_21 : (0 : Int32).toInt = 0 := rfl
  exact ih len slots old nodes here js jl je vs lo le sb lb eb o_6 o_7 0 u_allMany u_nodes u_partMany u_pathMany u_heavyMany o_16 f ff ft fs fo fe uv un jv jn fv fn gb nb o_8 o_9 fw o_10 u_many u_loss u_less u_voteValue u_voteNumber u_allValue u_allNumber u_nodeL u_nodeR u_part u_wasMany u_wasLoss u_wasValue u_wasNumber u_path u_heavyValue u_heavyTimes o_19 o_17 o_18 ol x_20 (om_ix i_20 hix) I0 I1 I2 I3 I4 I5 I6 I7 I8 _ _ ls (hP.sub [0, 1, 2, 3, 4, 5, 6, 7, 8, 9, 10, 11, 12, 13, 14, 15, 16, 17, 18, 19, 20, 21, 22, 23, 24, 43, 44, 25, 26, 27, 28, 29, 30, 31, 32, 33, 34, 35, 36, 37, 38, 39, 40, 41, 47, 45, 46, 42] rfl) (hD.sub [0, 1, 2, 3, 4, 5, 6, 7, 8, 9, 10, 11, 12, 13, 14, 15, 16, 17, 18, 19, 20, 21, 22, 23, 24, 43, 44, 25, 26, 27, 28, 29, 30, 31, 32, 33, 34, 35, 36, 37, 38, 39, 40, 41, 47, 45, 46, 42] (by decide) rfl) hS (lv_sub hl [0, 1, 2, 3, 4] rfl)

set_option maxHeartbeats 4000000 in
set_option maxRecDepth 100000 in
theorem lc_36 {p : Program} {l : Launch} {e : Env} {s : State} {m : MethodId} {below : List Frame} {meth : Method} {c : Code} {dC : Nat → ClassId} {dI : Nat → Nat → Nat} {b : Nat} {xs : Nat → Int32} (hl0 : l.stackTraces = false) {L j : Nat} (hL : L ≤ 4096) (hj : 8 * j + 8 ≤ L) (C0 : lw_At p s m meth c b L xs) (hth : ki_ThA (fun q : Nat => s.heap.size ≤ q) s) {cyI cyL : ClassId} {xm_ xq_t xq_row xq_cell xq_from xq_to xq_size xq_lossOf xq_lessBy xq_value xq_number xq_joined xj_v xj_n xh0 xa_v xa_n xk0 xkv xkn xt_ xt_k xt_o xw_ xz_ yh0 yg_row yg_many yg_loss yg_less yg_voteValue yg_voteNumber yg_allValue yg_allNumber yg_nodeL yg_nodeR yg_part yg_wasMany yg_wasLoss yg_wasValue yg_wasNumber yg_path yg_heavyValue yg_heavyTimes yg_fewest yg_which yg_met q_o : Nat} (hK : va_K (dC, dI) vwCl [(cyI, .int), (cyL, .long)] s) (ih : lw_G p l e s m below meth c b dC dI cyI cyL xm_ xq_t xq_row xq_cell xq_from xq_to xq_size xq_lossOf xq_lessBy xq_value xq_number xq_joined xj_v xj_n xh0 xa_v xa_n xk0 xkv xkn xt_ xt_k xt_o xw_ xz_ yh0 yg_row yg_many yg_loss yg_less yg_voteValue yg_voteNumber yg_allValue yg_allNumber yg_nodeL yg_nodeR yg_part yg_wasMany yg_wasLoss yg_wasValue yg_wasNumber yg_path yg_heavyValue yg_heavyTimes yg_fewest yg_which yg_met q_o (j + 1)) {len slots old nodes here js jl je vs lo le sb lb eb tk mo u_thrown u_allMany u_nodes u_partMany u_pathMany u_heavyMany u_mostMet ix : Int32} {f ff ft fs fo fe uv un jv jn fv fn gb nb fk fq fw fz u_many u_loss u_less u_voteValue u_voteNumber u_allValue u_allNumber u_nodeL u_nodeR u_part u_wasMany u_wasLoss u_wasValue u_wasNumber u_path u_heavyValue u_heavyTimes u_fewest u_which u_met : Nat → Int32} {ol : Nat → Int64} (hix : ix.toInt = 8 * (j : Int)) (I0 : 0 ≤ len.toInt) (I1 : len.toInt ≤ 160) (I2 : 1 ≤ slots.toInt) (I3 : slots.toInt ≤ 6) (I4 : shorts f) (I5 : sixes fs) (I6 : laidX old slots here f ff ft fs fo fe uv un nodes len) (I7 : six4 u_many) (I8 : parts320 u_part) {H : Heap} {locs : List Loc} (hP : va_P (dC, dI) vwCl [kx_4 xm_ xq_row xq_t xt_ xh0 xk0 xw_ xz_ slots old, kx_2 xq_t xq_row xq_joined xq_from xq_to xq_size xq_lossOf xq_lessBy xq_value xq_number nodes here, kx_0 xq_row xq_cell len, kx_a xq_cell cyI 160 f, kx_a xq_from cyI 319 ff, kx_a xq_to cyI 319 ft, kx_a xq_size cyI 319 fs, kx_a xq_lossOf cyI 319 fo, kx_a xq_lessBy cyI 319 fe, kx_a xq_value cyI 1914 uv, kx_a xq_number cyI 1914 un, kx_3 xq_joined xj_v xj_n js jl je, kx_a xj_v cyI 12 jv, kx_a xj_n cyI 12 jn, kx_3 xh0 xa_v xa_n vs lo le, kx_a xa_v cyI 12 fv, kx_a xa_n cyI 12 fn, kx_3 xk0 xkv xkn sb lb eb, kx_a xkv cyI 12 gb, kx_a xkn cyI 12 nb, kx_1 xt_ xt_k xt_o tk mo, kx_a xt_k cyI 160 fk, kx_a xt_o cyI 160 fq, kx_a xw_ cyI 160 fw, kx_a xz_ cyI 161 fz, kx_5 yh0 yg_row len slots u_thrown yg_many yg_loss yg_less yg_voteValue yg_voteNumber yg_allValue yg_allNumber u_allMany yg_nodeL yg_nodeR u_nodes yg_part u_partMany yg_wasMany yg_wasLoss yg_wasValue yg_wasNumber yg_path u_pathMany yg_heavyValue yg_heavyTimes u_heavyMany yg_fewest yg_which yg_met u_mostMet, kx_a yg_row cyI 160 f, kx_a yg_many cyI 324 u_many, kx_a yg_loss cyI 324 u_loss, kx_a yg_less cyI 324 u_less, kx_a yg_voteValue cyI 1944 u_voteValue, kx_a yg_voteNumber cyI 1944 u_voteNumber, kx_a yg_allValue cyI 12 u_allValue, kx_a yg_allNumber cyI 12 u_allNumber, kx_a yg_nodeL cyI 320 u_nodeL, kx_a yg_nodeR cyI 320 u_nodeR, kx_a yg_part cyI 320 u_part, kx_a yg_wasMany cyI 320 u_wasMany, kx_a yg_wasLoss cyI 320 u_wasLoss, kx_a yg_wasValue cyI 1920 u_wasValue, kx_a yg_wasNumber cyI 1920 u_wasNumber, kx_a yg_path cyI 12 u_path, kx_a yg_heavyValue cyI 160 u_heavyValue, kx_a yg_heavyTimes cyI 160 u_heavyTimes, kx_a yg_fewest cyI 161 u_fewest, kx_a yg_which cyI 160 u_which, kx_a yg_met cyI 160 u_met, (q_o, .inl (cyL, 1, .inr (.inl ol)))] H) (hD : va_D (fun q : Nat => s.heap.size ≤ q) [kx_4 xm_ xq_row xq_t xt_ xh0 xk0 xw_ xz_ slots old, kx_2 xq_t xq_row xq_joined xq_from xq_to xq_size xq_lossOf xq_lessBy xq_value xq_number nodes here, kx_0 xq_row xq_cell len, kx_a xq_cell cyI 160 f, kx_a xq_from cyI 319 ff, kx_a xq_to cyI 319 ft, kx_a xq_size cyI 319 fs, kx_a xq_lossOf cyI 319 fo, kx_a xq_lessBy cyI 319 fe, kx_a xq_value cyI 1914 uv, kx_a xq_number cyI 1914 un, kx_3 xq_joined xj_v xj_n js jl je, kx_a xj_v cyI 12 jv, kx_a xj_n cyI 12 jn, kx_3 xh0 xa_v xa_n vs lo le, kx_a xa_v cyI 12 fv, kx_a xa_n cyI 12 fn, kx_3 xk0 xkv xkn sb lb eb, kx_a xkv cyI 12 gb, kx_a xkn cyI 12 nb, kx_1 xt_ xt_k xt_o tk mo, kx_a xt_k cyI 160 fk, kx_a xt_o cyI 160 fq, kx_a xw_ cyI 160 fw, kx_a xz_ cyI 161 fz, kx_5 yh0 yg_row len slots u_thrown yg_many yg_loss yg_less yg_voteValue yg_voteNumber yg_allValue yg_allNumber u_allMany yg_nodeL yg_nodeR u_nodes yg_part u_partMany yg_wasMany yg_wasLoss yg_wasValue yg_wasNumber yg_path u_pathMany yg_heavyValue yg_heavyTimes u_heavyMany yg_fewest yg_which yg_met u_mostMet, kx_a yg_row cyI 160 f, kx_a yg_many cyI 324 u_many, kx_a yg_loss cyI 324 u_loss, kx_a yg_less cyI 324 u_less, kx_a yg_voteValue cyI 1944 u_voteValue, kx_a yg_voteNumber cyI 1944 u_voteNumber, kx_a yg_allValue cyI 12 u_allValue, kx_a yg_allNumber cyI 12 u_allNumber, kx_a yg_nodeL cyI 320 u_nodeL, kx_a yg_nodeR cyI 320 u_nodeR, kx_a yg_part cyI 320 u_part, kx_a yg_wasMany cyI 320 u_wasMany, kx_a yg_wasLoss cyI 320 u_wasLoss, kx_a yg_wasValue cyI 1920 u_wasValue, kx_a yg_wasNumber cyI 1920 u_wasNumber, kx_a yg_path cyI 12 u_path, kx_a yg_heavyValue cyI 160 u_heavyValue, kx_a yg_heavyTimes cyI 160 u_heavyTimes, kx_a yg_fewest cyI 161 u_fewest, kx_a yg_which cyI 160 u_which, kx_a yg_met cyI 160 u_met, (q_o, .inl (cyL, 1, .inr (.inl ol)))]) (hS : va_S (fun q : Nat => s.heap.size ≤ q) s.heap H locs) {ls : Array Slot} (hl : lv_has ls 7 [(4, .int ix), (3, .ref q_o), (2, .ref yh0), (1, .ref xm_), (0, .ref b)]) : W p l e room_1 s m #[Value.ref b] below meth c H locs (60 + 2 * j) (20000 + 12 * j) (lw_Z below #[Value.ref b] s) (F0 m 1884 ls []) := by
  obtain ⟨hx, hb, hr, hml, hown, hts0, hX, hbl, hlocks, hgv⟩ := id C0
  have hts := hts0
  have hA : ∀ q : Nat, s.heap.size ≤ q → (fun q : Nat => s.heap.size ≤ q) q := fun _ h => h
  have hbA : ¬ (fun q : Nat => s.heap.size ≤ q) b := Nat.not_le.mpr hbl
  have hown : s.vm.findClass RL = some m.cls := hown
  have hb : c.code = cL_law := hb
  have hj0 : 0 ≤ (j : Int) := Int.natCast_nonneg j
  have hjI : 8 * (j : Int) + 8 ≤ (L : Int) := lw_jI hj
  have hLI : (L : Int) ≤ 4096 := lw_LI hL
  have hN__methodLinkNest_RX0_28_yX4_isHeavy_RX4 : va_Nw (.methodLinkNest RX0 28 yX4_isHeavy RX4) s := va_Nw.of rfl (hts0 (.methodLinkNest RX0 28 yX4_isHeavy RX4) lwW_515)
  refine lv_aload_n hx hb dL_law_1884 rfl (lv_at hl 3 rfl) ?_
  refine lv_aload_n hx hb dL_law_1885 rfl (lv_at hl 4 rfl) ?_
  refine lv_iload hx hb dL_law_1886 (lv_at hl 0 rfl) ?_
  refine lv_iconst (v := 1) hx hb dL_law_1888 (by decide) ?_
  refine lv_iadd hx hb dL_law_1889 ?_
  refine lv_topi (fun y_1 ey_1 => ?_)
  have i_1 : y_1.toInt = ix.toInt + 1 := ki_add ey_1 rfl rfl (om_568 hix hj0) (om_569 hix hjI hLI)
  refine va_sld hx hb hX hbl hbA hS (i := y_1) (ki_in (om_570 hix hj0 i_1) (om_571 hix hjI i_1)) dL_law_1890 ?_
  refine lv_topi (fun y_2 ey_2 => ?_)
  refine lv_aload_n hx hb dL_law_1891 rfl (lv_at hl 4 rfl) ?_
  refine lv_iload hx hb dL_law_1892 (lv_at hl 0 rfl) ?_
  refine lv_iconst (v := 2) hx hb dL_law_1894 (by decide) ?_
  refine lv_iadd hx hb dL_law_1895 ?_
  refine lv_topi (fun y_3 ey_3 => ?_)
  have i_3 : y_3.toInt = ix.toInt + 2 := ki_add ey_3 rfl rfl (om_572 hix hj0) (om_573 hix hjI hLI)
  refine va_sld hx hb hX hbl hbA hS (i := y_3) (ki_in (om_574 hix hj0 i_3) (om_575 hix hjI i_3)) dL_law_1896 ?_
  refine lv_topi (fun y_4 ey_4 => ?_)
  have hPc := hP.sub (ws' := [kx_4 xm_ xq_row xq_t xt_ xh0 xk0 xw_ xz_ slots old, kx_0 xq_row xq_cell len, kx_a xq_cell cyI 160 f]) [0, 2, 3] rfl
  have hKc := hK.sub (tys' := [(cyI, .int)]) [0] rfl
  refine vp_callSi (W.runV (As := [.int y_2, .int y_4]) (rest := []) ⟨hx, hb, hml, hown, (lwC_X4_cut hts0)⟩ (c_X4_cut l dC dI xm_ xq_row xq_t xt_ xh0 xk0 xw_ xz_ slots old xq_cell cyI len f y_2 y_4 I0 I1) (cwV 2 (lwC_X4_cut hts0) lwG_X4_cut rfl rfl rfl (by decide +kernel) ⟨Nat.le_of_ble_eq_true rfl, Nat.le_of_ble_eq_true rfl⟩) ⟨fun a U g mk q => by obtain ⟨q0, qP, qK, qn0⟩ := q; exact ⟨q0, qP, va_K.moved (u := U) (U := U.calling g mk a) (Vm.Alike.refl U.vm) qK, va_Nw.same (u := U) (U := U.calling g mk a) rfl rfl qn0⟩, kx_rc4 hKc hPc (q0 := 0) rfl, fun U hU hW => ⟨rfl, by rw [hU]; exact hPc, va_K.moved hW.alike hKc, va_Nw.warmM hW hN__methodLinkNest_RX0_28_yX4_isHeavy_RX4⟩⟩ rfl rfl hl.1 rfl (lv_room (Nat.le_of_ble_eq_true rfl)) dL_law_1897 (lw_fitJ hj hL (Nat.le_of_ble_eq_true rfl) (Nat.le_of_ble_eq_true rfl))) (fun r_5 w_5 => ?_)
  refine lv_pop hx hb dL_law_1900 rfl ?_
  refine lv_aload_n hx hb dL_law_1901 rfl (lv_at hl 2 rfl) ?_
  refine lv_aload_n hx hb dL_law_1902 rfl (lv_at hl 4 rfl) ?_
  refine lv_iload hx hb dL_law_1903 (lv_at hl 0 rfl) ?_
  refine lv_iconst (v := 1) hx hb dL_law_1905 (by decide) ?_
  refine lv_iadd hx hb dL_law_1906 ?_
  refine lv_topi (fun y_6 ey_6 => ?_)
  have i_6 : y_6.toInt = ix.toInt + 1 := ki_add ey_6 rfl rfl (om_568 hix hj0) (om_569 hix hjI hLI)
  refine va_sld hx hb hX hbl hbA hS (i := y_6) (ki_in (om_570 hix hj0 i_6) (om_571 hix hjI i_6)) dL_law_1907 ?_
  refine lv_topi (fun y_7 ey_7 => ?_)
  have qy_7 : y_2 = y_7 := by rw [ey_2, ey_7, ki_nateq (show y_1.toInt = y_6.toInt from (om_576 i_1 i_6))]
  subst qy_7
  refine lv_aload_n hx hb dL_law_1908 rfl (lv_at hl 4 rfl) ?_
  refine lv_iload hx hb dL_law_1909 (lv_at hl 0 rfl) ?_
  refine lv_iconst (v := 2) hx hb dL_law_1911 (by decide) ?_
  refine lv_iadd hx hb dL_law_1912 ?_
  refine lv_topi (fun y_8 ey_8 => ?_)
  have i_8 : y_8.toInt = ix.toInt + 2 := ki_add ey_8 rfl rfl (om_572 hix hj0) (om_573 hix hjI hLI)
  refine va_sld hx hb hX hbl hbA hS (i := y_8) (ki_in (om_574 hix hj0 i_8) (om_575 hix hjI i_8)) dL_law_1913 ?_
  refine lv_topi (fun y_9 ey_9 => ?_)
  have qy_9 : y_4 = y_9 := by rw [ey_4, ey_9, ki_nateq (show y_3.toInt = y_8.toInt from (om_577 i_3 i_8))]
  subst qy_9
  obtain ⟨hPc, hDc, hFc, hCc⟩ := kx_preM (wc := [kx_5 yh0 yg_row len slots u_thrown yg_many yg_loss yg_less yg_voteValue yg_voteNumber yg_allValue yg_allNumber u_allMany yg_nodeL yg_nodeR u_nodes yg_part u_partMany yg_wasMany yg_wasLoss yg_wasValue yg_wasNumber yg_path u_pathMany yg_heavyValue yg_heavyTimes u_heavyMany yg_fewest yg_which yg_met u_mostMet, kx_a yg_row cyI 160 f]) hP hD hS hA [false, false, false, false, false, false, false, false, false, false, false, false, false, false, false, false, false, false, false, false, false, false, false, false, false, true, true, false, false, false, false, false, false, false, false, false, false, false, false, false, false, false, false, false, false, false, false, false] rfl
  have hKc := hK.sub (tys' := [(cyI, .int)]) [0] rfl
  refine va_calli (va_runV (As := [.int y_2, .int y_4]) (rest := []) ⟨hx, hb, hml, hown, (lwC_X5_cut hts0)⟩ (kx_un (c_X5_cut l dC dI yh0 yg_row yg_many yg_loss yg_less yg_voteValue yg_voteNumber yg_allValue yg_allNumber yg_nodeL yg_nodeR yg_part yg_wasMany yg_wasLoss yg_wasValue yg_wasNumber yg_path yg_heavyValue yg_heavyTimes yg_fewest yg_which yg_met len slots u_thrown u_allMany u_nodes u_partMany u_pathMany u_heavyMany u_mostMet cyI f y_2 y_4 H.size I0 I1)) (cwV 2 (lwC_X5_cut hts0) lwG_X5_cut rfl rfl rfl (by decide +kernel) ⟨Nat.le_of_ble_eq_true rfl, Nat.le_of_ble_eq_true rfl⟩) ⟨fun a U g mk q => by obtain ⟨q0, q1, qP, qK, qD⟩ := q; exact ⟨q0, q1, qP, va_K.moved (u := U) (U := U.calling g mk a) (Vm.Alike.refl U.vm) qK, qD⟩, kx_rc5 hKc hPc (q0 := 0) rfl, fun U hU hW => ⟨rfl, by rw [hU], by rw [hU]; exact hPc, va_K.moved hW.alike hKc, hDc.weaken (fun _ _ _ _ => trivial)⟩⟩ rfl rfl hl.1 rfl (lv_room (Nat.le_of_ble_eq_true rfl)) dL_law_1914 (lw_fitJ hj hL (Nat.le_of_ble_eq_true rfl) (Nat.le_of_ble_eq_true rfl))) hS (fun q _ h => hFc q h) hFc (fun r_10 u t H1 locs ht hvm w_10 hB hz1 hk1 hS => ?_)
  obtain ⟨hP1, hK1, hD1⟩ := hB
  rw [ht] at hP1
  have hK1 := va_K.moved hvm.symm hK1
  obtain ⟨hP, hD⟩ := kx_joinM (w2 := [kx_4 xm_ xq_row xq_t xt_ xh0 xk0 xw_ xz_ slots old, kx_2 xq_t xq_row xq_joined xq_from xq_to xq_size xq_lossOf xq_lessBy xq_value xq_number nodes here, kx_0 xq_row xq_cell len, kx_a xq_cell cyI 160 f, kx_a xq_from cyI 319 ff, kx_a xq_to cyI 319 ft, kx_a xq_size cyI 319 fs, kx_a xq_lossOf cyI 319 fo, kx_a xq_lessBy cyI 319 fe, kx_a xq_value cyI 1914 uv, kx_a xq_number cyI 1914 un, kx_3 xq_joined xj_v xj_n js jl je, kx_a xj_v cyI 12 jv, kx_a xj_n cyI 12 jn, kx_3 xh0 xa_v xa_n vs lo le, kx_a xa_v cyI 12 fv, kx_a xa_n cyI 12 fn, kx_3 xk0 xkv xkn sb lb eb, kx_a xkv cyI 12 gb, kx_a xkn cyI 12 nb, kx_1 xt_ xt_k xt_o tk mo, kx_a xt_k cyI 160 fk, kx_a xt_o cyI 160 fq, kx_a xw_ cyI 160 fw, kx_a xz_ cyI 161 fz, kx_5 yh0 yg_row len slots 0 yg_many yg_loss yg_less yg_voteValue yg_voteNumber yg_allValue yg_allNumber u_allMany yg_nodeL yg_nodeR u_nodes yg_part u_partMany yg_wasMany yg_wasLoss yg_wasValue yg_wasNumber yg_path u_pathMany yg_heavyValue yg_heavyTimes u_heavyMany yg_fewest yg_which yg_met u_mostMet, kx_a yg_row cyI 160 f, kx_a yg_many cyI 324 u_many, kx_a yg_loss cyI 324 u_loss, kx_a yg_less cyI 324 u_less, kx_a yg_voteValue cyI 1944 u_voteValue, kx_a yg_voteNumber cyI 1944 u_voteNumber, kx_a yg_allValue cyI 12 u_allValue, kx_a yg_allNumber cyI 12 u_allNumber, kx_a yg_nodeL cyI 320 u_nodeL, kx_a yg_nodeR cyI 320 u_nodeR, kx_a yg_part cyI 320 u_part, kx_a yg_wasMany cyI 320 u_wasMany, kx_a yg_wasLoss cyI 320 u_wasLoss, kx_a yg_wasValue cyI 1920 u_wasValue, kx_a yg_wasNumber cyI 1920 u_wasNumber, kx_a yg_path cyI 12 u_path, kx_a yg_heavyValue cyI 160 u_heavyValue, kx_a yg_heavyTimes cyI 160 u_heavyTimes, kx_a yg_fewest cyI 161 u_fewest, kx_a yg_which cyI 160 u_which, kx_a yg_met cyI 160 u_met, (q_o, .inl (cyL, 1, .inr (.inl ol)))]) hP hD hP1 hD1 hk1 hFc [false, false, false, false, false, false, false, false, false, false, false, false, false, false, false, false, false, false, false, false, false, false, false, false, false, true, true, false, false, false, false, false, false, false, false, false, false, false, false, false, false, false, false, false, false, false, false, false] hCc rfl
  clear hP1 hD1 hK1 hk1 hz1 hFc hDc hPc hKc hCc
  generalize H1 = H at hP hS ⊢
  refine lv_pop hx hb dL_law_1917 rfl ?_
  refine lv_goto (tgt := 2288) hx hb dL_law_1918 (by decide) ?_
  obtain ⟨x_11, ex_11⟩ : ∃ y : Int32, y = ix + 8 := ⟨_, rfl⟩
  have i_11 : x_11.toInt = ix.toInt + 8 := ki_add ex_11 rfl rfl (om_578 hix hj0) (om_579 hix hjI hLI)
  refine lv_iinc (v := x_11) (lv' := [(4, .int x_11), (3, .ref q_o), (2, .ref yh0), (1, .ref xm_), (0, .ref b)]) hx hb dL_law_2288 hl (k := 0) rfl (by rw [ex_11]; rfl) (by decide) rfl (fun ls hl => ?_)
  refine lv_goto (tgt := 23) hx hb dL_law_2291 (by decide) ?_
  refine W.widen (k := 60 + 2 * (j + 1)) (n := 20000 + 12 * (j + 1)) (lw_wdC (k := 0) (Nat.le_of_ble_eq_true rfl)) (lw_wdS (k := 0) (Nat.le_of_ble_eq_true rfl)) ?_
  have k_12 : (0 : Int32).toInt = 0 := rfl
  exact ih len slots old nodes here js jl je vs lo le sb lb eb tk mo 0 u_allMany u_nodes u_partMany u_pathMany u_heavyMany u_mostMet f ff ft fs fo fe uv un jv jn fv fn gb nb fk fq fw fz u_many u_loss u_less u_voteValue u_voteNumber u_allValue u_allNumber u_nodeL u_nodeR u_part u_wasMany u_wasLoss u_wasValue u_wasNumber u_path u_heavyValue u_heavyTimes u_fewest u_which u_met ol x_11 (om_ix i_11 hix) I0 I1 I2 I3 I4 I5 I6 I7 I8 _ _ ls hP hD hS (lv_sub hl [0, 1, 2, 3, 4] rfl)

set_option maxHeartbeats 4000000 in
set_option maxRecDepth 100000 in
theorem lc_37 {p : Program} {l : Launch} {e : Env} {s : State} {m : MethodId} {below : List Frame} {meth : Method} {c : Code} {dC : Nat → ClassId} {dI : Nat → Nat → Nat} {b : Nat} {xs : Nat → Int32} (hl0 : l.stackTraces = false) {L j : Nat} (hL : L ≤ 4096) (hj : 8 * j + 8 ≤ L) (C0 : lw_At p s m meth c b L xs) (hth : ki_ThA (fun q : Nat => s.heap.size ≤ q) s) {cyI cyL : ClassId} {xm_ xq_t xq_row xq_cell xq_from xq_to xq_size xq_lossOf xq_lessBy xq_value xq_number xq_joined xj_v xj_n xh0 xa_v xa_n xk0 xkv xkn xt_ xt_k xt_o xw_ xz_ yh0 yg_row yg_many yg_loss yg_less yg_voteValue yg_voteNumber yg_allValue yg_allNumber yg_nodeL yg_nodeR yg_part yg_wasMany yg_wasLoss yg_wasValue yg_wasNumber yg_path yg_heavyValue yg_heavyTimes yg_fewest yg_which yg_met q_o : Nat} (hK : va_K (dC, dI) vwCl [(cyI, .int), (cyL, .long)] s) (ih : lw_G p l e s m below meth c b dC dI cyI cyL xm_ xq_t xq_row xq_cell xq_from xq_to xq_size xq_lossOf xq_lessBy xq_value xq_number xq_joined xj_v xj_n xh0 xa_v xa_n xk0 xkv xkn xt_ xt_k xt_o xw_ xz_ yh0 yg_row yg_many yg_loss yg_less yg_voteValue yg_voteNumber yg_allValue yg_allNumber yg_nodeL yg_nodeR yg_part yg_wasMany yg_wasLoss yg_wasValue yg_wasNumber yg_path yg_heavyValue yg_heavyTimes yg_fewest yg_which yg_met q_o (j + 1)) {len slots old nodes here js jl je vs lo le sb lb eb tk mo u_thrown u_allMany u_nodes u_partMany u_pathMany u_heavyMany u_mostMet ix : Int32} {f ff ft fs fo fe uv un jv jn fv fn gb nb fk fq fw fz u_many u_loss u_less u_voteValue u_voteNumber u_allValue u_allNumber u_nodeL u_nodeR u_part u_wasMany u_wasLoss u_wasValue u_wasNumber u_path u_heavyValue u_heavyTimes u_fewest u_which u_met : Nat → Int32} {ol : Nat → Int64} (hix : ix.toInt = 8 * (j : Int)) (I0 : 0 ≤ len.toInt) (I1 : len.toInt ≤ 160) (I2 : 1 ≤ slots.toInt) (I3 : slots.toInt ≤ 6) (I4 : shorts f) (I5 : sixes fs) (I6 : laidX old slots here f ff ft fs fo fe uv un nodes len) (I7 : six4 u_many) (I8 : parts320 u_part) {H : Heap} {locs : List Loc} (hP : va_P (dC, dI) vwCl [kx_4 xm_ xq_row xq_t xt_ xh0 xk0 xw_ xz_ slots old, kx_2 xq_t xq_row xq_joined xq_from xq_to xq_size xq_lossOf xq_lessBy xq_value xq_number nodes here, kx_0 xq_row xq_cell len, kx_a xq_cell cyI 160 f, kx_a xq_from cyI 319 ff, kx_a xq_to cyI 319 ft, kx_a xq_size cyI 319 fs, kx_a xq_lossOf cyI 319 fo, kx_a xq_lessBy cyI 319 fe, kx_a xq_value cyI 1914 uv, kx_a xq_number cyI 1914 un, kx_3 xq_joined xj_v xj_n js jl je, kx_a xj_v cyI 12 jv, kx_a xj_n cyI 12 jn, kx_3 xh0 xa_v xa_n vs lo le, kx_a xa_v cyI 12 fv, kx_a xa_n cyI 12 fn, kx_3 xk0 xkv xkn sb lb eb, kx_a xkv cyI 12 gb, kx_a xkn cyI 12 nb, kx_1 xt_ xt_k xt_o tk mo, kx_a xt_k cyI 160 fk, kx_a xt_o cyI 160 fq, kx_a xw_ cyI 160 fw, kx_a xz_ cyI 161 fz, kx_5 yh0 yg_row len slots u_thrown yg_many yg_loss yg_less yg_voteValue yg_voteNumber yg_allValue yg_allNumber u_allMany yg_nodeL yg_nodeR u_nodes yg_part u_partMany yg_wasMany yg_wasLoss yg_wasValue yg_wasNumber yg_path u_pathMany yg_heavyValue yg_heavyTimes u_heavyMany yg_fewest yg_which yg_met u_mostMet, kx_a yg_row cyI 160 f, kx_a yg_many cyI 324 u_many, kx_a yg_loss cyI 324 u_loss, kx_a yg_less cyI 324 u_less, kx_a yg_voteValue cyI 1944 u_voteValue, kx_a yg_voteNumber cyI 1944 u_voteNumber, kx_a yg_allValue cyI 12 u_allValue, kx_a yg_allNumber cyI 12 u_allNumber, kx_a yg_nodeL cyI 320 u_nodeL, kx_a yg_nodeR cyI 320 u_nodeR, kx_a yg_part cyI 320 u_part, kx_a yg_wasMany cyI 320 u_wasMany, kx_a yg_wasLoss cyI 320 u_wasLoss, kx_a yg_wasValue cyI 1920 u_wasValue, kx_a yg_wasNumber cyI 1920 u_wasNumber, kx_a yg_path cyI 12 u_path, kx_a yg_heavyValue cyI 160 u_heavyValue, kx_a yg_heavyTimes cyI 160 u_heavyTimes, kx_a yg_fewest cyI 161 u_fewest, kx_a yg_which cyI 160 u_which, kx_a yg_met cyI 160 u_met, (q_o, .inl (cyL, 1, .inr (.inl ol)))] H) (hD : va_D (fun q : Nat => s.heap.size ≤ q) [kx_4 xm_ xq_row xq_t xt_ xh0 xk0 xw_ xz_ slots old, kx_2 xq_t xq_row xq_joined xq_from xq_to xq_size xq_lossOf xq_lessBy xq_value xq_number nodes here, kx_0 xq_row xq_cell len, kx_a xq_cell cyI 160 f, kx_a xq_from cyI 319 ff, kx_a xq_to cyI 319 ft, kx_a xq_size cyI 319 fs, kx_a xq_lossOf cyI 319 fo, kx_a xq_lessBy cyI 319 fe, kx_a xq_value cyI 1914 uv, kx_a xq_number cyI 1914 un, kx_3 xq_joined xj_v xj_n js jl je, kx_a xj_v cyI 12 jv, kx_a xj_n cyI 12 jn, kx_3 xh0 xa_v xa_n vs lo le, kx_a xa_v cyI 12 fv, kx_a xa_n cyI 12 fn, kx_3 xk0 xkv xkn sb lb eb, kx_a xkv cyI 12 gb, kx_a xkn cyI 12 nb, kx_1 xt_ xt_k xt_o tk mo, kx_a xt_k cyI 160 fk, kx_a xt_o cyI 160 fq, kx_a xw_ cyI 160 fw, kx_a xz_ cyI 161 fz, kx_5 yh0 yg_row len slots u_thrown yg_many yg_loss yg_less yg_voteValue yg_voteNumber yg_allValue yg_allNumber u_allMany yg_nodeL yg_nodeR u_nodes yg_part u_partMany yg_wasMany yg_wasLoss yg_wasValue yg_wasNumber yg_path u_pathMany yg_heavyValue yg_heavyTimes u_heavyMany yg_fewest yg_which yg_met u_mostMet, kx_a yg_row cyI 160 f, kx_a yg_many cyI 324 u_many, kx_a yg_loss cyI 324 u_loss, kx_a yg_less cyI 324 u_less, kx_a yg_voteValue cyI 1944 u_voteValue, kx_a yg_voteNumber cyI 1944 u_voteNumber, kx_a yg_allValue cyI 12 u_allValue, kx_a yg_allNumber cyI 12 u_allNumber, kx_a yg_nodeL cyI 320 u_nodeL, kx_a yg_nodeR cyI 320 u_nodeR, kx_a yg_part cyI 320 u_part, kx_a yg_wasMany cyI 320 u_wasMany, kx_a yg_wasLoss cyI 320 u_wasLoss, kx_a yg_wasValue cyI 1920 u_wasValue, kx_a yg_wasNumber cyI 1920 u_wasNumber, kx_a yg_path cyI 12 u_path, kx_a yg_heavyValue cyI 160 u_heavyValue, kx_a yg_heavyTimes cyI 160 u_heavyTimes, kx_a yg_fewest cyI 161 u_fewest, kx_a yg_which cyI 160 u_which, kx_a yg_met cyI 160 u_met, (q_o, .inl (cyL, 1, .inr (.inl ol)))]) (hS : va_S (fun q : Nat => s.heap.size ≤ q) s.heap H locs) {ls : Array Slot} (hl : lv_has ls 7 [(4, .int ix), (3, .ref q_o), (2, .ref yh0), (1, .ref xm_), (0, .ref b)]) : W p l e room_1 s m #[Value.ref b] below meth c H locs (60 + 2 * j) (20000 + 12 * j) (lw_Z below #[Value.ref b] s) (F0 m 1921 ls []) := by
  obtain ⟨hx, hb, hr, hml, hown, hts0, hX, hbl, hlocks, hgv⟩ := id C0
  have hts := hts0
  have hA : ∀ q : Nat, s.heap.size ≤ q → (fun q : Nat => s.heap.size ≤ q) q := fun _ h => h
  have hbA : ¬ (fun q : Nat => s.heap.size ≤ q) b := Nat.not_le.mpr hbl
  have hown : s.vm.findClass RL = some m.cls := hown
  have hb : c.code = cL_law := hb
  have hj0 : 0 ≤ (j : Int) := Int.natCast_nonneg j
  have hjI : 8 * (j : Int) + 8 ≤ (L : Int) := lw_jI hj
  have hLI : (L : Int) ≤ 4096 := lw_LI hL
  refine lv_aload_n hx hb dL_law_1921 rfl (lv_at hl 3 rfl) ?_
  obtain ⟨hPc, hDc, hFc, hCc⟩ := kx_preM (wc := [kx_4 xm_ xq_row xq_t xt_ xh0 xk0 xw_ xz_ slots old, kx_0 xq_row xq_cell len, kx_a xq_cell cyI 160 f, kx_1 xt_ xt_k xt_o tk mo, kx_a xt_k cyI 160 fk, kx_a xt_o cyI 160 fq]) hP hD hS hA [true, false, true, true, false, false, false, false, false, false, false, false, false, false, false, false, false, false, false, false, true, true, true, false, false, false, false, false, false, false, false, false, false, false, false, false, false, false, false, false, false, false, false, false, false, false, false, false] rfl
  have hKc := hK.sub (tys' := [(cyI, .int)]) [0] rfl
  refine va_calli (va_runV (As := []) (rest := []) ⟨hx, hb, hml, hown, (lwC_X4_majorities hts0)⟩ (kx_un (c_X4_majorities l dC dI xm_ xq_row xq_t xt_ xh0 xk0 xw_ xz_ slots old xq_cell cyI len f xt_k xt_o tk mo fk fq H.size I0 I1)) (cwV 0 (lwC_X4_majorities hts0) lwG_X4_majorities rfl rfl rfl (by decide +kernel) ⟨Nat.le_of_ble_eq_true rfl, Nat.le_of_ble_eq_true rfl⟩) ⟨fun a U g mk q => by obtain ⟨q0, q1, qP, qK, qD⟩ := q; exact ⟨q0, q1, qP, va_K.moved (u := U) (U := U.calling g mk a) (Vm.Alike.refl U.vm) qK, qD⟩, kx_rc4 hKc hPc (q0 := 0) rfl, fun U hU hW => ⟨rfl, by rw [hU], by rw [hU]; exact hPc, va_K.moved hW.alike hKc, hDc.weaken (fun _ _ _ _ => trivial)⟩⟩ rfl rfl hl.1 rfl (lv_room (Nat.le_of_ble_eq_true rfl)) dL_law_1922 (lw_fitJ hj hL (Nat.le_of_ble_eq_true rfl) (Nat.le_of_ble_eq_true rfl))) hS (fun q _ h => hFc q h) hFc (fun r_1 u t H1 locs ht hvm w_1 hB hz1 hk1 hS => ?_)
  obtain ⟨o_2, o_3, o_4, o_5⟩ := u
  dsimp only at w_1 hB
  obtain ⟨hP1, hK1, hD1⟩ := hB
  rw [ht] at hP1
  have hK1 := va_K.moved hvm.symm hK1
  obtain ⟨hP, hD⟩ := kx_joinM (w2 := [kx_4 xm_ xq_row xq_t xt_ xh0 xk0 xw_ xz_ slots old, kx_2 xq_t xq_row xq_joined xq_from xq_to xq_size xq_lossOf xq_lessBy xq_value xq_number nodes here, kx_0 xq_row xq_cell len, kx_a xq_cell cyI 160 f, kx_a xq_from cyI 319 ff, kx_a xq_to cyI 319 ft, kx_a xq_size cyI 319 fs, kx_a xq_lossOf cyI 319 fo, kx_a xq_lessBy cyI 319 fe, kx_a xq_value cyI 1914 uv, kx_a xq_number cyI 1914 un, kx_3 xq_joined xj_v xj_n js jl je, kx_a xj_v cyI 12 jv, kx_a xj_n cyI 12 jn, kx_3 xh0 xa_v xa_n vs lo le, kx_a xa_v cyI 12 fv, kx_a xa_n cyI 12 fn, kx_3 xk0 xkv xkn sb lb eb, kx_a xkv cyI 12 gb, kx_a xkn cyI 12 nb, kx_1 xt_ xt_k xt_o o_2 o_3, kx_a xt_k cyI 160 o_4, kx_a xt_o cyI 160 o_5, kx_a xw_ cyI 160 fw, kx_a xz_ cyI 161 fz, kx_5 yh0 yg_row len slots u_thrown yg_many yg_loss yg_less yg_voteValue yg_voteNumber yg_allValue yg_allNumber u_allMany yg_nodeL yg_nodeR u_nodes yg_part u_partMany yg_wasMany yg_wasLoss yg_wasValue yg_wasNumber yg_path u_pathMany yg_heavyValue yg_heavyTimes u_heavyMany yg_fewest yg_which yg_met u_mostMet, kx_a yg_row cyI 160 f, kx_a yg_many cyI 324 u_many, kx_a yg_loss cyI 324 u_loss, kx_a yg_less cyI 324 u_less, kx_a yg_voteValue cyI 1944 u_voteValue, kx_a yg_voteNumber cyI 1944 u_voteNumber, kx_a yg_allValue cyI 12 u_allValue, kx_a yg_allNumber cyI 12 u_allNumber, kx_a yg_nodeL cyI 320 u_nodeL, kx_a yg_nodeR cyI 320 u_nodeR, kx_a yg_part cyI 320 u_part, kx_a yg_wasMany cyI 320 u_wasMany, kx_a yg_wasLoss cyI 320 u_wasLoss, kx_a yg_wasValue cyI 1920 u_wasValue, kx_a yg_wasNumber cyI 1920 u_wasNumber, kx_a yg_path cyI 12 u_path, kx_a yg_heavyValue cyI 160 u_heavyValue, kx_a yg_heavyTimes cyI 160 u_heavyTimes, kx_a yg_fewest cyI 161 u_fewest, kx_a yg_which cyI 160 u_which, kx_a yg_met cyI 160 u_met, (q_o, .inl (cyL, 1, .inr (.inl ol)))]) hP hD hP1 hD1 hk1 hFc [true, false, true, true, false, false, false, false, false, false, false, false, false, false, false, false, false, false, false, false, true, true, true, false, false, false, false, false, false, false, false, false, false, false, false, false, false, false, false, false, false, false, false, false, false, false, false, false] hCc rfl
  clear hP1 hD1 hK1 hk1 hz1 hFc hDc hPc hKc hCc
  generalize H1 = H at hP hS ⊢
  have w_1 : True := w_1
  refine lv_pop hx hb dL_law_1925 rfl ?_
  refine lv_aload_n hx hb dL_law_1926 rfl (lv_at hl 2 rfl) ?_
  obtain ⟨hPc, hDc, hFc, hCc⟩ := kx_preM (wc := [kx_5 yh0 yg_row len slots u_thrown yg_many yg_loss yg_less yg_voteValue yg_voteNumber yg_allValue yg_allNumber u_allMany yg_nodeL yg_nodeR u_nodes yg_part u_partMany yg_wasMany yg_wasLoss yg_wasValue yg_wasNumber yg_path u_pathMany yg_heavyValue yg_heavyTimes u_heavyMany yg_fewest yg_which yg_met u_mostMet, kx_a yg_row cyI 160 f, kx_a yg_which cyI 160 u_which, kx_a yg_met cyI 160 u_met]) hP hD hS hA [false, false, false, false, false, false, false, false, false, false, false, false, false, false, false, false, false, false, false, false, false, false, false, false, false, true, true, false, false, false, false, false, false, false, false, false, false, false, false, false, false, false, false, false, false, true, true, false] rfl
  have hKc := hK.sub (tys' := [(cyI, .int)]) [0] rfl
  refine va_calli (va_runV (As := []) (rest := []) ⟨hx, hb, hml, hown, (lwC_X5_majorities hts0)⟩ (kx_un (c_X5_majorities l dC dI yh0 yg_row yg_many yg_loss yg_less yg_voteValue yg_voteNumber yg_allValue yg_allNumber yg_nodeL yg_nodeR yg_part yg_wasMany yg_wasLoss yg_wasValue yg_wasNumber yg_path yg_heavyValue yg_heavyTimes yg_fewest yg_which yg_met len slots u_thrown u_allMany u_nodes u_partMany u_pathMany u_heavyMany u_mostMet cyI f u_which u_met H.size I0 I1)) (cwV 0 (lwC_X5_majorities hts0) lwG_X5_majorities rfl rfl rfl (by decide +kernel) ⟨Nat.le_of_ble_eq_true rfl, Nat.le_of_ble_eq_true rfl⟩) ⟨fun a U g mk q => by obtain ⟨q0, q1, qP, qK, qD⟩ := q; exact ⟨q0, q1, qP, va_K.moved (u := U) (U := U.calling g mk a) (Vm.Alike.refl U.vm) qK, qD⟩, kx_rc5 hKc hPc (q0 := 0) rfl, fun U hU hW => ⟨rfl, by rw [hU], by rw [hU]; exact hPc, va_K.moved hW.alike hKc, hDc.weaken (fun _ _ _ _ => trivial)⟩⟩ rfl rfl hl.1 rfl (lv_room (Nat.le_of_ble_eq_true rfl)) dL_law_1927 (lw_fitJ hj hL (Nat.le_of_ble_eq_true rfl) (Nat.le_of_ble_eq_true rfl))) hS (fun q _ h => hFc q h) hFc (fun r_6 u t H1 locs ht hvm w_6 hB hz1 hk1 hS => ?_)
  obtain ⟨o_7, o_8, o_9⟩ := u
  dsimp only at w_6 hB
  obtain ⟨hP1, hK1, hD1⟩ := hB
  rw [ht] at hP1
  have hK1 := va_K.moved hvm.symm hK1
  obtain ⟨hP, hD⟩ := kx_joinM (w2 := [kx_4 xm_ xq_row xq_t xt_ xh0 xk0 xw_ xz_ slots old, kx_2 xq_t xq_row xq_joined xq_from xq_to xq_size xq_lossOf xq_lessBy xq_value xq_number nodes here, kx_0 xq_row xq_cell len, kx_a xq_cell cyI 160 f, kx_a xq_from cyI 319 ff, kx_a xq_to cyI 319 ft, kx_a xq_size cyI 319 fs, kx_a xq_lossOf cyI 319 fo, kx_a xq_lessBy cyI 319 fe, kx_a xq_value cyI 1914 uv, kx_a xq_number cyI 1914 un, kx_3 xq_joined xj_v xj_n js jl je, kx_a xj_v cyI 12 jv, kx_a xj_n cyI 12 jn, kx_3 xh0 xa_v xa_n vs lo le, kx_a xa_v cyI 12 fv, kx_a xa_n cyI 12 fn, kx_3 xk0 xkv xkn sb lb eb, kx_a xkv cyI 12 gb, kx_a xkn cyI 12 nb, kx_1 xt_ xt_k xt_o o_2 o_3, kx_a xt_k cyI 160 o_4, kx_a xt_o cyI 160 o_5, kx_a xw_ cyI 160 fw, kx_a xz_ cyI 161 fz, kx_5 yh0 yg_row len slots 0 yg_many yg_loss yg_less yg_voteValue yg_voteNumber yg_allValue yg_allNumber u_allMany yg_nodeL yg_nodeR u_nodes yg_part u_partMany yg_wasMany yg_wasLoss yg_wasValue yg_wasNumber yg_path u_pathMany yg_heavyValue yg_heavyTimes u_heavyMany yg_fewest yg_which yg_met o_7, kx_a yg_row cyI 160 f, kx_a yg_many cyI 324 u_many, kx_a yg_loss cyI 324 u_loss, kx_a yg_less cyI 324 u_less, kx_a yg_voteValue cyI 1944 u_voteValue, kx_a yg_voteNumber cyI 1944 u_voteNumber, kx_a yg_allValue cyI 12 u_allValue, kx_a yg_allNumber cyI 12 u_allNumber, kx_a yg_nodeL cyI 320 u_nodeL, kx_a yg_nodeR cyI 320 u_nodeR, kx_a yg_part cyI 320 u_part, kx_a yg_wasMany cyI 320 u_wasMany, kx_a yg_wasLoss cyI 320 u_wasLoss, kx_a yg_wasValue cyI 1920 u_wasValue, kx_a yg_wasNumber cyI 1920 u_wasNumber, kx_a yg_path cyI 12 u_path, kx_a yg_heavyValue cyI 160 u_heavyValue, kx_a yg_heavyTimes cyI 160 u_heavyTimes, kx_a yg_fewest cyI 161 u_fewest, kx_a yg_which cyI 160 o_8, kx_a yg_met cyI 160 o_9, (q_o, .inl (cyL, 1, .inr (.inl ol)))]) hP hD hP1 hD1 hk1 hFc [false, false, false, false, false, false, false, false, false, false, false, false, false, false, false, false, false, false, false, false, false, false, false, false, false, true, true, false, false, false, false, false, false, false, false, false, false, false, false, false, false, false, false, false, false, true, true, false] hCc rfl
  clear hP1 hD1 hK1 hk1 hz1 hFc hDc hPc hKc hCc
  generalize H1 = H at hP hS ⊢
  have w_6 : True := w_6
  refine lv_pop hx hb dL_law_1930 rfl ?_
  refine lv_goto (tgt := 2288) hx hb dL_law_1931 (by decide) ?_
  obtain ⟨x_10, ex_10⟩ : ∃ y : Int32, y = ix + 8 := ⟨_, rfl⟩
  have i_10 : x_10.toInt = ix.toInt + 8 := ki_add ex_10 rfl rfl (om_578 hix hj0) (om_579 hix hjI hLI)
  refine lv_iinc (v := x_10) (lv' := [(4, .int x_10), (3, .ref q_o), (2, .ref yh0), (1, .ref xm_), (0, .ref b)]) hx hb dL_law_2288 hl (k := 0) rfl (by rw [ex_10]; rfl) (by decide) rfl (fun ls hl => ?_)
  refine lv_goto (tgt := 23) hx hb dL_law_2291 (by decide) ?_
  refine W.widen (k := 60 + 2 * (j + 1)) (n := 20000 + 12 * (j + 1)) (lw_wdC (k := 0) (Nat.le_of_ble_eq_true rfl)) (lw_wdS (k := 0) (Nat.le_of_ble_eq_true rfl)) ?_
  have k_11 : (0 : Int32).toInt = 0 := rfl
  exact ih len slots old nodes here js jl je vs lo le sb lb eb o_2 o_3 0 u_allMany u_nodes u_partMany u_pathMany u_heavyMany o_7 f ff ft fs fo fe uv un jv jn fv fn gb nb o_4 o_5 fw fz u_many u_loss u_less u_voteValue u_voteNumber u_allValue u_allNumber u_nodeL u_nodeR u_part u_wasMany u_wasLoss u_wasValue u_wasNumber u_path u_heavyValue u_heavyTimes u_fewest o_8 o_9 ol x_10 (om_ix i_10 hix) I0 I1 I2 I3 I4 I5 I6 I7 I8 _ _ ls hP hD hS (lv_sub hl [0, 1, 2, 3, 4] rfl)


set_option maxHeartbeats 4000000 in
set_option maxRecDepth 100000 in
theorem lc_38 {p : Program} {l : Launch} {e : Env} {s : State} {m : MethodId} {below : List Frame} {meth : Method} {c : Code} {dC : Nat → ClassId} {dI : Nat → Nat → Nat} {b : Nat} {xs : Nat → Int32} (hl0 : l.stackTraces = false) {L j : Nat} (hL : L ≤ 4096) (hj : 8 * j + 8 ≤ L) (C0 : lw_At p s m meth c b L xs) (hth : ki_ThA (fun q : Nat => s.heap.size ≤ q) s) {cyI cyL : ClassId} {xm_ xq_t xq_row xq_cell xq_from xq_to xq_size xq_lossOf xq_lessBy xq_value xq_number xq_joined xj_v xj_n xh0 xa_v xa_n xk0 xkv xkn xt_ xt_k xt_o xw_ xz_ yh0 yg_row yg_many yg_loss yg_less yg_voteValue yg_voteNumber yg_allValue yg_allNumber yg_nodeL yg_nodeR yg_part yg_wasMany yg_wasLoss yg_wasValue yg_wasNumber yg_path yg_heavyValue yg_heavyTimes yg_fewest yg_which yg_met q_o : Nat} (hK : va_K (dC, dI) vwCl [(cyI, .int), (cyL, .long)] s) (ih : lw_G p l e s m below meth c b dC dI cyI cyL xm_ xq_t xq_row xq_cell xq_from xq_to xq_size xq_lossOf xq_lessBy xq_value xq_number xq_joined xj_v xj_n xh0 xa_v xa_n xk0 xkv xkn xt_ xt_k xt_o xw_ xz_ yh0 yg_row yg_many yg_loss yg_less yg_voteValue yg_voteNumber yg_allValue yg_allNumber yg_nodeL yg_nodeR yg_part yg_wasMany yg_wasLoss yg_wasValue yg_wasNumber yg_path yg_heavyValue yg_heavyTimes yg_fewest yg_which yg_met q_o (j + 1)) {len slots old nodes here js jl je vs lo le sb lb eb tk mo u_thrown u_allMany u_nodes u_partMany u_pathMany u_heavyMany u_mostMet ix : Int32} {f ff ft fs fo fe uv un jv jn fv fn gb nb fk fq fw fz u_many u_loss u_less u_voteValue u_voteNumber u_allValue u_allNumber u_nodeL u_nodeR u_part u_wasMany u_wasLoss u_wasValue u_wasNumber u_path u_heavyValue u_heavyTimes u_fewest u_which u_met : Nat → Int32} {ol : Nat → Int64} (hix : ix.toInt = 8 * (j : Int)) (I0 : 0 ≤ len.toInt) (I1 : len.toInt ≤ 160) (I2 : 1 ≤ slots.toInt) (I3 : slots.toInt ≤ 6) (I4 : shorts f) (I5 : sixes fs) (I6 : laidX old slots here f ff ft fs fo fe uv un nodes len) (I7 : six4 u_many) (I8 : parts320 u_part) {H : Heap} {locs : List Loc} (hP : va_P (dC, dI) vwCl [kx_4 xm_ xq_row xq_t xt_ xh0 xk0 xw_ xz_ slots old, kx_2 xq_t xq_row xq_joined xq_from xq_to xq_size xq_lossOf xq_lessBy xq_value xq_number nodes here, kx_0 xq_row xq_cell len, kx_a xq_cell cyI 160 f, kx_a xq_from cyI 319 ff, kx_a xq_to cyI 319 ft, kx_a xq_size cyI 319 fs, kx_a xq_lossOf cyI 319 fo, kx_a xq_lessBy cyI 319 fe, kx_a xq_value cyI 1914 uv, kx_a xq_number cyI 1914 un, kx_3 xq_joined xj_v xj_n js jl je, kx_a xj_v cyI 12 jv, kx_a xj_n cyI 12 jn, kx_3 xh0 xa_v xa_n vs lo le, kx_a xa_v cyI 12 fv, kx_a xa_n cyI 12 fn, kx_3 xk0 xkv xkn sb lb eb, kx_a xkv cyI 12 gb, kx_a xkn cyI 12 nb, kx_1 xt_ xt_k xt_o tk mo, kx_a xt_k cyI 160 fk, kx_a xt_o cyI 160 fq, kx_a xw_ cyI 160 fw, kx_a xz_ cyI 161 fz, kx_5 yh0 yg_row len slots u_thrown yg_many yg_loss yg_less yg_voteValue yg_voteNumber yg_allValue yg_allNumber u_allMany yg_nodeL yg_nodeR u_nodes yg_part u_partMany yg_wasMany yg_wasLoss yg_wasValue yg_wasNumber yg_path u_pathMany yg_heavyValue yg_heavyTimes u_heavyMany yg_fewest yg_which yg_met u_mostMet, kx_a yg_row cyI 160 f, kx_a yg_many cyI 324 u_many, kx_a yg_loss cyI 324 u_loss, kx_a yg_less cyI 324 u_less, kx_a yg_voteValue cyI 1944 u_voteValue, kx_a yg_voteNumber cyI 1944 u_voteNumber, kx_a yg_allValue cyI 12 u_allValue, kx_a yg_allNumber cyI 12 u_allNumber, kx_a yg_nodeL cyI 320 u_nodeL, kx_a yg_nodeR cyI 320 u_nodeR, kx_a yg_part cyI 320 u_part, kx_a yg_wasMany cyI 320 u_wasMany, kx_a yg_wasLoss cyI 320 u_wasLoss, kx_a yg_wasValue cyI 1920 u_wasValue, kx_a yg_wasNumber cyI 1920 u_wasNumber, kx_a yg_path cyI 12 u_path, kx_a yg_heavyValue cyI 160 u_heavyValue, kx_a yg_heavyTimes cyI 160 u_heavyTimes, kx_a yg_fewest cyI 161 u_fewest, kx_a yg_which cyI 160 u_which, kx_a yg_met cyI 160 u_met, (q_o, .inl (cyL, 1, .inr (.inl ol)))] H) (hD : va_D (fun q : Nat => s.heap.size ≤ q) [kx_4 xm_ xq_row xq_t xt_ xh0 xk0 xw_ xz_ slots old, kx_2 xq_t xq_row xq_joined xq_from xq_to xq_size xq_lossOf xq_lessBy xq_value xq_number nodes here, kx_0 xq_row xq_cell len, kx_a xq_cell cyI 160 f, kx_a xq_from cyI 319 ff, kx_a xq_to cyI 319 ft, kx_a xq_size cyI 319 fs, kx_a xq_lossOf cyI 319 fo, kx_a xq_lessBy cyI 319 fe, kx_a xq_value cyI 1914 uv, kx_a xq_number cyI 1914 un, kx_3 xq_joined xj_v xj_n js jl je, kx_a xj_v cyI 12 jv, kx_a xj_n cyI 12 jn, kx_3 xh0 xa_v xa_n vs lo le, kx_a xa_v cyI 12 fv, kx_a xa_n cyI 12 fn, kx_3 xk0 xkv xkn sb lb eb, kx_a xkv cyI 12 gb, kx_a xkn cyI 12 nb, kx_1 xt_ xt_k xt_o tk mo, kx_a xt_k cyI 160 fk, kx_a xt_o cyI 160 fq, kx_a xw_ cyI 160 fw, kx_a xz_ cyI 161 fz, kx_5 yh0 yg_row len slots u_thrown yg_many yg_loss yg_less yg_voteValue yg_voteNumber yg_allValue yg_allNumber u_allMany yg_nodeL yg_nodeR u_nodes yg_part u_partMany yg_wasMany yg_wasLoss yg_wasValue yg_wasNumber yg_path u_pathMany yg_heavyValue yg_heavyTimes u_heavyMany yg_fewest yg_which yg_met u_mostMet, kx_a yg_row cyI 160 f, kx_a yg_many cyI 324 u_many, kx_a yg_loss cyI 324 u_loss, kx_a yg_less cyI 324 u_less, kx_a yg_voteValue cyI 1944 u_voteValue, kx_a yg_voteNumber cyI 1944 u_voteNumber, kx_a yg_allValue cyI 12 u_allValue, kx_a yg_allNumber cyI 12 u_allNumber, kx_a yg_nodeL cyI 320 u_nodeL, kx_a yg_nodeR cyI 320 u_nodeR, kx_a yg_part cyI 320 u_part, kx_a yg_wasMany cyI 320 u_wasMany, kx_a yg_wasLoss cyI 320 u_wasLoss, kx_a yg_wasValue cyI 1920 u_wasValue, kx_a yg_wasNumber cyI 1920 u_wasNumber, kx_a yg_path cyI 12 u_path, kx_a yg_heavyValue cyI 160 u_heavyValue, kx_a yg_heavyTimes cyI 160 u_heavyTimes, kx_a yg_fewest cyI 161 u_fewest, kx_a yg_which cyI 160 u_which, kx_a yg_met cyI 160 u_met, (q_o, .inl (cyL, 1, .inr (.inl ol)))]) (hS : va_S (fun q : Nat => s.heap.size ≤ q) s.heap H locs) {ls : Array Slot} (hl : lv_has ls 7 [(4, .int ix), (3, .ref q_o), (2, .ref yh0), (1, .ref xm_), (0, .ref b)]) : W p l e room_1 s m #[Value.ref b] below meth c H locs (60 + 2 * j) (20000 + 12 * j) (lw_Z below #[Value.ref b] s) (F0 m 1934 ls []) := by
  obtain ⟨hx, hb, hr, hml, hown, hts0, hX, hbl, hlocks, hgv⟩ := id C0
  have hts := hts0
  have hA : ∀ q : Nat, s.heap.size ≤ q → (fun q : Nat => s.heap.size ≤ q) q := fun _ h => h
  have hbA : ¬ (fun q : Nat => s.heap.size ≤ q) b := Nat.not_le.mpr hbl
  have hown : s.vm.findClass RL = some m.cls := hown
  have hb : c.code = cL_law := hb
  have hj0 : 0 ≤ (j : Int) := Int.natCast_nonneg j
  have hjI : 8 * (j : Int) + 8 ≤ (L : Int) := lw_jI hj
  have hLI : (L : Int) ≤ 4096 := lw_LI hL
  refine lv_aload_n hx hb dL_law_1934 rfl (lv_at hl 3 rfl) ?_
  refine lv_aload_n hx hb dL_law_1935 rfl (lv_at hl 4 rfl) ?_
  refine lv_iload hx hb dL_law_1936 (lv_at hl 0 rfl) ?_
  refine lv_iconst (v := 1) hx hb dL_law_1938 (by decide) ?_
  refine lv_iadd hx hb dL_law_1939 ?_
  refine lv_topi (fun y_1 ey_1 => ?_)
  have i_1 : y_1.toInt = ix.toInt + 1 := ki_add ey_1 rfl rfl (om_568 hix hj0) (om_569 hix hjI hLI)
  refine va_sld hx hb hX hbl hbA hS (i := y_1) (ki_in (om_570 hix hj0 i_1) (om_571 hix hjI i_1)) dL_law_1940 ?_
  refine lv_topi (fun y_2 ey_2 => ?_)
  refine lv_aload_n hx hb dL_law_1941 rfl (lv_at hl 4 rfl) ?_
  refine lv_iload hx hb dL_law_1942 (lv_at hl 0 rfl) ?_
  refine lv_iconst (v := 2) hx hb dL_law_1944 (by decide) ?_
  refine lv_iadd hx hb dL_law_1945 ?_
  refine lv_topi (fun y_3 ey_3 => ?_)
  have i_3 : y_3.toInt = ix.toInt + 2 := ki_add ey_3 rfl rfl (om_572 hix hj0) (om_573 hix hjI hLI)
  refine va_sld hx hb hX hbl hbA hS (i := y_3) (ki_in (om_574 hix hj0 i_3) (om_575 hix hjI i_3)) dL_law_1946 ?_
  refine lv_topi (fun y_4 ey_4 => ?_)
  refine lv_aload_n hx hb dL_law_1947 rfl (lv_at hl 4 rfl) ?_
  refine lv_iload hx hb dL_law_1948 (lv_at hl 0 rfl) ?_
  refine lv_iconst (v := 3) hx hb dL_law_1950 (by decide) ?_
  refine lv_iadd hx hb dL_law_1951 ?_
  refine lv_topi (fun y_5 ey_5 => ?_)
  have i_5 : y_5.toInt = ix.toInt + 3 := ki_add ey_5 rfl rfl (om_580 hix hj0) (om_581 hix hjI hLI)
  refine va_sld hx hb hX hbl hbA hS (i := y_5) (ki_in (om_582 hix hj0 i_5) (om_583 hix hjI i_5)) dL_law_1952 ?_
  refine lv_topi (fun y_6 ey_6 => ?_)
  refine lv_aload_n hx hb dL_law_1953 rfl (lv_at hl 4 rfl) ?_
  refine lv_iload hx hb dL_law_1954 (lv_at hl 0 rfl) ?_
  refine lv_iconst (v := 4) hx hb dL_law_1956 (by decide) ?_
  refine lv_iadd hx hb dL_law_1957 ?_
  refine lv_topi (fun y_7 ey_7 => ?_)
  have i_7 : y_7.toInt = ix.toInt + 4 := ki_add ey_7 rfl rfl (om_585 hix hj0) (om_586 hix hjI hLI)
  refine va_sld hx hb hX hbl hbA hS (i := y_7) (ki_in (om_587 hix hj0 i_7) (om_588 hix hjI i_7)) dL_law_1958 ?_
  refine lv_topi (fun y_8 ey_8 => ?_)
  obtain ⟨hPc, hDc, hFc, hCc⟩ := kx_preM (wc := [kx_4 xm_ xq_row xq_t xt_ xh0 xk0 xw_ xz_ slots old, kx_0 xq_row xq_cell len, kx_a xq_cell cyI 160 f, kx_1 xt_ xt_k xt_o tk mo, kx_a xt_k cyI 160 fk, kx_a xt_o cyI 160 fq, kx_a xw_ cyI 160 fw]) hP hD hS hA [true, false, true, true, false, false, false, false, false, false, false, false, false, false, false, false, false, false, false, false, true, true, true, true, false, false, false, false, false, false, false, false, false, false, false, false, false, false, false, false, false, false, false, false, false, false, false, false] rfl
  have hKc := hK.sub (tys' := [(cyI, .int)]) [0] rfl
  refine va_calli (va_runV (As := [.int y_2, .int y_4, .int y_6, .int y_8]) (rest := []) ⟨hx, hb, hml, hown, (lwC_X4_windows hts0)⟩ (kx_un (c_X4_windows l dC dI xm_ xq_row xq_t xt_ xh0 xk0 xw_ xz_ slots old xq_cell cyI len f xt_k xt_o tk mo fk fq fw y_2 y_4 y_6 y_8 H.size I0 I1)) (cwV 4 (lwC_X4_windows hts0) lwG_X4_windows rfl rfl rfl (by decide +kernel) ⟨Nat.le_of_ble_eq_true rfl, Nat.le_of_ble_eq_true rfl⟩) ⟨fun a U g mk q => by obtain ⟨q0, q1, qP, qK, qD⟩ := q; exact ⟨q0, q1, qP, va_K.moved (u := U) (U := U.calling g mk a) (Vm.Alike.refl U.vm) qK, qD⟩, kx_rc4 hKc hPc (q0 := 0) rfl, fun U hU hW => ⟨rfl, by rw [hU], by rw [hU]; exact hPc, va_K.moved hW.alike hKc, hDc.weaken (fun _ _ _ _ => trivial)⟩⟩ rfl rfl hl.1 rfl (lv_room (Nat.le_of_ble_eq_true rfl)) dL_law_1959 (lw_fitJ hj hL (Nat.le_of_ble_eq_true rfl) (Nat.le_of_ble_eq_true rfl))) hS (fun q _ h => hFc q h) hFc (fun r_9 u t H1 locs ht hvm w_9 hB hz1 hk1 hS => ?_)
  obtain ⟨o_10, o_11, o_12, o_13, o_14⟩ := u
  dsimp only at w_9 hB
  obtain ⟨hP1, hK1, hD1⟩ := hB
  rw [ht] at hP1
  have hK1 := va_K.moved hvm.symm hK1
  obtain ⟨hP, hD⟩ := kx_joinM (w2 := [kx_4 xm_ xq_row xq_t xt_ xh0 xk0 xw_ xz_ slots old, kx_2 xq_t xq_row xq_joined xq_from xq_to xq_size xq_lossOf xq_lessBy xq_value xq_number nodes here, kx_0 xq_row xq_cell len, kx_a xq_cell cyI 160 f, kx_a xq_from cyI 319 ff, kx_a xq_to cyI 319 ft, kx_a xq_size cyI 319 fs, kx_a xq_lossOf cyI 319 fo, kx_a xq_lessBy cyI 319 fe, kx_a xq_value cyI 1914 uv, kx_a xq_number cyI 1914 un, kx_3 xq_joined xj_v xj_n js jl je, kx_a xj_v cyI 12 jv, kx_a xj_n cyI 12 jn, kx_3 xh0 xa_v xa_n vs lo le, kx_a xa_v cyI 12 fv, kx_a xa_n cyI 12 fn, kx_3 xk0 xkv xkn sb lb eb, kx_a xkv cyI 12 gb, kx_a xkn cyI 12 nb, kx_1 xt_ xt_k xt_o o_10 o_11, kx_a xt_k cyI 160 o_12, kx_a xt_o cyI 160 o_13, kx_a xw_ cyI 160 o_14, kx_a xz_ cyI 161 fz, kx_5 yh0 yg_row len slots u_thrown yg_many yg_loss yg_less yg_voteValue yg_voteNumber yg_allValue yg_allNumber u_allMany yg_nodeL yg_nodeR u_nodes yg_part u_partMany yg_wasMany yg_wasLoss yg_wasValue yg_wasNumber yg_path u_pathMany yg_heavyValue yg_heavyTimes u_heavyMany yg_fewest yg_which yg_met u_mostMet, kx_a yg_row cyI 160 f, kx_a yg_many cyI 324 u_many, kx_a yg_loss cyI 324 u_loss, kx_a yg_less cyI 324 u_less, kx_a yg_voteValue cyI 1944 u_voteValue, kx_a yg_voteNumber cyI 1944 u_voteNumber, kx_a yg_allValue cyI 12 u_allValue, kx_a yg_allNumber cyI 12 u_allNumber, kx_a yg_nodeL cyI 320 u_nodeL, kx_a yg_nodeR cyI 320 u_nodeR, kx_a yg_part cyI 320 u_part, kx_a yg_wasMany cyI 320 u_wasMany, kx_a yg_wasLoss cyI 320 u_wasLoss, kx_a yg_wasValue cyI 1920 u_wasValue, kx_a yg_wasNumber cyI 1920 u_wasNumber, kx_a yg_path cyI 12 u_path, kx_a yg_heavyValue cyI 160 u_heavyValue, kx_a yg_heavyTimes cyI 160 u_heavyTimes, kx_a yg_fewest cyI 161 u_fewest, kx_a yg_which cyI 160 u_which, kx_a yg_met cyI 160 u_met, (q_o, .inl (cyL, 1, .inr (.inl ol)))]) hP hD hP1 hD1 hk1 hFc [true, false, true, true, false, false, false, false, false, false, false, false, false, false, false, false, false, false, false, false, true, true, true, true, false, false, false, false, false, false, false, false, false, false, false, false, false, false, false, false, false, false, false, false, false, false, false, false] hCc rfl
  clear hP1 hD1 hK1 hk1 hz1 hFc hDc hPc hKc hCc
  generalize H1 = H at hP hS ⊢
  have w_9 : True := w_9
  refine lv_pop hx hb dL_law_1962 rfl ?_
  refine lv_aload_n hx hb dL_law_1963 rfl (lv_at hl 2 rfl) ?_
  refine lv_aload_n hx hb dL_law_1964 rfl (lv_at hl 4 rfl) ?_
  refine lv_iload hx hb dL_law_1965 (lv_at hl 0 rfl) ?_
  refine lv_iconst (v := 1) hx hb dL_law_1967 (by decide) ?_
  refine lv_iadd hx hb dL_law_1968 ?_
  refine lv_topi (fun y_15 ey_15 => ?_)
  have i_15 : y_15.toInt = ix.toInt + 1 := ki_add ey_15 rfl rfl (om_568 hix hj0) (om_569 hix hjI hLI)
  refine va_sld hx hb hX hbl hbA hS (i := y_15) (ki_in (om_570 hix hj0 i_15) (om_571 hix hjI i_15)) dL_law_1969 ?_
  refine lv_topi (fun y_16 ey_16 => ?_)
  have qy_16 : y_2 = y_16 := by rw [ey_2, ey_16, ki_nateq (show y_1.toInt = y_15.toInt from (om_576 i_1 i_15))]
  subst qy_16
  refine lv_aload_n hx hb dL_law_1970 rfl (lv_at hl 4 rfl) ?_
  refine lv_iload hx hb dL_law_1971 (lv_at hl 0 rfl) ?_
  refine lv_iconst (v := 2) hx hb dL_law_1973 (by decide) ?_
  refine lv_iadd hx hb dL_law_1974 ?_
  refine lv_topi (fun y_17 ey_17 => ?_)
  have i_17 : y_17.toInt = ix.toInt + 2 := ki_add ey_17 rfl rfl (om_572 hix hj0) (om_573 hix hjI hLI)
  refine va_sld hx hb hX hbl hbA hS (i := y_17) (ki_in (om_574 hix hj0 i_17) (om_575 hix hjI i_17)) dL_law_1975 ?_
  refine lv_topi (fun y_18 ey_18 => ?_)
  have qy_18 : y_4 = y_18 := by rw [ey_4, ey_18, ki_nateq (show y_3.toInt = y_17.toInt from (om_577 i_3 i_17))]
  subst qy_18
  refine lv_aload_n hx hb dL_law_1976 rfl (lv_at hl 4 rfl) ?_
  refine lv_iload hx hb dL_law_1977 (lv_at hl 0 rfl) ?_
  refine lv_iconst (v := 3) hx hb dL_law_1979 (by decide) ?_
  refine lv_iadd hx hb dL_law_1980 ?_
  refine lv_topi (fun y_19 ey_19 => ?_)
  have i_19 : y_19.toInt = ix.toInt + 3 := ki_add ey_19 rfl rfl (om_580 hix hj0) (om_581 hix hjI hLI)
  refine va_sld hx hb hX hbl hbA hS (i := y_19) (ki_in (om_582 hix hj0 i_19) (om_583 hix hjI i_19)) dL_law_1981 ?_
  refine lv_topi (fun y_20 ey_20 => ?_)
  have qy_20 : y_6 = y_20 := by rw [ey_6, ey_20, ki_nateq (show y_5.toInt = y_19.toInt from (om_584 i_5 i_19))]
  subst qy_20
  refine lv_aload_n hx hb dL_law_1982 rfl (lv_at hl 4 rfl) ?_
  refine lv_iload hx hb dL_law_1983 (lv_at hl 0 rfl) ?_
  refine lv_iconst (v := 4) hx hb dL_law_1985 (by decide) ?_
  refine lv_iadd hx hb dL_law_1986 ?_
  refine lv_topi (fun y_21 ey_21 => ?_)
  have i_21 : y_21.toInt = ix.toInt + 4 := ki_add ey_21 rfl rfl (om_585 hix hj0) (om_586 hix hjI hLI)
  refine va_sld hx hb hX hbl hbA hS (i := y_21) (ki_in (om_587 hix hj0 i_21) (om_588 hix hjI i_21)) dL_law_1987 ?_
  refine lv_topi (fun y_22 ey_22 => ?_)
  have qy_22 : y_8 = y_22 := by rw [ey_8, ey_22, ki_nateq (show y_7.toInt = y_21.toInt from (om_589 i_7 i_21))]
  subst qy_22
  obtain ⟨hPc, hDc, hFc, hCc⟩ := kx_preM (wc := [kx_5 yh0 yg_row len slots u_thrown yg_many yg_loss yg_less yg_voteValue yg_voteNumber yg_allValue yg_allNumber u_allMany yg_nodeL yg_nodeR u_nodes yg_part u_partMany yg_wasMany yg_wasLoss yg_wasValue yg_wasNumber yg_path u_pathMany yg_heavyValue yg_heavyTimes u_heavyMany yg_fewest yg_which yg_met u_mostMet, kx_a yg_row cyI 160 f]) hP hD hS hA [false, false, false, false, false, false, false, false, false, false, false, false, false, false, false, false, false, false, false, false, false, false, false, false, false, true, true, false, false, false, false, false, false, false, false, false, false, false, false, false, false, false, false, false, false, false, false, false] rfl
  have hKc := hK.sub (tys' := [(cyI, .int)]) [0] rfl
  refine va_calli (va_runV (As := [.int y_2, .int y_4, .int y_6, .int y_8]) (rest := []) ⟨hx, hb, hml, hown, (lwC_X5_windows hts0)⟩ (kx_un (c_X5_windows l dC dI yh0 yg_row yg_many yg_loss yg_less yg_voteValue yg_voteNumber yg_allValue yg_allNumber yg_nodeL yg_nodeR yg_part yg_wasMany yg_wasLoss yg_wasValue yg_wasNumber yg_path yg_heavyValue yg_heavyTimes yg_fewest yg_which yg_met len slots u_thrown u_allMany u_nodes u_partMany u_pathMany u_heavyMany u_mostMet cyI f y_2 y_4 y_6 y_8 H.size I0 I1)) (cwV 4 (lwC_X5_windows hts0) lwG_X5_windows rfl rfl rfl (by decide +kernel) ⟨Nat.le_of_ble_eq_true rfl, Nat.le_of_ble_eq_true rfl⟩) ⟨fun a U g mk q => by obtain ⟨q0, q1, qP, qK, qD⟩ := q; exact ⟨q0, q1, qP, va_K.moved (u := U) (U := U.calling g mk a) (Vm.Alike.refl U.vm) qK, qD⟩, kx_rc5 hKc hPc (q0 := 0) rfl, fun U hU hW => ⟨rfl, by rw [hU], by rw [hU]; exact hPc, va_K.moved hW.alike hKc, hDc.weaken (fun _ _ _ _ => trivial)⟩⟩ rfl rfl hl.1 rfl (lv_room (Nat.le_of_ble_eq_true rfl)) dL_law_1988 (lw_fitJ hj hL (Nat.le_of_ble_eq_true rfl) (Nat.le_of_ble_eq_true rfl))) hS (fun q _ h => hFc q h) hFc (fun r_23 u t H1 locs ht hvm w_23 hB hz1 hk1 hS => ?_)
  obtain ⟨hP1, hK1, hD1⟩ := hB
  rw [ht] at hP1
  have hK1 := va_K.moved hvm.symm hK1
  obtain ⟨hP, hD⟩ := kx_joinM (w2 := [kx_4 xm_ xq_row xq_t xt_ xh0 xk0 xw_ xz_ slots old, kx_2 xq_t xq_row xq_joined xq_from xq_to xq_size xq_lossOf xq_lessBy xq_value xq_number nodes here, kx_0 xq_row xq_cell len, kx_a xq_cell cyI 160 f, kx_a xq_from cyI 319 ff, kx_a xq_to cyI 319 ft, kx_a xq_size cyI 319 fs, kx_a xq_lossOf cyI 319 fo, kx_a xq_lessBy cyI 319 fe, kx_a xq_value cyI 1914 uv, kx_a xq_number cyI 1914 un, kx_3 xq_joined xj_v xj_n js jl je, kx_a xj_v cyI 12 jv, kx_a xj_n cyI 12 jn, kx_3 xh0 xa_v xa_n vs lo le, kx_a xa_v cyI 12 fv, kx_a xa_n cyI 12 fn, kx_3 xk0 xkv xkn sb lb eb, kx_a xkv cyI 12 gb, kx_a xkn cyI 12 nb, kx_1 xt_ xt_k xt_o o_10 o_11, kx_a xt_k cyI 160 o_12, kx_a xt_o cyI 160 o_13, kx_a xw_ cyI 160 o_14, kx_a xz_ cyI 161 fz, kx_5 yh0 yg_row len slots 0 yg_many yg_loss yg_less yg_voteValue yg_voteNumber yg_allValue yg_allNumber u_allMany yg_nodeL yg_nodeR u_nodes yg_part u_partMany yg_wasMany yg_wasLoss yg_wasValue yg_wasNumber yg_path u_pathMany yg_heavyValue yg_heavyTimes u_heavyMany yg_fewest yg_which yg_met u_mostMet, kx_a yg_row cyI 160 f, kx_a yg_many cyI 324 u_many, kx_a yg_loss cyI 324 u_loss, kx_a yg_less cyI 324 u_less, kx_a yg_voteValue cyI 1944 u_voteValue, kx_a yg_voteNumber cyI 1944 u_voteNumber, kx_a yg_allValue cyI 12 u_allValue, kx_a yg_allNumber cyI 12 u_allNumber, kx_a yg_nodeL cyI 320 u_nodeL, kx_a yg_nodeR cyI 320 u_nodeR, kx_a yg_part cyI 320 u_part, kx_a yg_wasMany cyI 320 u_wasMany, kx_a yg_wasLoss cyI 320 u_wasLoss, kx_a yg_wasValue cyI 1920 u_wasValue, kx_a yg_wasNumber cyI 1920 u_wasNumber, kx_a yg_path cyI 12 u_path, kx_a yg_heavyValue cyI 160 u_heavyValue, kx_a yg_heavyTimes cyI 160 u_heavyTimes, kx_a yg_fewest cyI 161 u_fewest, kx_a yg_which cyI 160 u_which, kx_a yg_met cyI 160 u_met, (q_o, .inl (cyL, 1, .inr (.inl ol)))]) hP hD hP1 hD1 hk1 hFc [false, false, false, false, false, false, false, false, false, false, false, false, false, false, false, false, false, false, false, false, false, false, false, false, false, true, true, false, false, false, false, false, false, false, false, false, false, false, false, false, false, false, false, false, false, false, false, false] hCc rfl
  clear hP1 hD1 hK1 hk1 hz1 hFc hDc hPc hKc hCc
  generalize H1 = H at hP hS ⊢
  refine lv_pop hx hb dL_law_1991 rfl ?_
  refine lv_goto (tgt := 2288) hx hb dL_law_1992 (by decide) ?_
  obtain ⟨x_24, ex_24⟩ : ∃ y : Int32, y = ix + 8 := ⟨_, rfl⟩
  have i_24 : x_24.toInt = ix.toInt + 8 := ki_add ex_24 rfl rfl (om_578 hix hj0) (om_579 hix hjI hLI)
  refine lv_iinc (v := x_24) (lv' := [(4, .int x_24), (3, .ref q_o), (2, .ref yh0), (1, .ref xm_), (0, .ref b)]) hx hb dL_law_2288 hl (k := 0) rfl (by rw [ex_24]; rfl) (by decide) rfl (fun ls hl => ?_)
  refine lv_goto (tgt := 23) hx hb dL_law_2291 (by decide) ?_
  refine W.widen (k := 60 + 2 * (j + 1)) (n := 20000 + 12 * (j + 1)) (lw_wdC (k := 0) (Nat.le_of_ble_eq_true rfl)) (lw_wdS (k := 0) (Nat.le_of_ble_eq_true rfl)) ?_
  have k_25 : (0 : Int32).toInt = 0 := rfl
  exact ih len slots old nodes here js jl je vs lo le sb lb eb o_10 o_11 0 u_allMany u_nodes u_partMany u_pathMany u_heavyMany u_mostMet f ff ft fs fo fe uv un jv jn fv fn gb nb o_12 o_13 o_14 fz u_many u_loss u_less u_voteValue u_voteNumber u_allValue u_allNumber u_nodeL u_nodeR u_part u_wasMany u_wasLoss u_wasValue u_wasNumber u_path u_heavyValue u_heavyTimes u_fewest u_which u_met ol x_24 (om_ix i_24 hix) I0 I1 I2 I3 I4 I5 I6 I7 I8 _ _ ls hP hD hS (lv_sub hl [0, 1, 2, 3, 4] rfl)

set_option maxHeartbeats 4000000 in
set_option maxRecDepth 100000 in
theorem lc_39 {p : Program} {l : Launch} {e : Env} {s : State} {m : MethodId} {below : List Frame} {meth : Method} {c : Code} {dC : Nat → ClassId} {dI : Nat → Nat → Nat} {b : Nat} {xs : Nat → Int32} (hl0 : l.stackTraces = false) {L j : Nat} (hL : L ≤ 4096) (hj : 8 * j + 8 ≤ L) (C0 : lw_At p s m meth c b L xs) (hth : ki_ThA (fun q : Nat => s.heap.size ≤ q) s) {cyI cyL : ClassId} {xm_ xq_t xq_row xq_cell xq_from xq_to xq_size xq_lossOf xq_lessBy xq_value xq_number xq_joined xj_v xj_n xh0 xa_v xa_n xk0 xkv xkn xt_ xt_k xt_o xw_ xz_ yh0 yg_row yg_many yg_loss yg_less yg_voteValue yg_voteNumber yg_allValue yg_allNumber yg_nodeL yg_nodeR yg_part yg_wasMany yg_wasLoss yg_wasValue yg_wasNumber yg_path yg_heavyValue yg_heavyTimes yg_fewest yg_which yg_met q_o : Nat} (hK : va_K (dC, dI) vwCl [(cyI, .int), (cyL, .long)] s) (ih : lw_G p l e s m below meth c b dC dI cyI cyL xm_ xq_t xq_row xq_cell xq_from xq_to xq_size xq_lossOf xq_lessBy xq_value xq_number xq_joined xj_v xj_n xh0 xa_v xa_n xk0 xkv xkn xt_ xt_k xt_o xw_ xz_ yh0 yg_row yg_many yg_loss yg_less yg_voteValue yg_voteNumber yg_allValue yg_allNumber yg_nodeL yg_nodeR yg_part yg_wasMany yg_wasLoss yg_wasValue yg_wasNumber yg_path yg_heavyValue yg_heavyTimes yg_fewest yg_which yg_met q_o (j + 1)) {len slots old nodes here js jl je vs lo le sb lb eb tk mo u_thrown u_allMany u_nodes u_partMany u_pathMany u_heavyMany u_mostMet ix : Int32} {f ff ft fs fo fe uv un jv jn fv fn gb nb fk fq fw fz u_many u_loss u_less u_voteValue u_voteNumber u_allValue u_allNumber u_nodeL u_nodeR u_part u_wasMany u_wasLoss u_wasValue u_wasNumber u_path u_heavyValue u_heavyTimes u_fewest u_which u_met : Nat → Int32} {ol : Nat → Int64} (hix : ix.toInt = 8 * (j : Int)) (I0 : 0 ≤ len.toInt) (I1 : len.toInt ≤ 160) (I2 : 1 ≤ slots.toInt) (I3 : slots.toInt ≤ 6) (I4 : shorts f) (I5 : sixes fs) (I6 : laidX old slots here f ff ft fs fo fe uv un nodes len) (I7 : six4 u_many) (I8 : parts320 u_part) {H : Heap} {locs : List Loc} (hP : va_P (dC, dI) vwCl [kx_4 xm_ xq_row xq_t xt_ xh0 xk0 xw_ xz_ slots old, kx_2 xq_t xq_row xq_joined xq_from xq_to xq_size xq_lossOf xq_lessBy xq_value xq_number nodes here, kx_0 xq_row xq_cell len, kx_a xq_cell cyI 160 f, kx_a xq_from cyI 319 ff, kx_a xq_to cyI 319 ft, kx_a xq_size cyI 319 fs, kx_a xq_lossOf cyI 319 fo, kx_a xq_lessBy cyI 319 fe, kx_a xq_value cyI 1914 uv, kx_a xq_number cyI 1914 un, kx_3 xq_joined xj_v xj_n js jl je, kx_a xj_v cyI 12 jv, kx_a xj_n cyI 12 jn, kx_3 xh0 xa_v xa_n vs lo le, kx_a xa_v cyI 12 fv, kx_a xa_n cyI 12 fn, kx_3 xk0 xkv xkn sb lb eb, kx_a xkv cyI 12 gb, kx_a xkn cyI 12 nb, kx_1 xt_ xt_k xt_o tk mo, kx_a xt_k cyI 160 fk, kx_a xt_o cyI 160 fq, kx_a xw_ cyI 160 fw, kx_a xz_ cyI 161 fz, kx_5 yh0 yg_row len slots u_thrown yg_many yg_loss yg_less yg_voteValue yg_voteNumber yg_allValue yg_allNumber u_allMany yg_nodeL yg_nodeR u_nodes yg_part u_partMany yg_wasMany yg_wasLoss yg_wasValue yg_wasNumber yg_path u_pathMany yg_heavyValue yg_heavyTimes u_heavyMany yg_fewest yg_which yg_met u_mostMet, kx_a yg_row cyI 160 f, kx_a yg_many cyI 324 u_many, kx_a yg_loss cyI 324 u_loss, kx_a yg_less cyI 324 u_less, kx_a yg_voteValue cyI 1944 u_voteValue, kx_a yg_voteNumber cyI 1944 u_voteNumber, kx_a yg_allValue cyI 12 u_allValue, kx_a yg_allNumber cyI 12 u_allNumber, kx_a yg_nodeL cyI 320 u_nodeL, kx_a yg_nodeR cyI 320 u_nodeR, kx_a yg_part cyI 320 u_part, kx_a yg_wasMany cyI 320 u_wasMany, kx_a yg_wasLoss cyI 320 u_wasLoss, kx_a yg_wasValue cyI 1920 u_wasValue, kx_a yg_wasNumber cyI 1920 u_wasNumber, kx_a yg_path cyI 12 u_path, kx_a yg_heavyValue cyI 160 u_heavyValue, kx_a yg_heavyTimes cyI 160 u_heavyTimes, kx_a yg_fewest cyI 161 u_fewest, kx_a yg_which cyI 160 u_which, kx_a yg_met cyI 160 u_met, (q_o, .inl (cyL, 1, .inr (.inl ol)))] H) (hD : va_D (fun q : Nat => s.heap.size ≤ q) [kx_4 xm_ xq_row xq_t xt_ xh0 xk0 xw_ xz_ slots old, kx_2 xq_t xq_row xq_joined xq_from xq_to xq_size xq_lossOf xq_lessBy xq_value xq_number nodes here, kx_0 xq_row xq_cell len, kx_a xq_cell cyI 160 f, kx_a xq_from cyI 319 ff, kx_a xq_to cyI 319 ft, kx_a xq_size cyI 319 fs, kx_a xq_lossOf cyI 319 fo, kx_a xq_lessBy cyI 319 fe, kx_a xq_value cyI 1914 uv, kx_a xq_number cyI 1914 un, kx_3 xq_joined xj_v xj_n js jl je, kx_a xj_v cyI 12 jv, kx_a xj_n cyI 12 jn, kx_3 xh0 xa_v xa_n vs lo le, kx_a xa_v cyI 12 fv, kx_a xa_n cyI 12 fn, kx_3 xk0 xkv xkn sb lb eb, kx_a xkv cyI 12 gb, kx_a xkn cyI 12 nb, kx_1 xt_ xt_k xt_o tk mo, kx_a xt_k cyI 160 fk, kx_a xt_o cyI 160 fq, kx_a xw_ cyI 160 fw, kx_a xz_ cyI 161 fz, kx_5 yh0 yg_row len slots u_thrown yg_many yg_loss yg_less yg_voteValue yg_voteNumber yg_allValue yg_allNumber u_allMany yg_nodeL yg_nodeR u_nodes yg_part u_partMany yg_wasMany yg_wasLoss yg_wasValue yg_wasNumber yg_path u_pathMany yg_heavyValue yg_heavyTimes u_heavyMany yg_fewest yg_which yg_met u_mostMet, kx_a yg_row cyI 160 f, kx_a yg_many cyI 324 u_many, kx_a yg_loss cyI 324 u_loss, kx_a yg_less cyI 324 u_less, kx_a yg_voteValue cyI 1944 u_voteValue, kx_a yg_voteNumber cyI 1944 u_voteNumber, kx_a yg_allValue cyI 12 u_allValue, kx_a yg_allNumber cyI 12 u_allNumber, kx_a yg_nodeL cyI 320 u_nodeL, kx_a yg_nodeR cyI 320 u_nodeR, kx_a yg_part cyI 320 u_part, kx_a yg_wasMany cyI 320 u_wasMany, kx_a yg_wasLoss cyI 320 u_wasLoss, kx_a yg_wasValue cyI 1920 u_wasValue, kx_a yg_wasNumber cyI 1920 u_wasNumber, kx_a yg_path cyI 12 u_path, kx_a yg_heavyValue cyI 160 u_heavyValue, kx_a yg_heavyTimes cyI 160 u_heavyTimes, kx_a yg_fewest cyI 161 u_fewest, kx_a yg_which cyI 160 u_which, kx_a yg_met cyI 160 u_met, (q_o, .inl (cyL, 1, .inr (.inl ol)))]) (hS : va_S (fun q : Nat => s.heap.size ≤ q) s.heap H locs) {ls : Array Slot} (hl : lv_has ls 7 [(4, .int ix), (3, .ref q_o), (2, .ref yh0), (1, .ref xm_), (0, .ref b)]) : W p l e room_1 s m #[Value.ref b] below meth c H locs (60 + 2 * j) (20000 + 12 * j) (lw_Z below #[Value.ref b] s) (F0 m 1995 ls []) := by
  obtain ⟨hx, hb, hr, hml, hown, hts0, hX, hbl, hlocks, hgv⟩ := id C0
  have hts := hts0
  have hA : ∀ q : Nat, s.heap.size ≤ q → (fun q : Nat => s.heap.size ≤ q) q := fun _ h => h
  have hbA : ¬ (fun q : Nat => s.heap.size ≤ q) b := Nat.not_le.mpr hbl
  have hown : s.vm.findClass RL = some m.cls := hown
  have hb : c.code = cL_law := hb
  have hj0 : 0 ≤ (j : Int) := Int.natCast_nonneg j
  have hjI : 8 * (j : Int) + 8 ≤ (L : Int) := lw_jI hj
  have hLI : (L : Int) ≤ 4096 := lw_LI hL
  refine lv_aload_n hx hb dL_law_1995 rfl (lv_at hl 3 rfl) ?_
  refine lv_aload_n hx hb dL_law_1996 rfl (lv_at hl 4 rfl) ?_
  refine lv_iload hx hb dL_law_1997 (lv_at hl 0 rfl) ?_
  refine lv_iconst (v := 1) hx hb dL_law_1999 (by decide) ?_
  refine lv_iadd hx hb dL_law_2000 ?_
  refine lv_topi (fun y_1 ey_1 => ?_)
  have i_1 : y_1.toInt = ix.toInt + 1 := ki_add ey_1 rfl rfl (om_568 hix hj0) (om_569 hix hjI hLI)
  refine va_sld hx hb hX hbl hbA hS (i := y_1) (ki_in (om_570 hix hj0 i_1) (om_571 hix hjI i_1)) dL_law_2001 ?_
  refine lv_topi (fun y_2 ey_2 => ?_)
  refine lv_aload_n hx hb dL_law_2002 rfl (lv_at hl 4 rfl) ?_
  refine lv_iload hx hb dL_law_2003 (lv_at hl 0 rfl) ?_
  refine lv_iconst (v := 2) hx hb dL_law_2005 (by decide) ?_
  refine lv_iadd hx hb dL_law_2006 ?_
  refine lv_topi (fun y_3 ey_3 => ?_)
  have i_3 : y_3.toInt = ix.toInt + 2 := ki_add ey_3 rfl rfl (om_572 hix hj0) (om_573 hix hjI hLI)
  refine va_sld hx hb hX hbl hbA hS (i := y_3) (ki_in (om_574 hix hj0 i_3) (om_575 hix hjI i_3)) dL_law_2007 ?_
  refine lv_topi (fun y_4 ey_4 => ?_)
  refine lv_aload_n hx hb dL_law_2008 rfl (lv_at hl 4 rfl) ?_
  refine lv_iload hx hb dL_law_2009 (lv_at hl 0 rfl) ?_
  refine lv_iconst (v := 3) hx hb dL_law_2011 (by decide) ?_
  refine lv_iadd hx hb dL_law_2012 ?_
  refine lv_topi (fun y_5 ey_5 => ?_)
  have i_5 : y_5.toInt = ix.toInt + 3 := ki_add ey_5 rfl rfl (om_580 hix hj0) (om_581 hix hjI hLI)
  refine va_sld hx hb hX hbl hbA hS (i := y_5) (ki_in (om_582 hix hj0 i_5) (om_583 hix hjI i_5)) dL_law_2013 ?_
  refine lv_topi (fun y_6 ey_6 => ?_)
  refine lv_aload_n hx hb dL_law_2014 rfl (lv_at hl 4 rfl) ?_
  refine lv_iload hx hb dL_law_2015 (lv_at hl 0 rfl) ?_
  refine lv_iconst (v := 4) hx hb dL_law_2017 (by decide) ?_
  refine lv_iadd hx hb dL_law_2018 ?_
  refine lv_topi (fun y_7 ey_7 => ?_)
  have i_7 : y_7.toInt = ix.toInt + 4 := ki_add ey_7 rfl rfl (om_585 hix hj0) (om_586 hix hjI hLI)
  refine va_sld hx hb hX hbl hbA hS (i := y_7) (ki_in (om_587 hix hj0 i_7) (om_588 hix hjI i_7)) dL_law_2019 ?_
  refine lv_topi (fun y_8 ey_8 => ?_)
  refine lv_aload_n hx hb dL_law_2020 rfl (lv_at hl 4 rfl) ?_
  refine lv_iload hx hb dL_law_2021 (lv_at hl 0 rfl) ?_
  refine lv_iconst (v := 5) hx hb dL_law_2023 (by decide) ?_
  refine lv_iadd hx hb dL_law_2024 ?_
  refine lv_topi (fun y_9 ey_9 => ?_)
  have i_9 : y_9.toInt = ix.toInt + 5 := ki_add ey_9 rfl rfl (om_590 hix hj0) (om_591 hix hjI hLI)
  refine va_sld hx hb hX hbl hbA hS (i := y_9) (ki_in (om_592 hix hj0 i_9) (om_593 hix hjI i_9)) dL_law_2025 ?_
  refine lv_topi (fun y_10 ey_10 => ?_)
  have hPc := hP.sub (ws' := [kx_4 xm_ xq_row xq_t xt_ xh0 xk0 xw_ xz_ slots old, kx_0 xq_row xq_cell len, kx_a xq_cell cyI 160 f]) [0, 2, 3] rfl
  have hKc := hK.sub (tys' := [(cyI, .int)]) [0] rfl
  refine vp_callSi (W.runV (As := [.int y_2, .int y_4, .int y_6, .int y_8, .int y_10]) (rest := []) ⟨hx, hb, hml, hown, (lwC_X4_needs hts0)⟩ (c_X4_needs l dC dI xm_ xq_row xq_t xt_ xh0 xk0 xw_ xz_ slots old xq_cell cyI len f y_2 y_4 y_6 y_8 y_10 I0 I1) (cwV 5 (lwC_X4_needs hts0) lwG_X4_needs rfl rfl rfl (by decide +kernel) ⟨Nat.le_of_ble_eq_true rfl, Nat.le_of_ble_eq_true rfl⟩) ⟨fun a U g mk q => by obtain ⟨q0, qP, qK⟩ := q; exact ⟨q0, qP, va_K.moved (u := U) (U := U.calling g mk a) (Vm.Alike.refl U.vm) qK⟩, kx_rc4 hKc hPc (q0 := 0) rfl, fun U hU hW => ⟨rfl, by rw [hU]; exact hPc, va_K.moved hW.alike hKc⟩⟩ rfl rfl hl.1 rfl (lv_room (Nat.le_of_ble_eq_true rfl)) dL_law_2026 (lw_fitJ hj hL (Nat.le_of_ble_eq_true rfl) (Nat.le_of_ble_eq_true rfl))) (fun r_11 w_11 => ?_)
  refine lv_pop hx hb dL_law_2029 rfl ?_
  refine lv_aload_n hx hb dL_law_2030 rfl (lv_at hl 2 rfl) ?_
  refine lv_aload_n hx hb dL_law_2031 rfl (lv_at hl 4 rfl) ?_
  refine lv_iload hx hb dL_law_2032 (lv_at hl 0 rfl) ?_
  refine lv_iconst (v := 1) hx hb dL_law_2034 (by decide) ?_
  refine lv_iadd hx hb dL_law_2035 ?_
  refine lv_topi (fun y_12 ey_12 => ?_)
  have i_12 : y_12.toInt = ix.toInt + 1 := ki_add ey_12 rfl rfl (om_568 hix hj0) (om_569 hix hjI hLI)
  refine va_sld hx hb hX hbl hbA hS (i := y_12) (ki_in (om_570 hix hj0 i_12) (om_571 hix hjI i_12)) dL_law_2036 ?_
  refine lv_topi (fun y_13 ey_13 => ?_)
  have qy_13 : y_2 = y_13 := by rw [ey_2, ey_13, ki_nateq (show y_1.toInt = y_12.toInt from (om_576 i_1 i_12))]
  subst qy_13
  refine lv_aload_n hx hb dL_law_2037 rfl (lv_at hl 4 rfl) ?_
  refine lv_iload hx hb dL_law_2038 (lv_at hl 0 rfl) ?_
  refine lv_iconst (v := 2) hx hb dL_law_2040 (by decide) ?_
  refine lv_iadd hx hb dL_law_2041 ?_
  refine lv_topi (fun y_14 ey_14 => ?_)
  have i_14 : y_14.toInt = ix.toInt + 2 := ki_add ey_14 rfl rfl (om_572 hix hj0) (om_573 hix hjI hLI)
  refine va_sld hx hb hX hbl hbA hS (i := y_14) (ki_in (om_574 hix hj0 i_14) (om_575 hix hjI i_14)) dL_law_2042 ?_
  refine lv_topi (fun y_15 ey_15 => ?_)
  have qy_15 : y_4 = y_15 := by rw [ey_4, ey_15, ki_nateq (show y_3.toInt = y_14.toInt from (om_577 i_3 i_14))]
  subst qy_15
  refine lv_aload_n hx hb dL_law_2043 rfl (lv_at hl 4 rfl) ?_
  refine lv_iload hx hb dL_law_2044 (lv_at hl 0 rfl) ?_
  refine lv_iconst (v := 3) hx hb dL_law_2046 (by decide) ?_
  refine lv_iadd hx hb dL_law_2047 ?_
  refine lv_topi (fun y_16 ey_16 => ?_)
  have i_16 : y_16.toInt = ix.toInt + 3 := ki_add ey_16 rfl rfl (om_580 hix hj0) (om_581 hix hjI hLI)
  refine va_sld hx hb hX hbl hbA hS (i := y_16) (ki_in (om_582 hix hj0 i_16) (om_583 hix hjI i_16)) dL_law_2048 ?_
  refine lv_topi (fun y_17 ey_17 => ?_)
  have qy_17 : y_6 = y_17 := by rw [ey_6, ey_17, ki_nateq (show y_5.toInt = y_16.toInt from (om_584 i_5 i_16))]
  subst qy_17
  refine lv_aload_n hx hb dL_law_2049 rfl (lv_at hl 4 rfl) ?_
  refine lv_iload hx hb dL_law_2050 (lv_at hl 0 rfl) ?_
  refine lv_iconst (v := 4) hx hb dL_law_2052 (by decide) ?_
  refine lv_iadd hx hb dL_law_2053 ?_
  refine lv_topi (fun y_18 ey_18 => ?_)
  have i_18 : y_18.toInt = ix.toInt + 4 := ki_add ey_18 rfl rfl (om_585 hix hj0) (om_586 hix hjI hLI)
  refine va_sld hx hb hX hbl hbA hS (i := y_18) (ki_in (om_587 hix hj0 i_18) (om_588 hix hjI i_18)) dL_law_2054 ?_
  refine lv_topi (fun y_19 ey_19 => ?_)
  have qy_19 : y_8 = y_19 := by rw [ey_8, ey_19, ki_nateq (show y_7.toInt = y_18.toInt from (om_589 i_7 i_18))]
  subst qy_19
  refine lv_aload_n hx hb dL_law_2055 rfl (lv_at hl 4 rfl) ?_
  refine lv_iload hx hb dL_law_2056 (lv_at hl 0 rfl) ?_
  refine lv_iconst (v := 5) hx hb dL_law_2058 (by decide) ?_
  refine lv_iadd hx hb dL_law_2059 ?_
  refine lv_topi (fun y_20 ey_20 => ?_)
  have i_20 : y_20.toInt = ix.toInt + 5 := ki_add ey_20 rfl rfl (om_590 hix hj0) (om_591 hix hjI hLI)
  refine va_sld hx hb hX hbl hbA hS (i := y_20) (ki_in (om_592 hix hj0 i_20) (om_593 hix hjI i_20)) dL_law_2060 ?_
  refine lv_topi (fun y_21 ey_21 => ?_)
  have qy_21 : y_10 = y_21 := by rw [ey_10, ey_21, ki_nateq (show y_9.toInt = y_20.toInt from (om_598 i_9 i_20))]
  subst qy_21
  obtain ⟨hPc, hDc, hFc, hCc⟩ := kx_preM (wc := [kx_5 yh0 yg_row len slots u_thrown yg_many yg_loss yg_less yg_voteValue yg_voteNumber yg_allValue yg_allNumber u_allMany yg_nodeL yg_nodeR u_nodes yg_part u_partMany yg_wasMany yg_wasLoss yg_wasValue yg_wasNumber yg_path u_pathMany yg_heavyValue yg_heavyTimes u_heavyMany yg_fewest yg_which yg_met u_mostMet, kx_a yg_row cyI 160 f]) hP hD hS hA [false, false, false, false, false, false, false, false, false, false, false, false, false, false, false, false, false, false, false, false, false, false, false, false, false, true, true, false, false, false, false, false, false, false, false, false, false, false, false, false, false, false, false, false, false, false, false, false] rfl
  have hKc := hK.sub (tys' := [(cyI, .int)]) [0] rfl
  refine va_calli (va_runV (As := [.int y_2, .int y_4, .int y_6, .int y_8, .int y_10]) (rest := []) ⟨hx, hb, hml, hown, (lwC_X5_needs hts0)⟩ (kx_un (c_X5_needs l dC dI yh0 yg_row yg_many yg_loss yg_less yg_voteValue yg_voteNumber yg_allValue yg_allNumber yg_nodeL yg_nodeR yg_part yg_wasMany yg_wasLoss yg_wasValue yg_wasNumber yg_path yg_heavyValue yg_heavyTimes yg_fewest yg_which yg_met len slots u_thrown u_allMany u_nodes u_partMany u_pathMany u_heavyMany u_mostMet cyI f y_2 y_4 y_6 y_8 y_10 H.size I0 I1)) (cwV 5 (lwC_X5_needs hts0) lwG_X5_needs rfl rfl rfl (by decide +kernel) ⟨Nat.le_of_ble_eq_true rfl, Nat.le_of_ble_eq_true rfl⟩) ⟨fun a U g mk q => by obtain ⟨q0, q1, qP, qK, qD⟩ := q; exact ⟨q0, q1, qP, va_K.moved (u := U) (U := U.calling g mk a) (Vm.Alike.refl U.vm) qK, qD⟩, kx_rc5 hKc hPc (q0 := 0) rfl, fun U hU hW => ⟨rfl, by rw [hU], by rw [hU]; exact hPc, va_K.moved hW.alike hKc, hDc.weaken (fun _ _ _ _ => trivial)⟩⟩ rfl rfl hl.1 rfl (lv_room (Nat.le_of_ble_eq_true rfl)) dL_law_2061 (lw_fitJ hj hL (Nat.le_of_ble_eq_true rfl) (Nat.le_of_ble_eq_true rfl))) hS (fun q _ h => hFc q h) hFc (fun r_22 u t H1 locs ht hvm w_22 hB hz1 hk1 hS => ?_)
  obtain ⟨hP1, hK1, hD1⟩ := hB
  rw [ht] at hP1
  have hK1 := va_K.moved hvm.symm hK1
  obtain ⟨hP, hD⟩ := kx_joinM (w2 := [kx_4 xm_ xq_row xq_t xt_ xh0 xk0 xw_ xz_ slots old, kx_2 xq_t xq_row xq_joined xq_from xq_to xq_size xq_lossOf xq_lessBy xq_value xq_number nodes here, kx_0 xq_row xq_cell len, kx_a xq_cell cyI 160 f, kx_a xq_from cyI 319 ff, kx_a xq_to cyI 319 ft, kx_a xq_size cyI 319 fs, kx_a xq_lossOf cyI 319 fo, kx_a xq_lessBy cyI 319 fe, kx_a xq_value cyI 1914 uv, kx_a xq_number cyI 1914 un, kx_3 xq_joined xj_v xj_n js jl je, kx_a xj_v cyI 12 jv, kx_a xj_n cyI 12 jn, kx_3 xh0 xa_v xa_n vs lo le, kx_a xa_v cyI 12 fv, kx_a xa_n cyI 12 fn, kx_3 xk0 xkv xkn sb lb eb, kx_a xkv cyI 12 gb, kx_a xkn cyI 12 nb, kx_1 xt_ xt_k xt_o tk mo, kx_a xt_k cyI 160 fk, kx_a xt_o cyI 160 fq, kx_a xw_ cyI 160 fw, kx_a xz_ cyI 161 fz, kx_5 yh0 yg_row len slots 0 yg_many yg_loss yg_less yg_voteValue yg_voteNumber yg_allValue yg_allNumber u_allMany yg_nodeL yg_nodeR u_nodes yg_part u_partMany yg_wasMany yg_wasLoss yg_wasValue yg_wasNumber yg_path u_pathMany yg_heavyValue yg_heavyTimes u_heavyMany yg_fewest yg_which yg_met u_mostMet, kx_a yg_row cyI 160 f, kx_a yg_many cyI 324 u_many, kx_a yg_loss cyI 324 u_loss, kx_a yg_less cyI 324 u_less, kx_a yg_voteValue cyI 1944 u_voteValue, kx_a yg_voteNumber cyI 1944 u_voteNumber, kx_a yg_allValue cyI 12 u_allValue, kx_a yg_allNumber cyI 12 u_allNumber, kx_a yg_nodeL cyI 320 u_nodeL, kx_a yg_nodeR cyI 320 u_nodeR, kx_a yg_part cyI 320 u_part, kx_a yg_wasMany cyI 320 u_wasMany, kx_a yg_wasLoss cyI 320 u_wasLoss, kx_a yg_wasValue cyI 1920 u_wasValue, kx_a yg_wasNumber cyI 1920 u_wasNumber, kx_a yg_path cyI 12 u_path, kx_a yg_heavyValue cyI 160 u_heavyValue, kx_a yg_heavyTimes cyI 160 u_heavyTimes, kx_a yg_fewest cyI 161 u_fewest, kx_a yg_which cyI 160 u_which, kx_a yg_met cyI 160 u_met, (q_o, .inl (cyL, 1, .inr (.inl ol)))]) hP hD hP1 hD1 hk1 hFc [false, false, false, false, false, false, false, false, false, false, false, false, false, false, false, false, false, false, false, false, false, false, false, false, false, true, true, false, false, false, false, false, false, false, false, false, false, false, false, false, false, false, false, false, false, false, false, false] hCc rfl
  clear hP1 hD1 hK1 hk1 hz1 hFc hDc hPc hKc hCc
  generalize H1 = H at hP hS ⊢
  refine lv_pop hx hb dL_law_2064 rfl ?_
  refine lv_goto (tgt := 2288) hx hb dL_law_2065 (by decide) ?_
  obtain ⟨x_23, ex_23⟩ : ∃ y : Int32, y = ix + 8 := ⟨_, rfl⟩
  have i_23 : x_23.toInt = ix.toInt + 8 := ki_add ex_23 rfl rfl (om_578 hix hj0) (om_579 hix hjI hLI)
  refine lv_iinc (v := x_23) (lv' := [(4, .int x_23), (3, .ref q_o), (2, .ref yh0), (1, .ref xm_), (0, .ref b)]) hx hb dL_law_2288 hl (k := 0) rfl (by rw [ex_23]; rfl) (by decide) rfl (fun ls hl => ?_)
  refine lv_goto (tgt := 23) hx hb dL_law_2291 (by decide) ?_
  refine W.widen (k := 60 + 2 * (j + 1)) (n := 20000 + 12 * (j + 1)) (lw_wdC (k := 0) (Nat.le_of_ble_eq_true rfl)) (lw_wdS (k := 0) (Nat.le_of_ble_eq_true rfl)) ?_
  have k_24 : (0 : Int32).toInt = 0 := rfl
  exact ih len slots old nodes here js jl je vs lo le sb lb eb tk mo 0 u_allMany u_nodes u_partMany u_pathMany u_heavyMany u_mostMet f ff ft fs fo fe uv un jv jn fv fn gb nb fk fq fw fz u_many u_loss u_less u_voteValue u_voteNumber u_allValue u_allNumber u_nodeL u_nodeR u_part u_wasMany u_wasLoss u_wasValue u_wasNumber u_path u_heavyValue u_heavyTimes u_fewest u_which u_met ol x_23 (om_ix i_23 hix) I0 I1 I2 I3 I4 I5 I6 I7 I8 _ _ ls hP hD hS (lv_sub hl [0, 1, 2, 3, 4] rfl)

set_option maxHeartbeats 4000000 in
set_option maxRecDepth 100000 in
theorem lc_40 {p : Program} {l : Launch} {e : Env} {s : State} {m : MethodId} {below : List Frame} {meth : Method} {c : Code} {dC : Nat → ClassId} {dI : Nat → Nat → Nat} {b : Nat} {xs : Nat → Int32} (hl0 : l.stackTraces = false) {L j : Nat} (hL : L ≤ 4096) (hj : 8 * j + 8 ≤ L) (C0 : lw_At p s m meth c b L xs) (hth : ki_ThA (fun q : Nat => s.heap.size ≤ q) s) {cyI cyL : ClassId} {xm_ xq_t xq_row xq_cell xq_from xq_to xq_size xq_lossOf xq_lessBy xq_value xq_number xq_joined xj_v xj_n xh0 xa_v xa_n xk0 xkv xkn xt_ xt_k xt_o xw_ xz_ yh0 yg_row yg_many yg_loss yg_less yg_voteValue yg_voteNumber yg_allValue yg_allNumber yg_nodeL yg_nodeR yg_part yg_wasMany yg_wasLoss yg_wasValue yg_wasNumber yg_path yg_heavyValue yg_heavyTimes yg_fewest yg_which yg_met q_o : Nat} (hK : va_K (dC, dI) vwCl [(cyI, .int), (cyL, .long)] s) (ih : lw_G p l e s m below meth c b dC dI cyI cyL xm_ xq_t xq_row xq_cell xq_from xq_to xq_size xq_lossOf xq_lessBy xq_value xq_number xq_joined xj_v xj_n xh0 xa_v xa_n xk0 xkv xkn xt_ xt_k xt_o xw_ xz_ yh0 yg_row yg_many yg_loss yg_less yg_voteValue yg_voteNumber yg_allValue yg_allNumber yg_nodeL yg_nodeR yg_part yg_wasMany yg_wasLoss yg_wasValue yg_wasNumber yg_path yg_heavyValue yg_heavyTimes yg_fewest yg_which yg_met q_o (j + 1)) {len slots old nodes here js jl je vs lo le sb lb eb tk mo u_thrown u_allMany u_nodes u_partMany u_pathMany u_heavyMany u_mostMet ix : Int32} {f ff ft fs fo fe uv un jv jn fv fn gb nb fk fq fw fz u_many u_loss u_less u_voteValue u_voteNumber u_allValue u_allNumber u_nodeL u_nodeR u_part u_wasMany u_wasLoss u_wasValue u_wasNumber u_path u_heavyValue u_heavyTimes u_fewest u_which u_met : Nat → Int32} {ol : Nat → Int64} (hix : ix.toInt = 8 * (j : Int)) (I0 : 0 ≤ len.toInt) (I1 : len.toInt ≤ 160) (I2 : 1 ≤ slots.toInt) (I3 : slots.toInt ≤ 6) (I4 : shorts f) (I5 : sixes fs) (I6 : laidX old slots here f ff ft fs fo fe uv un nodes len) (I7 : six4 u_many) (I8 : parts320 u_part) {H : Heap} {locs : List Loc} (hP : va_P (dC, dI) vwCl [kx_4 xm_ xq_row xq_t xt_ xh0 xk0 xw_ xz_ slots old, kx_2 xq_t xq_row xq_joined xq_from xq_to xq_size xq_lossOf xq_lessBy xq_value xq_number nodes here, kx_0 xq_row xq_cell len, kx_a xq_cell cyI 160 f, kx_a xq_from cyI 319 ff, kx_a xq_to cyI 319 ft, kx_a xq_size cyI 319 fs, kx_a xq_lossOf cyI 319 fo, kx_a xq_lessBy cyI 319 fe, kx_a xq_value cyI 1914 uv, kx_a xq_number cyI 1914 un, kx_3 xq_joined xj_v xj_n js jl je, kx_a xj_v cyI 12 jv, kx_a xj_n cyI 12 jn, kx_3 xh0 xa_v xa_n vs lo le, kx_a xa_v cyI 12 fv, kx_a xa_n cyI 12 fn, kx_3 xk0 xkv xkn sb lb eb, kx_a xkv cyI 12 gb, kx_a xkn cyI 12 nb, kx_1 xt_ xt_k xt_o tk mo, kx_a xt_k cyI 160 fk, kx_a xt_o cyI 160 fq, kx_a xw_ cyI 160 fw, kx_a xz_ cyI 161 fz, kx_5 yh0 yg_row len slots u_thrown yg_many yg_loss yg_less yg_voteValue yg_voteNumber yg_allValue yg_allNumber u_allMany yg_nodeL yg_nodeR u_nodes yg_part u_partMany yg_wasMany yg_wasLoss yg_wasValue yg_wasNumber yg_path u_pathMany yg_heavyValue yg_heavyTimes u_heavyMany yg_fewest yg_which yg_met u_mostMet, kx_a yg_row cyI 160 f, kx_a yg_many cyI 324 u_many, kx_a yg_loss cyI 324 u_loss, kx_a yg_less cyI 324 u_less, kx_a yg_voteValue cyI 1944 u_voteValue, kx_a yg_voteNumber cyI 1944 u_voteNumber, kx_a yg_allValue cyI 12 u_allValue, kx_a yg_allNumber cyI 12 u_allNumber, kx_a yg_nodeL cyI 320 u_nodeL, kx_a yg_nodeR cyI 320 u_nodeR, kx_a yg_part cyI 320 u_part, kx_a yg_wasMany cyI 320 u_wasMany, kx_a yg_wasLoss cyI 320 u_wasLoss, kx_a yg_wasValue cyI 1920 u_wasValue, kx_a yg_wasNumber cyI 1920 u_wasNumber, kx_a yg_path cyI 12 u_path, kx_a yg_heavyValue cyI 160 u_heavyValue, kx_a yg_heavyTimes cyI 160 u_heavyTimes, kx_a yg_fewest cyI 161 u_fewest, kx_a yg_which cyI 160 u_which, kx_a yg_met cyI 160 u_met, (q_o, .inl (cyL, 1, .inr (.inl ol)))] H) (hD : va_D (fun q : Nat => s.heap.size ≤ q) [kx_4 xm_ xq_row xq_t xt_ xh0 xk0 xw_ xz_ slots old, kx_2 xq_t xq_row xq_joined xq_from xq_to xq_size xq_lossOf xq_lessBy xq_value xq_number nodes here, kx_0 xq_row xq_cell len, kx_a xq_cell cyI 160 f, kx_a xq_from cyI 319 ff, kx_a xq_to cyI 319 ft, kx_a xq_size cyI 319 fs, kx_a xq_lossOf cyI 319 fo, kx_a xq_lessBy cyI 319 fe, kx_a xq_value cyI 1914 uv, kx_a xq_number cyI 1914 un, kx_3 xq_joined xj_v xj_n js jl je, kx_a xj_v cyI 12 jv, kx_a xj_n cyI 12 jn, kx_3 xh0 xa_v xa_n vs lo le, kx_a xa_v cyI 12 fv, kx_a xa_n cyI 12 fn, kx_3 xk0 xkv xkn sb lb eb, kx_a xkv cyI 12 gb, kx_a xkn cyI 12 nb, kx_1 xt_ xt_k xt_o tk mo, kx_a xt_k cyI 160 fk, kx_a xt_o cyI 160 fq, kx_a xw_ cyI 160 fw, kx_a xz_ cyI 161 fz, kx_5 yh0 yg_row len slots u_thrown yg_many yg_loss yg_less yg_voteValue yg_voteNumber yg_allValue yg_allNumber u_allMany yg_nodeL yg_nodeR u_nodes yg_part u_partMany yg_wasMany yg_wasLoss yg_wasValue yg_wasNumber yg_path u_pathMany yg_heavyValue yg_heavyTimes u_heavyMany yg_fewest yg_which yg_met u_mostMet, kx_a yg_row cyI 160 f, kx_a yg_many cyI 324 u_many, kx_a yg_loss cyI 324 u_loss, kx_a yg_less cyI 324 u_less, kx_a yg_voteValue cyI 1944 u_voteValue, kx_a yg_voteNumber cyI 1944 u_voteNumber, kx_a yg_allValue cyI 12 u_allValue, kx_a yg_allNumber cyI 12 u_allNumber, kx_a yg_nodeL cyI 320 u_nodeL, kx_a yg_nodeR cyI 320 u_nodeR, kx_a yg_part cyI 320 u_part, kx_a yg_wasMany cyI 320 u_wasMany, kx_a yg_wasLoss cyI 320 u_wasLoss, kx_a yg_wasValue cyI 1920 u_wasValue, kx_a yg_wasNumber cyI 1920 u_wasNumber, kx_a yg_path cyI 12 u_path, kx_a yg_heavyValue cyI 160 u_heavyValue, kx_a yg_heavyTimes cyI 160 u_heavyTimes, kx_a yg_fewest cyI 161 u_fewest, kx_a yg_which cyI 160 u_which, kx_a yg_met cyI 160 u_met, (q_o, .inl (cyL, 1, .inr (.inl ol)))]) (hS : va_S (fun q : Nat => s.heap.size ≤ q) s.heap H locs) {ls : Array Slot} (hl : lv_has ls 7 [(4, .int ix), (3, .ref q_o), (2, .ref yh0), (1, .ref xm_), (0, .ref b)]) : W p l e room_1 s m #[Value.ref b] below meth c H locs (60 + 2 * j) (20000 + 12 * j) (lw_Z below #[Value.ref b] s) (F0 m 2068 ls []) := by
  obtain ⟨hx, hb, hr, hml, hown, hts0, hX, hbl, hlocks, hgv⟩ := id C0
  have hts := hts0
  have hA : ∀ q : Nat, s.heap.size ≤ q → (fun q : Nat => s.heap.size ≤ q) q := fun _ h => h
  have hbA : ¬ (fun q : Nat => s.heap.size ≤ q) b := Nat.not_le.mpr hbl
  have hown : s.vm.findClass RL = some m.cls := hown
  have hb : c.code = cL_law := hb
  have hj0 : 0 ≤ (j : Int) := Int.natCast_nonneg j
  have hjI : 8 * (j : Int) + 8 ≤ (L : Int) := lw_jI hj
  have hLI : (L : Int) ≤ 4096 := lw_LI hL
  refine lv_aload_n hx hb dL_law_2068 rfl (lv_at hl 3 rfl) ?_
  refine lv_aload_n hx hb dL_law_2069 rfl (lv_at hl 4 rfl) ?_
  refine lv_iload hx hb dL_law_2070 (lv_at hl 0 rfl) ?_
  refine lv_iconst (v := 1) hx hb dL_law_2072 (by decide) ?_
  refine lv_iadd hx hb dL_law_2073 ?_
  refine lv_topi (fun y_1 ey_1 => ?_)
  have i_1 : y_1.toInt = ix.toInt + 1 := ki_add ey_1 rfl rfl (om_568 hix hj0) (om_569 hix hjI hLI)
  refine va_sld hx hb hX hbl hbA hS (i := y_1) (ki_in (om_570 hix hj0 i_1) (om_571 hix hjI i_1)) dL_law_2074 ?_
  refine lv_topi (fun y_2 ey_2 => ?_)
  refine lv_aload_n hx hb dL_law_2075 rfl (lv_at hl 4 rfl) ?_
  refine lv_iload hx hb dL_law_2076 (lv_at hl 0 rfl) ?_
  refine lv_iconst (v := 2) hx hb dL_law_2078 (by decide) ?_
  refine lv_iadd hx hb dL_law_2079 ?_
  refine lv_topi (fun y_3 ey_3 => ?_)
  have i_3 : y_3.toInt = ix.toInt + 2 := ki_add ey_3 rfl rfl (om_572 hix hj0) (om_573 hix hjI hLI)
  refine va_sld hx hb hX hbl hbA hS (i := y_3) (ki_in (om_574 hix hj0 i_3) (om_575 hix hjI i_3)) dL_law_2080 ?_
  refine lv_topi (fun y_4 ey_4 => ?_)
  refine lv_aload_n hx hb dL_law_2081 rfl (lv_at hl 4 rfl) ?_
  refine lv_iload hx hb dL_law_2082 (lv_at hl 0 rfl) ?_
  refine lv_iconst (v := 3) hx hb dL_law_2084 (by decide) ?_
  refine lv_iadd hx hb dL_law_2085 ?_
  refine lv_topi (fun y_5 ey_5 => ?_)
  have i_5 : y_5.toInt = ix.toInt + 3 := ki_add ey_5 rfl rfl (om_580 hix hj0) (om_581 hix hjI hLI)
  refine va_sld hx hb hX hbl hbA hS (i := y_5) (ki_in (om_582 hix hj0 i_5) (om_583 hix hjI i_5)) dL_law_2086 ?_
  refine lv_topi (fun y_6 ey_6 => ?_)
  refine lv_aload_n hx hb dL_law_2087 rfl (lv_at hl 4 rfl) ?_
  refine lv_iload hx hb dL_law_2088 (lv_at hl 0 rfl) ?_
  refine lv_iconst (v := 4) hx hb dL_law_2090 (by decide) ?_
  refine lv_iadd hx hb dL_law_2091 ?_
  refine lv_topi (fun y_7 ey_7 => ?_)
  have i_7 : y_7.toInt = ix.toInt + 4 := ki_add ey_7 rfl rfl (om_585 hix hj0) (om_586 hix hjI hLI)
  refine va_sld hx hb hX hbl hbA hS (i := y_7) (ki_in (om_587 hix hj0 i_7) (om_588 hix hjI i_7)) dL_law_2092 ?_
  refine lv_topi (fun y_8 ey_8 => ?_)
  refine lv_aload_n hx hb dL_law_2093 rfl (lv_at hl 4 rfl) ?_
  refine lv_iload hx hb dL_law_2094 (lv_at hl 0 rfl) ?_
  refine lv_iconst (v := 5) hx hb dL_law_2096 (by decide) ?_
  refine lv_iadd hx hb dL_law_2097 ?_
  refine lv_topi (fun y_9 ey_9 => ?_)
  have i_9 : y_9.toInt = ix.toInt + 5 := ki_add ey_9 rfl rfl (om_590 hix hj0) (om_591 hix hjI hLI)
  refine va_sld hx hb hX hbl hbA hS (i := y_9) (ki_in (om_592 hix hj0 i_9) (om_593 hix hjI i_9)) dL_law_2098 ?_
  refine lv_topi (fun y_10 ey_10 => ?_)
  have hPc := hP.sub (ws' := [kx_4 xm_ xq_row xq_t xt_ xh0 xk0 xw_ xz_ slots old, kx_0 xq_row xq_cell len, kx_a xq_cell cyI 160 f]) [0, 2, 3] rfl
  have hKc := hK.sub (tys' := [(cyI, .int)]) [0] rfl
  refine vp_callSi (W.runV (As := [.int y_2, .int y_4, .int y_6, .int y_8, .int y_10]) (rest := []) ⟨hx, hb, hml, hown, (lwC_X4_spares hts0)⟩ (c_X4_spares l dC dI xm_ xq_row xq_t xt_ xh0 xk0 xw_ xz_ slots old xq_cell cyI len f y_2 y_4 y_6 y_8 y_10 I0 I1) (cwV 5 (lwC_X4_spares hts0) lwG_X4_spares rfl rfl rfl (by decide +kernel) ⟨Nat.le_of_ble_eq_true rfl, Nat.le_of_ble_eq_true rfl⟩) ⟨fun a U g mk q => by obtain ⟨q0, qP, qK⟩ := q; exact ⟨q0, qP, va_K.moved (u := U) (U := U.calling g mk a) (Vm.Alike.refl U.vm) qK⟩, kx_rc4 hKc hPc (q0 := 0) rfl, fun U hU hW => ⟨rfl, by rw [hU]; exact hPc, va_K.moved hW.alike hKc⟩⟩ rfl rfl hl.1 rfl (lv_room (Nat.le_of_ble_eq_true rfl)) dL_law_2099 (lw_fitJ hj hL (Nat.le_of_ble_eq_true rfl) (Nat.le_of_ble_eq_true rfl))) (fun r_11 w_11 => ?_)
  refine lv_pop hx hb dL_law_2102 rfl ?_
  refine lv_aload_n hx hb dL_law_2103 rfl (lv_at hl 2 rfl) ?_
  refine lv_aload_n hx hb dL_law_2104 rfl (lv_at hl 4 rfl) ?_
  refine lv_iload hx hb dL_law_2105 (lv_at hl 0 rfl) ?_
  refine lv_iconst (v := 1) hx hb dL_law_2107 (by decide) ?_
  refine lv_iadd hx hb dL_law_2108 ?_
  refine lv_topi (fun y_12 ey_12 => ?_)
  have i_12 : y_12.toInt = ix.toInt + 1 := ki_add ey_12 rfl rfl (om_568 hix hj0) (om_569 hix hjI hLI)
  refine va_sld hx hb hX hbl hbA hS (i := y_12) (ki_in (om_570 hix hj0 i_12) (om_571 hix hjI i_12)) dL_law_2109 ?_
  refine lv_topi (fun y_13 ey_13 => ?_)
  have qy_13 : y_2 = y_13 := by rw [ey_2, ey_13, ki_nateq (show y_1.toInt = y_12.toInt from (om_576 i_1 i_12))]
  subst qy_13
  refine lv_aload_n hx hb dL_law_2110 rfl (lv_at hl 4 rfl) ?_
  refine lv_iload hx hb dL_law_2111 (lv_at hl 0 rfl) ?_
  refine lv_iconst (v := 2) hx hb dL_law_2113 (by decide) ?_
  refine lv_iadd hx hb dL_law_2114 ?_
  refine lv_topi (fun y_14 ey_14 => ?_)
  have i_14 : y_14.toInt = ix.toInt + 2 := ki_add ey_14 rfl rfl (om_572 hix hj0) (om_573 hix hjI hLI)
  refine va_sld hx hb hX hbl hbA hS (i := y_14) (ki_in (om_574 hix hj0 i_14) (om_575 hix hjI i_14)) dL_law_2115 ?_
  refine lv_topi (fun y_15 ey_15 => ?_)
  have qy_15 : y_4 = y_15 := by rw [ey_4, ey_15, ki_nateq (show y_3.toInt = y_14.toInt from (om_577 i_3 i_14))]
  subst qy_15
  refine lv_aload_n hx hb dL_law_2116 rfl (lv_at hl 4 rfl) ?_
  refine lv_iload hx hb dL_law_2117 (lv_at hl 0 rfl) ?_
  refine lv_iconst (v := 3) hx hb dL_law_2119 (by decide) ?_
  refine lv_iadd hx hb dL_law_2120 ?_
  refine lv_topi (fun y_16 ey_16 => ?_)
  have i_16 : y_16.toInt = ix.toInt + 3 := ki_add ey_16 rfl rfl (om_580 hix hj0) (om_581 hix hjI hLI)
  refine va_sld hx hb hX hbl hbA hS (i := y_16) (ki_in (om_582 hix hj0 i_16) (om_583 hix hjI i_16)) dL_law_2121 ?_
  refine lv_topi (fun y_17 ey_17 => ?_)
  have qy_17 : y_6 = y_17 := by rw [ey_6, ey_17, ki_nateq (show y_5.toInt = y_16.toInt from (om_584 i_5 i_16))]
  subst qy_17
  refine lv_aload_n hx hb dL_law_2122 rfl (lv_at hl 4 rfl) ?_
  refine lv_iload hx hb dL_law_2123 (lv_at hl 0 rfl) ?_
  refine lv_iconst (v := 4) hx hb dL_law_2125 (by decide) ?_
  refine lv_iadd hx hb dL_law_2126 ?_
  refine lv_topi (fun y_18 ey_18 => ?_)
  have i_18 : y_18.toInt = ix.toInt + 4 := ki_add ey_18 rfl rfl (om_585 hix hj0) (om_586 hix hjI hLI)
  refine va_sld hx hb hX hbl hbA hS (i := y_18) (ki_in (om_587 hix hj0 i_18) (om_588 hix hjI i_18)) dL_law_2127 ?_
  refine lv_topi (fun y_19 ey_19 => ?_)
  have qy_19 : y_8 = y_19 := by rw [ey_8, ey_19, ki_nateq (show y_7.toInt = y_18.toInt from (om_589 i_7 i_18))]
  subst qy_19
  refine lv_aload_n hx hb dL_law_2128 rfl (lv_at hl 4 rfl) ?_
  refine lv_iload hx hb dL_law_2129 (lv_at hl 0 rfl) ?_
  refine lv_iconst (v := 5) hx hb dL_law_2131 (by decide) ?_
  refine lv_iadd hx hb dL_law_2132 ?_
  refine lv_topi (fun y_20 ey_20 => ?_)
  have i_20 : y_20.toInt = ix.toInt + 5 := ki_add ey_20 rfl rfl (om_590 hix hj0) (om_591 hix hjI hLI)
  refine va_sld hx hb hX hbl hbA hS (i := y_20) (ki_in (om_592 hix hj0 i_20) (om_593 hix hjI i_20)) dL_law_2133 ?_
  refine lv_topi (fun y_21 ey_21 => ?_)
  have qy_21 : y_10 = y_21 := by rw [ey_10, ey_21, ki_nateq (show y_9.toInt = y_20.toInt from (om_598 i_9 i_20))]
  subst qy_21
  obtain ⟨hPc, hDc, hFc, hCc⟩ := kx_preM (wc := [kx_5 yh0 yg_row len slots u_thrown yg_many yg_loss yg_less yg_voteValue yg_voteNumber yg_allValue yg_allNumber u_allMany yg_nodeL yg_nodeR u_nodes yg_part u_partMany yg_wasMany yg_wasLoss yg_wasValue yg_wasNumber yg_path u_pathMany yg_heavyValue yg_heavyTimes u_heavyMany yg_fewest yg_which yg_met u_mostMet, kx_a yg_row cyI 160 f]) hP hD hS hA [false, false, false, false, false, false, false, false, false, false, false, false, false, false, false, false, false, false, false, false, false, false, false, false, false, true, true, false, false, false, false, false, false, false, false, false, false, false, false, false, false, false, false, false, false, false, false, false] rfl
  have hKc := hK.sub (tys' := [(cyI, .int)]) [0] rfl
  refine va_calli (va_runV (As := [.int y_2, .int y_4, .int y_6, .int y_8, .int y_10]) (rest := []) ⟨hx, hb, hml, hown, (lwC_X5_spares hts0)⟩ (kx_un (c_X5_spares l dC dI yh0 yg_row yg_many yg_loss yg_less yg_voteValue yg_voteNumber yg_allValue yg_allNumber yg_nodeL yg_nodeR yg_part yg_wasMany yg_wasLoss yg_wasValue yg_wasNumber yg_path yg_heavyValue yg_heavyTimes yg_fewest yg_which yg_met len slots u_thrown u_allMany u_nodes u_partMany u_pathMany u_heavyMany u_mostMet cyI f y_2 y_4 y_6 y_8 y_10 H.size I0 I1)) (cwV 5 (lwC_X5_spares hts0) lwG_X5_spares rfl rfl rfl (by decide +kernel) ⟨Nat.le_of_ble_eq_true rfl, Nat.le_of_ble_eq_true rfl⟩) ⟨fun a U g mk q => by obtain ⟨q0, q1, qP, qK, qD⟩ := q; exact ⟨q0, q1, qP, va_K.moved (u := U) (U := U.calling g mk a) (Vm.Alike.refl U.vm) qK, qD⟩, kx_rc5 hKc hPc (q0 := 0) rfl, fun U hU hW => ⟨rfl, by rw [hU], by rw [hU]; exact hPc, va_K.moved hW.alike hKc, hDc.weaken (fun _ _ _ _ => trivial)⟩⟩ rfl rfl hl.1 rfl (lv_room (Nat.le_of_ble_eq_true rfl)) dL_law_2134 (lw_fitJ hj hL (Nat.le_of_ble_eq_true rfl) (Nat.le_of_ble_eq_true rfl))) hS (fun q _ h => hFc q h) hFc (fun r_22 u t H1 locs ht hvm w_22 hB hz1 hk1 hS => ?_)
  obtain ⟨hP1, hK1, hD1⟩ := hB
  rw [ht] at hP1
  have hK1 := va_K.moved hvm.symm hK1
  obtain ⟨hP, hD⟩ := kx_joinM (w2 := [kx_4 xm_ xq_row xq_t xt_ xh0 xk0 xw_ xz_ slots old, kx_2 xq_t xq_row xq_joined xq_from xq_to xq_size xq_lossOf xq_lessBy xq_value xq_number nodes here, kx_0 xq_row xq_cell len, kx_a xq_cell cyI 160 f, kx_a xq_from cyI 319 ff, kx_a xq_to cyI 319 ft, kx_a xq_size cyI 319 fs, kx_a xq_lossOf cyI 319 fo, kx_a xq_lessBy cyI 319 fe, kx_a xq_value cyI 1914 uv, kx_a xq_number cyI 1914 un, kx_3 xq_joined xj_v xj_n js jl je, kx_a xj_v cyI 12 jv, kx_a xj_n cyI 12 jn, kx_3 xh0 xa_v xa_n vs lo le, kx_a xa_v cyI 12 fv, kx_a xa_n cyI 12 fn, kx_3 xk0 xkv xkn sb lb eb, kx_a xkv cyI 12 gb, kx_a xkn cyI 12 nb, kx_1 xt_ xt_k xt_o tk mo, kx_a xt_k cyI 160 fk, kx_a xt_o cyI 160 fq, kx_a xw_ cyI 160 fw, kx_a xz_ cyI 161 fz, kx_5 yh0 yg_row len slots 0 yg_many yg_loss yg_less yg_voteValue yg_voteNumber yg_allValue yg_allNumber u_allMany yg_nodeL yg_nodeR u_nodes yg_part u_partMany yg_wasMany yg_wasLoss yg_wasValue yg_wasNumber yg_path u_pathMany yg_heavyValue yg_heavyTimes u_heavyMany yg_fewest yg_which yg_met u_mostMet, kx_a yg_row cyI 160 f, kx_a yg_many cyI 324 u_many, kx_a yg_loss cyI 324 u_loss, kx_a yg_less cyI 324 u_less, kx_a yg_voteValue cyI 1944 u_voteValue, kx_a yg_voteNumber cyI 1944 u_voteNumber, kx_a yg_allValue cyI 12 u_allValue, kx_a yg_allNumber cyI 12 u_allNumber, kx_a yg_nodeL cyI 320 u_nodeL, kx_a yg_nodeR cyI 320 u_nodeR, kx_a yg_part cyI 320 u_part, kx_a yg_wasMany cyI 320 u_wasMany, kx_a yg_wasLoss cyI 320 u_wasLoss, kx_a yg_wasValue cyI 1920 u_wasValue, kx_a yg_wasNumber cyI 1920 u_wasNumber, kx_a yg_path cyI 12 u_path, kx_a yg_heavyValue cyI 160 u_heavyValue, kx_a yg_heavyTimes cyI 160 u_heavyTimes, kx_a yg_fewest cyI 161 u_fewest, kx_a yg_which cyI 160 u_which, kx_a yg_met cyI 160 u_met, (q_o, .inl (cyL, 1, .inr (.inl ol)))]) hP hD hP1 hD1 hk1 hFc [false, false, false, false, false, false, false, false, false, false, false, false, false, false, false, false, false, false, false, false, false, false, false, false, false, true, true, false, false, false, false, false, false, false, false, false, false, false, false, false, false, false, false, false, false, false, false, false] hCc rfl
  clear hP1 hD1 hK1 hk1 hz1 hFc hDc hPc hKc hCc
  generalize H1 = H at hP hS ⊢
  refine lv_pop hx hb dL_law_2137 rfl ?_
  refine lv_goto (tgt := 2288) hx hb dL_law_2138 (by decide) ?_
  obtain ⟨x_23, ex_23⟩ : ∃ y : Int32, y = ix + 8 := ⟨_, rfl⟩
  have i_23 : x_23.toInt = ix.toInt + 8 := ki_add ex_23 rfl rfl (om_578 hix hj0) (om_579 hix hjI hLI)
  refine lv_iinc (v := x_23) (lv' := [(4, .int x_23), (3, .ref q_o), (2, .ref yh0), (1, .ref xm_), (0, .ref b)]) hx hb dL_law_2288 hl (k := 0) rfl (by rw [ex_23]; rfl) (by decide) rfl (fun ls hl => ?_)
  refine lv_goto (tgt := 23) hx hb dL_law_2291 (by decide) ?_
  refine W.widen (k := 60 + 2 * (j + 1)) (n := 20000 + 12 * (j + 1)) (lw_wdC (k := 0) (Nat.le_of_ble_eq_true rfl)) (lw_wdS (k := 0) (Nat.le_of_ble_eq_true rfl)) ?_
  have k_24 : (0 : Int32).toInt = 0 := rfl
  exact ih len slots old nodes here js jl je vs lo le sb lb eb tk mo 0 u_allMany u_nodes u_partMany u_pathMany u_heavyMany u_mostMet f ff ft fs fo fe uv un jv jn fv fn gb nb fk fq fw fz u_many u_loss u_less u_voteValue u_voteNumber u_allValue u_allNumber u_nodeL u_nodeR u_part u_wasMany u_wasLoss u_wasValue u_wasNumber u_path u_heavyValue u_heavyTimes u_fewest u_which u_met ol x_23 (om_ix i_23 hix) I0 I1 I2 I3 I4 I5 I6 I7 I8 _ _ ls hP hD hS (lv_sub hl [0, 1, 2, 3, 4] rfl)

set_option maxHeartbeats 4000000 in
set_option maxRecDepth 100000 in
theorem lc_41 {p : Program} {l : Launch} {e : Env} {s : State} {m : MethodId} {below : List Frame} {meth : Method} {c : Code} {dC : Nat → ClassId} {dI : Nat → Nat → Nat} {b : Nat} {xs : Nat → Int32} (hl0 : l.stackTraces = false) {L j : Nat} (hL : L ≤ 4096) (hj : 8 * j + 8 ≤ L) (C0 : lw_At p s m meth c b L xs) (hth : ki_ThA (fun q : Nat => s.heap.size ≤ q) s) {cyI cyL : ClassId} {xm_ xq_t xq_row xq_cell xq_from xq_to xq_size xq_lossOf xq_lessBy xq_value xq_number xq_joined xj_v xj_n xh0 xa_v xa_n xk0 xkv xkn xt_ xt_k xt_o xw_ xz_ yh0 yg_row yg_many yg_loss yg_less yg_voteValue yg_voteNumber yg_allValue yg_allNumber yg_nodeL yg_nodeR yg_part yg_wasMany yg_wasLoss yg_wasValue yg_wasNumber yg_path yg_heavyValue yg_heavyTimes yg_fewest yg_which yg_met q_o : Nat} (hK : va_K (dC, dI) vwCl [(cyI, .int), (cyL, .long)] s) (ih : lw_G p l e s m below meth c b dC dI cyI cyL xm_ xq_t xq_row xq_cell xq_from xq_to xq_size xq_lossOf xq_lessBy xq_value xq_number xq_joined xj_v xj_n xh0 xa_v xa_n xk0 xkv xkn xt_ xt_k xt_o xw_ xz_ yh0 yg_row yg_many yg_loss yg_less yg_voteValue yg_voteNumber yg_allValue yg_allNumber yg_nodeL yg_nodeR yg_part yg_wasMany yg_wasLoss yg_wasValue yg_wasNumber yg_path yg_heavyValue yg_heavyTimes yg_fewest yg_which yg_met q_o (j + 1)) {len slots old nodes here js jl je vs lo le sb lb eb tk mo u_thrown u_allMany u_nodes u_partMany u_pathMany u_heavyMany u_mostMet ix : Int32} {f ff ft fs fo fe uv un jv jn fv fn gb nb fk fq fw fz u_many u_loss u_less u_voteValue u_voteNumber u_allValue u_allNumber u_nodeL u_nodeR u_part u_wasMany u_wasLoss u_wasValue u_wasNumber u_path u_heavyValue u_heavyTimes u_fewest u_which u_met : Nat → Int32} {ol : Nat → Int64} (hix : ix.toInt = 8 * (j : Int)) (I0 : 0 ≤ len.toInt) (I1 : len.toInt ≤ 160) (I2 : 1 ≤ slots.toInt) (I3 : slots.toInt ≤ 6) (I4 : shorts f) (I5 : sixes fs) (I6 : laidX old slots here f ff ft fs fo fe uv un nodes len) (I7 : six4 u_many) (I8 : parts320 u_part) {H : Heap} {locs : List Loc} (hP : va_P (dC, dI) vwCl [kx_4 xm_ xq_row xq_t xt_ xh0 xk0 xw_ xz_ slots old, kx_2 xq_t xq_row xq_joined xq_from xq_to xq_size xq_lossOf xq_lessBy xq_value xq_number nodes here, kx_0 xq_row xq_cell len, kx_a xq_cell cyI 160 f, kx_a xq_from cyI 319 ff, kx_a xq_to cyI 319 ft, kx_a xq_size cyI 319 fs, kx_a xq_lossOf cyI 319 fo, kx_a xq_lessBy cyI 319 fe, kx_a xq_value cyI 1914 uv, kx_a xq_number cyI 1914 un, kx_3 xq_joined xj_v xj_n js jl je, kx_a xj_v cyI 12 jv, kx_a xj_n cyI 12 jn, kx_3 xh0 xa_v xa_n vs lo le, kx_a xa_v cyI 12 fv, kx_a xa_n cyI 12 fn, kx_3 xk0 xkv xkn sb lb eb, kx_a xkv cyI 12 gb, kx_a xkn cyI 12 nb, kx_1 xt_ xt_k xt_o tk mo, kx_a xt_k cyI 160 fk, kx_a xt_o cyI 160 fq, kx_a xw_ cyI 160 fw, kx_a xz_ cyI 161 fz, kx_5 yh0 yg_row len slots u_thrown yg_many yg_loss yg_less yg_voteValue yg_voteNumber yg_allValue yg_allNumber u_allMany yg_nodeL yg_nodeR u_nodes yg_part u_partMany yg_wasMany yg_wasLoss yg_wasValue yg_wasNumber yg_path u_pathMany yg_heavyValue yg_heavyTimes u_heavyMany yg_fewest yg_which yg_met u_mostMet, kx_a yg_row cyI 160 f, kx_a yg_many cyI 324 u_many, kx_a yg_loss cyI 324 u_loss, kx_a yg_less cyI 324 u_less, kx_a yg_voteValue cyI 1944 u_voteValue, kx_a yg_voteNumber cyI 1944 u_voteNumber, kx_a yg_allValue cyI 12 u_allValue, kx_a yg_allNumber cyI 12 u_allNumber, kx_a yg_nodeL cyI 320 u_nodeL, kx_a yg_nodeR cyI 320 u_nodeR, kx_a yg_part cyI 320 u_part, kx_a yg_wasMany cyI 320 u_wasMany, kx_a yg_wasLoss cyI 320 u_wasLoss, kx_a yg_wasValue cyI 1920 u_wasValue, kx_a yg_wasNumber cyI 1920 u_wasNumber, kx_a yg_path cyI 12 u_path, kx_a yg_heavyValue cyI 160 u_heavyValue, kx_a yg_heavyTimes cyI 160 u_heavyTimes, kx_a yg_fewest cyI 161 u_fewest, kx_a yg_which cyI 160 u_which, kx_a yg_met cyI 160 u_met, (q_o, .inl (cyL, 1, .inr (.inl ol)))] H) (hD : va_D (fun q : Nat => s.heap.size ≤ q) [kx_4 xm_ xq_row xq_t xt_ xh0 xk0 xw_ xz_ slots old, kx_2 xq_t xq_row xq_joined xq_from xq_to xq_size xq_lossOf xq_lessBy xq_value xq_number nodes here, kx_0 xq_row xq_cell len, kx_a xq_cell cyI 160 f, kx_a xq_from cyI 319 ff, kx_a xq_to cyI 319 ft, kx_a xq_size cyI 319 fs, kx_a xq_lossOf cyI 319 fo, kx_a xq_lessBy cyI 319 fe, kx_a xq_value cyI 1914 uv, kx_a xq_number cyI 1914 un, kx_3 xq_joined xj_v xj_n js jl je, kx_a xj_v cyI 12 jv, kx_a xj_n cyI 12 jn, kx_3 xh0 xa_v xa_n vs lo le, kx_a xa_v cyI 12 fv, kx_a xa_n cyI 12 fn, kx_3 xk0 xkv xkn sb lb eb, kx_a xkv cyI 12 gb, kx_a xkn cyI 12 nb, kx_1 xt_ xt_k xt_o tk mo, kx_a xt_k cyI 160 fk, kx_a xt_o cyI 160 fq, kx_a xw_ cyI 160 fw, kx_a xz_ cyI 161 fz, kx_5 yh0 yg_row len slots u_thrown yg_many yg_loss yg_less yg_voteValue yg_voteNumber yg_allValue yg_allNumber u_allMany yg_nodeL yg_nodeR u_nodes yg_part u_partMany yg_wasMany yg_wasLoss yg_wasValue yg_wasNumber yg_path u_pathMany yg_heavyValue yg_heavyTimes u_heavyMany yg_fewest yg_which yg_met u_mostMet, kx_a yg_row cyI 160 f, kx_a yg_many cyI 324 u_many, kx_a yg_loss cyI 324 u_loss, kx_a yg_less cyI 324 u_less, kx_a yg_voteValue cyI 1944 u_voteValue, kx_a yg_voteNumber cyI 1944 u_voteNumber, kx_a yg_allValue cyI 12 u_allValue, kx_a yg_allNumber cyI 12 u_allNumber, kx_a yg_nodeL cyI 320 u_nodeL, kx_a yg_nodeR cyI 320 u_nodeR, kx_a yg_part cyI 320 u_part, kx_a yg_wasMany cyI 320 u_wasMany, kx_a yg_wasLoss cyI 320 u_wasLoss, kx_a yg_wasValue cyI 1920 u_wasValue, kx_a yg_wasNumber cyI 1920 u_wasNumber, kx_a yg_path cyI 12 u_path, kx_a yg_heavyValue cyI 160 u_heavyValue, kx_a yg_heavyTimes cyI 160 u_heavyTimes, kx_a yg_fewest cyI 161 u_fewest, kx_a yg_which cyI 160 u_which, kx_a yg_met cyI 160 u_met, (q_o, .inl (cyL, 1, .inr (.inl ol)))]) (hS : va_S (fun q : Nat => s.heap.size ≤ q) s.heap H locs) {ls : Array Slot} (hl : lv_has ls 7 [(4, .int ix), (3, .ref q_o), (2, .ref yh0), (1, .ref xm_), (0, .ref b)]) : W p l e room_1 s m #[Value.ref b] below meth c H locs (60 + 2 * j) (20000 + 12 * j) (lw_Z below #[Value.ref b] s) (F0 m 2141 ls []) := by
  obtain ⟨hx, hb, hr, hml, hown, hts0, hX, hbl, hlocks, hgv⟩ := id C0
  have hts := hts0
  have hA : ∀ q : Nat, s.heap.size ≤ q → (fun q : Nat => s.heap.size ≤ q) q := fun _ h => h
  have hbA : ¬ (fun q : Nat => s.heap.size ≤ q) b := Nat.not_le.mpr hbl
  have hown : s.vm.findClass RL = some m.cls := hown
  have hb : c.code = cL_law := hb
  have hj0 : 0 ≤ (j : Int) := Int.natCast_nonneg j
  have hjI : 8 * (j : Int) + 8 ≤ (L : Int) := lw_jI hj
  have hLI : (L : Int) ≤ 4096 := lw_LI hL
  have hN__methodLinkNest_RX0_28_yX4_isHeavy_RX4 : va_Nw (.methodLinkNest RX0 28 yX4_isHeavy RX4) s := va_Nw.of rfl (hts0 (.methodLinkNest RX0 28 yX4_isHeavy RX4) lwW_515)
  refine lv_aload_n hx hb dL_law_2141 rfl (lv_at hl 3 rfl) ?_
  refine lv_aload_n hx hb dL_law_2142 rfl (lv_at hl 4 rfl) ?_
  refine lv_iload hx hb dL_law_2143 (lv_at hl 0 rfl) ?_
  refine lv_iconst (v := 1) hx hb dL_law_2145 (by decide) ?_
  refine lv_iadd hx hb dL_law_2146 ?_
  refine lv_topi (fun y_1 ey_1 => ?_)
  have i_1 : y_1.toInt = ix.toInt + 1 := ki_add ey_1 rfl rfl (om_568 hix hj0) (om_569 hix hjI hLI)
  refine va_sld hx hb hX hbl hbA hS (i := y_1) (ki_in (om_570 hix hj0 i_1) (om_571 hix hjI i_1)) dL_law_2147 ?_
  refine lv_topi (fun y_2 ey_2 => ?_)
  refine lv_aload_n hx hb dL_law_2148 rfl (lv_at hl 4 rfl) ?_
  refine lv_iload hx hb dL_law_2149 (lv_at hl 0 rfl) ?_
  refine lv_iconst (v := 2) hx hb dL_law_2151 (by decide) ?_
  refine lv_iadd hx hb dL_law_2152 ?_
  refine lv_topi (fun y_3 ey_3 => ?_)
  have i_3 : y_3.toInt = ix.toInt + 2 := ki_add ey_3 rfl rfl (om_572 hix hj0) (om_573 hix hjI hLI)
  refine va_sld hx hb hX hbl hbA hS (i := y_3) (ki_in (om_574 hix hj0 i_3) (om_575 hix hjI i_3)) dL_law_2153 ?_
  refine lv_topi (fun y_4 ey_4 => ?_)
  refine lv_aload_n hx hb dL_law_2154 rfl (lv_at hl 4 rfl) ?_
  refine lv_iload hx hb dL_law_2155 (lv_at hl 0 rfl) ?_
  refine lv_iconst (v := 3) hx hb dL_law_2157 (by decide) ?_
  refine lv_iadd hx hb dL_law_2158 ?_
  refine lv_topi (fun y_5 ey_5 => ?_)
  have i_5 : y_5.toInt = ix.toInt + 3 := ki_add ey_5 rfl rfl (om_580 hix hj0) (om_581 hix hjI hLI)
  refine va_sld hx hb hX hbl hbA hS (i := y_5) (ki_in (om_582 hix hj0 i_5) (om_583 hix hjI i_5)) dL_law_2159 ?_
  refine lv_topi (fun y_6 ey_6 => ?_)
  refine lv_aload_n hx hb dL_law_2160 rfl (lv_at hl 4 rfl) ?_
  refine lv_iload hx hb dL_law_2161 (lv_at hl 0 rfl) ?_
  refine lv_iconst (v := 4) hx hb dL_law_2163 (by decide) ?_
  refine lv_iadd hx hb dL_law_2164 ?_
  refine lv_topi (fun y_7 ey_7 => ?_)
  have i_7 : y_7.toInt = ix.toInt + 4 := ki_add ey_7 rfl rfl (om_585 hix hj0) (om_586 hix hjI hLI)
  refine va_sld hx hb hX hbl hbA hS (i := y_7) (ki_in (om_587 hix hj0 i_7) (om_588 hix hjI i_7)) dL_law_2165 ?_
  refine lv_topi (fun y_8 ey_8 => ?_)
  obtain ⟨hPc, hDc, hFc, hCc⟩ := kx_preM (wc := [kx_4 xm_ xq_row xq_t xt_ xh0 xk0 xw_ xz_ slots old, kx_0 xq_row xq_cell len, kx_a xq_cell cyI 160 f]) hP hD hS hA [true, false, true, true, false, false, false, false, false, false, false, false, false, false, false, false, false, false, false, false, false, false, false, false, false, false, false, false, false, false, false, false, false, false, false, false, false, false, false, false, false, false, false, false, false, false, false, false] rfl
  have hKc := hK.sub (tys' := [(cyI, .int)]) [0] rfl
  refine va_calli (va_runV (As := [.int y_2, .int y_4, .int y_6, .int y_8]) (rest := []) ⟨hx, hb, hml, hown, (lwC_X4_would hts0)⟩ (c_X4_would l dC dI xm_ xq_row xq_t xt_ xh0 xk0 xw_ xz_ slots old xq_cell cyI len f y_2 y_4 y_6 y_8 H.size I0 I1) (cwV 4 (lwC_X4_would hts0) lwG_X4_would rfl rfl rfl (by decide +kernel) ⟨Nat.le_of_ble_eq_true rfl, Nat.le_of_ble_eq_true rfl⟩) ⟨fun a U g mk q => by obtain ⟨q0, q1, qP, qK, qD, qn0⟩ := q; exact ⟨q0, q1, qP, va_K.moved (u := U) (U := U.calling g mk a) (Vm.Alike.refl U.vm) qK, qD, va_Nw.same (u := U) (U := U.calling g mk a) rfl rfl qn0⟩, kx_rc4 hKc hPc (q0 := 0) rfl, fun U hU hW => ⟨rfl, by rw [hU], by rw [hU]; exact hPc, va_K.moved hW.alike hKc, hDc.weaken (fun _ _ _ _ => trivial), va_Nw.warmM hW hN__methodLinkNest_RX0_28_yX4_isHeavy_RX4⟩⟩ rfl rfl hl.1 rfl (lv_room (Nat.le_of_ble_eq_true rfl)) dL_law_2166 (lw_fitJ hj hL (Nat.le_of_ble_eq_true rfl) (Nat.le_of_ble_eq_true rfl))) hS (fun q _ h => hFc q h) hFc (fun r_9 u t H1 locs ht hvm w_9 hB hz1 hk1 hS => ?_)
  obtain ⟨o_10, rfl⟩ : ∃ z, z = u := ⟨_, rfl⟩
  obtain ⟨hP1, hK1, hD1⟩ := hB
  rw [ht] at hP1
  have hK1 := va_K.moved hvm.symm hK1
  obtain ⟨hP, hD⟩ := kx_joinM (w2 := [kx_4 xm_ xq_row xq_t xt_ xh0 xk0 xw_ xz_ slots old, kx_2 xq_t xq_row xq_joined xq_from xq_to xq_size xq_lossOf xq_lessBy xq_value xq_number nodes here, kx_0 xq_row xq_cell len, kx_a xq_cell cyI 160 o_10, kx_a xq_from cyI 319 ff, kx_a xq_to cyI 319 ft, kx_a xq_size cyI 319 fs, kx_a xq_lossOf cyI 319 fo, kx_a xq_lessBy cyI 319 fe, kx_a xq_value cyI 1914 uv, kx_a xq_number cyI 1914 un, kx_3 xq_joined xj_v xj_n js jl je, kx_a xj_v cyI 12 jv, kx_a xj_n cyI 12 jn, kx_3 xh0 xa_v xa_n vs lo le, kx_a xa_v cyI 12 fv, kx_a xa_n cyI 12 fn, kx_3 xk0 xkv xkn sb lb eb, kx_a xkv cyI 12 gb, kx_a xkn cyI 12 nb, kx_1 xt_ xt_k xt_o tk mo, kx_a xt_k cyI 160 fk, kx_a xt_o cyI 160 fq, kx_a xw_ cyI 160 fw, kx_a xz_ cyI 161 fz, kx_5 yh0 yg_row len slots u_thrown yg_many yg_loss yg_less yg_voteValue yg_voteNumber yg_allValue yg_allNumber u_allMany yg_nodeL yg_nodeR u_nodes yg_part u_partMany yg_wasMany yg_wasLoss yg_wasValue yg_wasNumber yg_path u_pathMany yg_heavyValue yg_heavyTimes u_heavyMany yg_fewest yg_which yg_met u_mostMet, kx_a yg_row cyI 160 f, kx_a yg_many cyI 324 u_many, kx_a yg_loss cyI 324 u_loss, kx_a yg_less cyI 324 u_less, kx_a yg_voteValue cyI 1944 u_voteValue, kx_a yg_voteNumber cyI 1944 u_voteNumber, kx_a yg_allValue cyI 12 u_allValue, kx_a yg_allNumber cyI 12 u_allNumber, kx_a yg_nodeL cyI 320 u_nodeL, kx_a yg_nodeR cyI 320 u_nodeR, kx_a yg_part cyI 320 u_part, kx_a yg_wasMany cyI 320 u_wasMany, kx_a yg_wasLoss cyI 320 u_wasLoss, kx_a yg_wasValue cyI 1920 u_wasValue, kx_a yg_wasNumber cyI 1920 u_wasNumber, kx_a yg_path cyI 12 u_path, kx_a yg_heavyValue cyI 160 u_heavyValue, kx_a yg_heavyTimes cyI 160 u_heavyTimes, kx_a yg_fewest cyI 161 u_fewest, kx_a yg_which cyI 160 u_which, kx_a yg_met cyI 160 u_met, (q_o, .inl (cyL, 1, .inr (.inl ol)))]) hP hD hP1 hD1 hk1 hFc [true, false, true, true, false, false, false, false, false, false, false, false, false, false, false, false, false, false, false, false, false, false, false, false, false, false, false, false, false, false, false, false, false, false, false, false, false, false, false, false, false, false, false, false, false, false, false, false] hCc rfl
  clear hP1 hD1 hK1 hk1 hz1 hFc hDc hPc hKc hCc
  generalize H1 = H at hP hS ⊢
  have w_9 : o_10 = f := w_9
  refine lv_pop hx hb dL_law_2169 rfl ?_
  refine lv_aload_n hx hb dL_law_2170 rfl (lv_at hl 2 rfl) ?_
  refine lv_aload_n hx hb dL_law_2171 rfl (lv_at hl 4 rfl) ?_
  refine lv_iload hx hb dL_law_2172 (lv_at hl 0 rfl) ?_
  refine lv_iconst (v := 1) hx hb dL_law_2174 (by decide) ?_
  refine lv_iadd hx hb dL_law_2175 ?_
  refine lv_topi (fun y_11 ey_11 => ?_)
  have i_11 : y_11.toInt = ix.toInt + 1 := ki_add ey_11 rfl rfl (om_568 hix hj0) (om_569 hix hjI hLI)
  refine va_sld hx hb hX hbl hbA hS (i := y_11) (ki_in (om_570 hix hj0 i_11) (om_571 hix hjI i_11)) dL_law_2176 ?_
  refine lv_topi (fun y_12 ey_12 => ?_)
  have qy_12 : y_2 = y_12 := by rw [ey_2, ey_12, ki_nateq (show y_1.toInt = y_11.toInt from (om_576 i_1 i_11))]
  subst qy_12
  refine lv_aload_n hx hb dL_law_2177 rfl (lv_at hl 4 rfl) ?_
  refine lv_iload hx hb dL_law_2178 (lv_at hl 0 rfl) ?_
  refine lv_iconst (v := 2) hx hb dL_law_2180 (by decide) ?_
  refine lv_iadd hx hb dL_law_2181 ?_
  refine lv_topi (fun y_13 ey_13 => ?_)
  have i_13 : y_13.toInt = ix.toInt + 2 := ki_add ey_13 rfl rfl (om_572 hix hj0) (om_573 hix hjI hLI)
  refine va_sld hx hb hX hbl hbA hS (i := y_13) (ki_in (om_574 hix hj0 i_13) (om_575 hix hjI i_13)) dL_law_2182 ?_
  refine lv_topi (fun y_14 ey_14 => ?_)
  have qy_14 : y_4 = y_14 := by rw [ey_4, ey_14, ki_nateq (show y_3.toInt = y_13.toInt from (om_577 i_3 i_13))]
  subst qy_14
  refine lv_aload_n hx hb dL_law_2183 rfl (lv_at hl 4 rfl) ?_
  refine lv_iload hx hb dL_law_2184 (lv_at hl 0 rfl) ?_
  refine lv_iconst (v := 3) hx hb dL_law_2186 (by decide) ?_
  refine lv_iadd hx hb dL_law_2187 ?_
  refine lv_topi (fun y_15 ey_15 => ?_)
  have i_15 : y_15.toInt = ix.toInt + 3 := ki_add ey_15 rfl rfl (om_580 hix hj0) (om_581 hix hjI hLI)
  refine va_sld hx hb hX hbl hbA hS (i := y_15) (ki_in (om_582 hix hj0 i_15) (om_583 hix hjI i_15)) dL_law_2188 ?_
  refine lv_topi (fun y_16 ey_16 => ?_)
  have qy_16 : y_6 = y_16 := by rw [ey_6, ey_16, ki_nateq (show y_5.toInt = y_15.toInt from (om_584 i_5 i_15))]
  subst qy_16
  refine lv_aload_n hx hb dL_law_2189 rfl (lv_at hl 4 rfl) ?_
  refine lv_iload hx hb dL_law_2190 (lv_at hl 0 rfl) ?_
  refine lv_iconst (v := 4) hx hb dL_law_2192 (by decide) ?_
  refine lv_iadd hx hb dL_law_2193 ?_
  refine lv_topi (fun y_17 ey_17 => ?_)
  have i_17 : y_17.toInt = ix.toInt + 4 := ki_add ey_17 rfl rfl (om_585 hix hj0) (om_586 hix hjI hLI)
  refine va_sld hx hb hX hbl hbA hS (i := y_17) (ki_in (om_587 hix hj0 i_17) (om_588 hix hjI i_17)) dL_law_2194 ?_
  refine lv_topi (fun y_18 ey_18 => ?_)
  have qy_18 : y_8 = y_18 := by rw [ey_8, ey_18, ki_nateq (show y_7.toInt = y_17.toInt from (om_589 i_7 i_17))]
  subst qy_18
  obtain ⟨hPc, hDc, hFc, hCc⟩ := kx_preM (wc := [kx_5 yh0 yg_row len slots u_thrown yg_many yg_loss yg_less yg_voteValue yg_voteNumber yg_allValue yg_allNumber u_allMany yg_nodeL yg_nodeR u_nodes yg_part u_partMany yg_wasMany yg_wasLoss yg_wasValue yg_wasNumber yg_path u_pathMany yg_heavyValue yg_heavyTimes u_heavyMany yg_fewest yg_which yg_met u_mostMet, kx_a yg_row cyI 160 f]) hP hD hS hA [false, false, false, false, false, false, false, false, false, false, false, false, false, false, false, false, false, false, false, false, false, false, false, false, false, true, true, false, false, false, false, false, false, false, false, false, false, false, false, false, false, false, false, false, false, false, false, false] rfl
  have hKc := hK.sub (tys' := [(cyI, .int)]) [0] rfl
  refine va_calli (va_runV (As := [.int y_2, .int y_4, .int y_6, .int y_8]) (rest := []) ⟨hx, hb, hml, hown, (lwC_X5_would hts0)⟩ (kx_un (c_X5_would l dC dI yh0 yg_row yg_many yg_loss yg_less yg_voteValue yg_voteNumber yg_allValue yg_allNumber yg_nodeL yg_nodeR yg_part yg_wasMany yg_wasLoss yg_wasValue yg_wasNumber yg_path yg_heavyValue yg_heavyTimes yg_fewest yg_which yg_met len slots u_thrown u_allMany u_nodes u_partMany u_pathMany u_heavyMany u_mostMet cyI f y_2 y_4 y_6 y_8 H.size I0 I1)) (cwV 4 (lwC_X5_would hts0) lwG_X5_would rfl rfl rfl (by decide +kernel) ⟨Nat.le_of_ble_eq_true rfl, Nat.le_of_ble_eq_true rfl⟩) ⟨fun a U g mk q => by obtain ⟨q0, q1, qP, qK, qD⟩ := q; exact ⟨q0, q1, qP, va_K.moved (u := U) (U := U.calling g mk a) (Vm.Alike.refl U.vm) qK, qD⟩, kx_rc5 hKc hPc (q0 := 0) rfl, fun U hU hW => ⟨rfl, by rw [hU], by rw [hU]; exact hPc, va_K.moved hW.alike hKc, hDc.weaken (fun _ _ _ _ => trivial)⟩⟩ rfl rfl hl.1 rfl (lv_room (Nat.le_of_ble_eq_true rfl)) dL_law_2195 (lw_fitJ hj hL (Nat.le_of_ble_eq_true rfl) (Nat.le_of_ble_eq_true rfl))) hS (fun q _ h => hFc q h) hFc (fun r_19 u t H1 locs ht hvm w_19 hB hz1 hk1 hS => ?_)
  obtain ⟨o_20, rfl⟩ : ∃ z, z = u := ⟨_, rfl⟩
  obtain ⟨hP1, hK1, hD1⟩ := hB
  rw [ht] at hP1
  have hK1 := va_K.moved hvm.symm hK1
  obtain ⟨hP, hD⟩ := kx_joinM (w2 := [kx_4 xm_ xq_row xq_t xt_ xh0 xk0 xw_ xz_ slots old, kx_2 xq_t xq_row xq_joined xq_from xq_to xq_size xq_lossOf xq_lessBy xq_value xq_number nodes here, kx_0 xq_row xq_cell len, kx_a xq_cell cyI 160 o_10, kx_a xq_from cyI 319 ff, kx_a xq_to cyI 319 ft, kx_a xq_size cyI 319 fs, kx_a xq_lossOf cyI 319 fo, kx_a xq_lessBy cyI 319 fe, kx_a xq_value cyI 1914 uv, kx_a xq_number cyI 1914 un, kx_3 xq_joined xj_v xj_n js jl je, kx_a xj_v cyI 12 jv, kx_a xj_n cyI 12 jn, kx_3 xh0 xa_v xa_n vs lo le, kx_a xa_v cyI 12 fv, kx_a xa_n cyI 12 fn, kx_3 xk0 xkv xkn sb lb eb, kx_a xkv cyI 12 gb, kx_a xkn cyI 12 nb, kx_1 xt_ xt_k xt_o tk mo, kx_a xt_k cyI 160 fk, kx_a xt_o cyI 160 fq, kx_a xw_ cyI 160 fw, kx_a xz_ cyI 161 fz, kx_5 yh0 yg_row len slots 0 yg_many yg_loss yg_less yg_voteValue yg_voteNumber yg_allValue yg_allNumber u_allMany yg_nodeL yg_nodeR u_nodes yg_part u_partMany yg_wasMany yg_wasLoss yg_wasValue yg_wasNumber yg_path u_pathMany yg_heavyValue yg_heavyTimes u_heavyMany yg_fewest yg_which yg_met u_mostMet, kx_a yg_row cyI 160 o_20, kx_a yg_many cyI 324 u_many, kx_a yg_loss cyI 324 u_loss, kx_a yg_less cyI 324 u_less, kx_a yg_voteValue cyI 1944 u_voteValue, kx_a yg_voteNumber cyI 1944 u_voteNumber, kx_a yg_allValue cyI 12 u_allValue, kx_a yg_allNumber cyI 12 u_allNumber, kx_a yg_nodeL cyI 320 u_nodeL, kx_a yg_nodeR cyI 320 u_nodeR, kx_a yg_part cyI 320 u_part, kx_a yg_wasMany cyI 320 u_wasMany, kx_a yg_wasLoss cyI 320 u_wasLoss, kx_a yg_wasValue cyI 1920 u_wasValue, kx_a yg_wasNumber cyI 1920 u_wasNumber, kx_a yg_path cyI 12 u_path, kx_a yg_heavyValue cyI 160 u_heavyValue, kx_a yg_heavyTimes cyI 160 u_heavyTimes, kx_a yg_fewest cyI 161 u_fewest, kx_a yg_which cyI 160 u_which, kx_a yg_met cyI 160 u_met, (q_o, .inl (cyL, 1, .inr (.inl ol)))]) hP hD hP1 hD1 hk1 hFc [false, false, false, false, false, false, false, false, false, false, false, false, false, false, false, false, false, false, false, false, false, false, false, false, false, true, true, false, false, false, false, false, false, false, false, false, false, false, false, false, false, false, false, false, false, false, false, false] hCc rfl
  clear hP1 hD1 hK1 hk1 hz1 hFc hDc hPc hKc hCc
  generalize H1 = H at hP hS ⊢
  have w_19 : o_20 = f := w_19
  refine lv_pop hx hb dL_law_2198 rfl ?_
  refine lv_goto (tgt := 2288) hx hb dL_law_2199 (by decide) ?_
  obtain ⟨x_21, ex_21⟩ : ∃ y : Int32, y = ix + 8 := ⟨_, rfl⟩
  have i_21 : x_21.toInt = ix.toInt + 8 := ki_add ex_21 rfl rfl (om_578 hix hj0) (om_579 hix hjI hLI)
  refine lv_iinc (v := x_21) (lv' := [(4, .int x_21), (3, .ref q_o), (2, .ref yh0), (1, .ref xm_), (0, .ref b)]) hx hb dL_law_2288 hl (k := 0) rfl (by rw [ex_21]; rfl) (by decide) rfl (fun ls hl => ?_)
  refine lv_goto (tgt := 23) hx hb dL_law_2291 (by decide) ?_
  rw [w_9] at hP hD
  rw [w_19] at hP hD
  obtain ⟨hP, hD⟩ := kx_re (w2 := [kx_4 xm_ xq_row xq_t xt_ xh0 xk0 xw_ xz_ slots old, kx_2 xq_t xq_row xq_joined xq_from xq_to xq_size xq_lossOf xq_lessBy xq_value xq_number nodes here, kx_0 xq_row xq_cell len, kx_a xq_cell cyI 160 f, kx_a xq_from cyI 319 ff, kx_a xq_to cyI 319 ft, kx_a xq_size cyI 319 fs, kx_a xq_lossOf cyI 319 fo, kx_a xq_lessBy cyI 319 fe, kx_a xq_value cyI 1914 uv, kx_a xq_number cyI 1914 un, kx_3 xq_joined xj_v xj_n js jl je, kx_a xj_v cyI 12 jv, kx_a xj_n cyI 12 jn, kx_3 xh0 xa_v xa_n vs lo le, kx_a xa_v cyI 12 fv, kx_a xa_n cyI 12 fn, kx_3 xk0 xkv xkn sb lb eb, kx_a xkv cyI 12 gb, kx_a xkn cyI 12 nb, kx_1 xt_ xt_k xt_o tk mo, kx_a xt_k cyI 160 fk, kx_a xt_o cyI 160 fq, kx_a xw_ cyI 160 fw, kx_a xz_ cyI 161 fz, kx_5 yh0 yg_row len slots 0 yg_many yg_loss yg_less yg_voteValue yg_voteNumber yg_allValue yg_allNumber u_allMany yg_nodeL yg_nodeR u_nodes yg_part u_partMany yg_wasMany yg_wasLoss yg_wasValue yg_wasNumber yg_path u_pathMany yg_heavyValue yg_heavyTimes u_heavyMany yg_fewest yg_which yg_met u_mostMet, kx_a yg_row cyI 160 f, kx_a yg_many cyI 324 u_many, kx_a yg_loss cyI 324 u_loss, kx_a yg_less cyI 324 u_less, kx_a yg_voteValue cyI 1944 u_voteValue, kx_a yg_voteNumber cyI 1944 u_voteNumber, kx_a yg_allValue cyI 12 u_allValue, kx_a yg_allNumber cyI 12 u_allNumber, kx_a yg_nodeL cyI 320 u_nodeL, kx_a yg_nodeR cyI 320 u_nodeR, kx_a yg_part cyI 320 u_part, kx_a yg_wasMany cyI 320 u_wasMany, kx_a yg_wasLoss cyI 320 u_wasLoss, kx_a yg_wasValue cyI 1920 u_wasValue, kx_a yg_wasNumber cyI 1920 u_wasNumber, kx_a yg_path cyI 12 u_path, kx_a yg_heavyValue cyI 160 u_heavyValue, kx_a yg_heavyTimes cyI 160 u_heavyTimes, kx_a yg_fewest cyI 161 u_fewest, kx_a yg_which cyI 160 u_which, kx_a yg_met cyI 160 u_met, (q_o, .inl (cyL, 1, .inr (.inl ol)))]) hP hD rfl
  refine W.widen (k := 60 + 2 * (j + 1)) (n := 20000 + 12 * (j + 1)) (lw_wdC (k := 0) (Nat.le_of_ble_eq_true rfl)) (lw_wdS (k := 0) (Nat.le_of_ble_eq_true rfl)) ?_
  have k_22 : (0 : Int32).toInt = 0 := rfl
  exact ih len slots old nodes here js jl je vs lo le sb lb eb tk mo 0 u_allMany u_nodes u_partMany u_pathMany u_heavyMany u_mostMet f ff ft fs fo fe uv un jv jn fv fn gb nb fk fq fw fz u_many u_loss u_less u_voteValue u_voteNumber u_allValue u_allNumber u_nodeL u_nodeR u_part u_wasMany u_wasLoss u_wasValue u_wasNumber u_path u_heavyValue u_heavyTimes u_fewest u_which u_met ol x_21 (om_ix i_21 hix) I0 I1 I2 I3 I4 I5 I6 I7 I8 _ _ ls hP hD hS (lv_sub hl [0, 1, 2, 3, 4] rfl)

set_option maxHeartbeats 4000000 in
set_option maxRecDepth 100000 in
theorem lc_42 {p : Program} {l : Launch} {e : Env} {s : State} {m : MethodId} {below : List Frame} {meth : Method} {c : Code} {dC : Nat → ClassId} {dI : Nat → Nat → Nat} {b : Nat} {xs : Nat → Int32} (hl0 : l.stackTraces = false) {L j : Nat} (hL : L ≤ 4096) (hj : 8 * j + 8 ≤ L) (C0 : lw_At p s m meth c b L xs) (hth : ki_ThA (fun q : Nat => s.heap.size ≤ q) s) {cyI cyL : ClassId} {xm_ xq_t xq_row xq_cell xq_from xq_to xq_size xq_lossOf xq_lessBy xq_value xq_number xq_joined xj_v xj_n xh0 xa_v xa_n xk0 xkv xkn xt_ xt_k xt_o xw_ xz_ yh0 yg_row yg_many yg_loss yg_less yg_voteValue yg_voteNumber yg_allValue yg_allNumber yg_nodeL yg_nodeR yg_part yg_wasMany yg_wasLoss yg_wasValue yg_wasNumber yg_path yg_heavyValue yg_heavyTimes yg_fewest yg_which yg_met q_o : Nat} (hK : va_K (dC, dI) vwCl [(cyI, .int), (cyL, .long)] s) (ih : lw_G p l e s m below meth c b dC dI cyI cyL xm_ xq_t xq_row xq_cell xq_from xq_to xq_size xq_lossOf xq_lessBy xq_value xq_number xq_joined xj_v xj_n xh0 xa_v xa_n xk0 xkv xkn xt_ xt_k xt_o xw_ xz_ yh0 yg_row yg_many yg_loss yg_less yg_voteValue yg_voteNumber yg_allValue yg_allNumber yg_nodeL yg_nodeR yg_part yg_wasMany yg_wasLoss yg_wasValue yg_wasNumber yg_path yg_heavyValue yg_heavyTimes yg_fewest yg_which yg_met q_o (j + 1)) {len slots old nodes here js jl je vs lo le sb lb eb tk mo u_thrown u_allMany u_nodes u_partMany u_pathMany u_heavyMany u_mostMet ix : Int32} {f ff ft fs fo fe uv un jv jn fv fn gb nb fk fq fw fz u_many u_loss u_less u_voteValue u_voteNumber u_allValue u_allNumber u_nodeL u_nodeR u_part u_wasMany u_wasLoss u_wasValue u_wasNumber u_path u_heavyValue u_heavyTimes u_fewest u_which u_met : Nat → Int32} {ol : Nat → Int64} (hix : ix.toInt = 8 * (j : Int)) (I0 : 0 ≤ len.toInt) (I1 : len.toInt ≤ 160) (I2 : 1 ≤ slots.toInt) (I3 : slots.toInt ≤ 6) (I4 : shorts f) (I5 : sixes fs) (I6 : laidX old slots here f ff ft fs fo fe uv un nodes len) (I7 : six4 u_many) (I8 : parts320 u_part) {H : Heap} {locs : List Loc} (hP : va_P (dC, dI) vwCl [kx_4 xm_ xq_row xq_t xt_ xh0 xk0 xw_ xz_ slots old, kx_2 xq_t xq_row xq_joined xq_from xq_to xq_size xq_lossOf xq_lessBy xq_value xq_number nodes here, kx_0 xq_row xq_cell len, kx_a xq_cell cyI 160 f, kx_a xq_from cyI 319 ff, kx_a xq_to cyI 319 ft, kx_a xq_size cyI 319 fs, kx_a xq_lossOf cyI 319 fo, kx_a xq_lessBy cyI 319 fe, kx_a xq_value cyI 1914 uv, kx_a xq_number cyI 1914 un, kx_3 xq_joined xj_v xj_n js jl je, kx_a xj_v cyI 12 jv, kx_a xj_n cyI 12 jn, kx_3 xh0 xa_v xa_n vs lo le, kx_a xa_v cyI 12 fv, kx_a xa_n cyI 12 fn, kx_3 xk0 xkv xkn sb lb eb, kx_a xkv cyI 12 gb, kx_a xkn cyI 12 nb, kx_1 xt_ xt_k xt_o tk mo, kx_a xt_k cyI 160 fk, kx_a xt_o cyI 160 fq, kx_a xw_ cyI 160 fw, kx_a xz_ cyI 161 fz, kx_5 yh0 yg_row len slots u_thrown yg_many yg_loss yg_less yg_voteValue yg_voteNumber yg_allValue yg_allNumber u_allMany yg_nodeL yg_nodeR u_nodes yg_part u_partMany yg_wasMany yg_wasLoss yg_wasValue yg_wasNumber yg_path u_pathMany yg_heavyValue yg_heavyTimes u_heavyMany yg_fewest yg_which yg_met u_mostMet, kx_a yg_row cyI 160 f, kx_a yg_many cyI 324 u_many, kx_a yg_loss cyI 324 u_loss, kx_a yg_less cyI 324 u_less, kx_a yg_voteValue cyI 1944 u_voteValue, kx_a yg_voteNumber cyI 1944 u_voteNumber, kx_a yg_allValue cyI 12 u_allValue, kx_a yg_allNumber cyI 12 u_allNumber, kx_a yg_nodeL cyI 320 u_nodeL, kx_a yg_nodeR cyI 320 u_nodeR, kx_a yg_part cyI 320 u_part, kx_a yg_wasMany cyI 320 u_wasMany, kx_a yg_wasLoss cyI 320 u_wasLoss, kx_a yg_wasValue cyI 1920 u_wasValue, kx_a yg_wasNumber cyI 1920 u_wasNumber, kx_a yg_path cyI 12 u_path, kx_a yg_heavyValue cyI 160 u_heavyValue, kx_a yg_heavyTimes cyI 160 u_heavyTimes, kx_a yg_fewest cyI 161 u_fewest, kx_a yg_which cyI 160 u_which, kx_a yg_met cyI 160 u_met, (q_o, .inl (cyL, 1, .inr (.inl ol)))] H) (hD : va_D (fun q : Nat => s.heap.size ≤ q) [kx_4 xm_ xq_row xq_t xt_ xh0 xk0 xw_ xz_ slots old, kx_2 xq_t xq_row xq_joined xq_from xq_to xq_size xq_lossOf xq_lessBy xq_value xq_number nodes here, kx_0 xq_row xq_cell len, kx_a xq_cell cyI 160 f, kx_a xq_from cyI 319 ff, kx_a xq_to cyI 319 ft, kx_a xq_size cyI 319 fs, kx_a xq_lossOf cyI 319 fo, kx_a xq_lessBy cyI 319 fe, kx_a xq_value cyI 1914 uv, kx_a xq_number cyI 1914 un, kx_3 xq_joined xj_v xj_n js jl je, kx_a xj_v cyI 12 jv, kx_a xj_n cyI 12 jn, kx_3 xh0 xa_v xa_n vs lo le, kx_a xa_v cyI 12 fv, kx_a xa_n cyI 12 fn, kx_3 xk0 xkv xkn sb lb eb, kx_a xkv cyI 12 gb, kx_a xkn cyI 12 nb, kx_1 xt_ xt_k xt_o tk mo, kx_a xt_k cyI 160 fk, kx_a xt_o cyI 160 fq, kx_a xw_ cyI 160 fw, kx_a xz_ cyI 161 fz, kx_5 yh0 yg_row len slots u_thrown yg_many yg_loss yg_less yg_voteValue yg_voteNumber yg_allValue yg_allNumber u_allMany yg_nodeL yg_nodeR u_nodes yg_part u_partMany yg_wasMany yg_wasLoss yg_wasValue yg_wasNumber yg_path u_pathMany yg_heavyValue yg_heavyTimes u_heavyMany yg_fewest yg_which yg_met u_mostMet, kx_a yg_row cyI 160 f, kx_a yg_many cyI 324 u_many, kx_a yg_loss cyI 324 u_loss, kx_a yg_less cyI 324 u_less, kx_a yg_voteValue cyI 1944 u_voteValue, kx_a yg_voteNumber cyI 1944 u_voteNumber, kx_a yg_allValue cyI 12 u_allValue, kx_a yg_allNumber cyI 12 u_allNumber, kx_a yg_nodeL cyI 320 u_nodeL, kx_a yg_nodeR cyI 320 u_nodeR, kx_a yg_part cyI 320 u_part, kx_a yg_wasMany cyI 320 u_wasMany, kx_a yg_wasLoss cyI 320 u_wasLoss, kx_a yg_wasValue cyI 1920 u_wasValue, kx_a yg_wasNumber cyI 1920 u_wasNumber, kx_a yg_path cyI 12 u_path, kx_a yg_heavyValue cyI 160 u_heavyValue, kx_a yg_heavyTimes cyI 160 u_heavyTimes, kx_a yg_fewest cyI 161 u_fewest, kx_a yg_which cyI 160 u_which, kx_a yg_met cyI 160 u_met, (q_o, .inl (cyL, 1, .inr (.inl ol)))]) (hS : va_S (fun q : Nat => s.heap.size ≤ q) s.heap H locs) {ls : Array Slot} (hl : lv_has ls 7 [(4, .int ix), (3, .ref q_o), (2, .ref yh0), (1, .ref xm_), (0, .ref b)]) : W p l e room_1 s m #[Value.ref b] below meth c H locs (60 + 2 * j) (20000 + 12 * j) (lw_Z below #[Value.ref b] s) (F0 m 2202 ls []) := by
  obtain ⟨hx, hb, hr, hml, hown, hts0, hX, hbl, hlocks, hgv⟩ := id C0
  have hts := hts0
  have hA : ∀ q : Nat, s.heap.size ≤ q → (fun q : Nat => s.heap.size ≤ q) q := fun _ h => h
  have hbA : ¬ (fun q : Nat => s.heap.size ≤ q) b := Nat.not_le.mpr hbl
  have hown : s.vm.findClass RL = some m.cls := hown
  have hb : c.code = cL_law := hb
  have hj0 : 0 ≤ (j : Int) := Int.natCast_nonneg j
  have hjI : 8 * (j : Int) + 8 ≤ (L : Int) := lw_jI hj
  have hLI : (L : Int) ≤ 4096 := lw_LI hL
  refine lv_aload_n hx hb dL_law_2202 rfl (lv_at hl 3 rfl) ?_
  refine lv_aload_n hx hb dL_law_2203 rfl (lv_at hl 4 rfl) ?_
  refine lv_iload hx hb dL_law_2204 (lv_at hl 0 rfl) ?_
  refine lv_iconst (v := 1) hx hb dL_law_2206 (by decide) ?_
  refine lv_iadd hx hb dL_law_2207 ?_
  refine lv_topi (fun y_1 ey_1 => ?_)
  have i_1 : y_1.toInt = ix.toInt + 1 := ki_add ey_1 rfl rfl (om_568 hix hj0) (om_569 hix hjI hLI)
  refine va_sld hx hb hX hbl hbA hS (i := y_1) (ki_in (om_570 hix hj0 i_1) (om_571 hix hjI i_1)) dL_law_2208 ?_
  refine lv_topi (fun y_2 ey_2 => ?_)
  refine lv_aload_n hx hb dL_law_2209 rfl (lv_at hl 4 rfl) ?_
  refine lv_iload hx hb dL_law_2210 (lv_at hl 0 rfl) ?_
  refine lv_iconst (v := 2) hx hb dL_law_2212 (by decide) ?_
  refine lv_iadd hx hb dL_law_2213 ?_
  refine lv_topi (fun y_3 ey_3 => ?_)
  have i_3 : y_3.toInt = ix.toInt + 2 := ki_add ey_3 rfl rfl (om_572 hix hj0) (om_573 hix hjI hLI)
  refine va_sld hx hb hX hbl hbA hS (i := y_3) (ki_in (om_574 hix hj0 i_3) (om_575 hix hjI i_3)) dL_law_2214 ?_
  refine lv_topi (fun y_4 ey_4 => ?_)
  refine lv_aload_n hx hb dL_law_2215 rfl (lv_at hl 4 rfl) ?_
  refine lv_iload hx hb dL_law_2216 (lv_at hl 0 rfl) ?_
  refine lv_iconst (v := 3) hx hb dL_law_2218 (by decide) ?_
  refine lv_iadd hx hb dL_law_2219 ?_
  refine lv_topi (fun y_5 ey_5 => ?_)
  have i_5 : y_5.toInt = ix.toInt + 3 := ki_add ey_5 rfl rfl (om_580 hix hj0) (om_581 hix hjI hLI)
  refine va_sld hx hb hX hbl hbA hS (i := y_5) (ki_in (om_582 hix hj0 i_5) (om_583 hix hjI i_5)) dL_law_2220 ?_
  refine lv_topi (fun y_6 ey_6 => ?_)
  refine lv_aload_n hx hb dL_law_2221 rfl (lv_at hl 4 rfl) ?_
  refine lv_iload hx hb dL_law_2222 (lv_at hl 0 rfl) ?_
  refine lv_iconst (v := 4) hx hb dL_law_2224 (by decide) ?_
  refine lv_iadd hx hb dL_law_2225 ?_
  refine lv_topi (fun y_7 ey_7 => ?_)
  have i_7 : y_7.toInt = ix.toInt + 4 := ki_add ey_7 rfl rfl (om_585 hix hj0) (om_586 hix hjI hLI)
  refine va_sld hx hb hX hbl hbA hS (i := y_7) (ki_in (om_587 hix hj0 i_7) (om_588 hix hjI i_7)) dL_law_2226 ?_
  refine lv_topi (fun y_8 ey_8 => ?_)
  obtain ⟨hPc, hDc, hFc, hCc⟩ := kx_preM (wc := [kx_4 xm_ xq_row xq_t xt_ xh0 xk0 xw_ xz_ slots old, kx_2 xq_t xq_row xq_joined xq_from xq_to xq_size xq_lossOf xq_lessBy xq_value xq_number nodes here, kx_0 xq_row xq_cell len, kx_a xq_cell cyI 160 f, kx_a xq_from cyI 319 ff, kx_a xq_to cyI 319 ft, kx_a xq_size cyI 319 fs, kx_a xq_lossOf cyI 319 fo, kx_a xq_lessBy cyI 319 fe, kx_a xq_value cyI 1914 uv, kx_a xq_number cyI 1914 un, kx_3 xq_joined xj_v xj_n js jl je, kx_a xj_v cyI 12 jv, kx_a xj_n cyI 12 jn, kx_3 xh0 xa_v xa_n vs lo le, kx_a xa_v cyI 12 fv, kx_a xa_n cyI 12 fn]) hP hD hS hA [true, true, true, true, true, true, true, true, true, true, true, true, true, true, true, true, true, false, false, false, false, false, false, false, false, false, false, false, false, false, false, false, false, false, false, false, false, false, false, false, false, false, false, false, false, false, false, false] rfl
  have hKc := hK.sub (tys' := [(cyI, .int)]) [0] rfl
  refine va_calli (va_runV (As := [.int y_2, .int y_4, .int y_6, .int y_8]) (rest := []) ⟨hx, hb, hml, hown, (lwC_X4_swings hts0)⟩ (kx_un (c_X4_swings_x l dC dI xm_ xq_row xq_t xt_ xh0 xk0 xw_ xz_ slots old xq_joined xq_from xq_to xq_size xq_lossOf xq_lessBy xq_value xq_number nodes here xq_cell cyI len f ff ft fs fo uv un fe xj_v xj_n js jl je jv jn xa_v xa_n vs lo le fv fn y_2 y_4 y_6 y_8 H.size I0 I1 I5 I2 I3 I6)) (cwV 4 (lwC_X4_swings hts0) lwG_X4_swings rfl rfl rfl (by decide +kernel) ⟨Nat.le_of_ble_eq_true rfl, Nat.le_of_ble_eq_true rfl⟩) ⟨fun a U g mk q => by obtain ⟨q0, q1, qP, qK, qD⟩ := q; exact ⟨q0, q1, qP, va_K.moved (u := U) (U := U.calling g mk a) (Vm.Alike.refl U.vm) qK, qD⟩, kx_rc4 hKc hPc (q0 := 0) rfl, fun U hU hW => ⟨rfl, by rw [hU], by rw [hU]; exact hPc, va_K.moved hW.alike hKc, hDc.weaken (fun _ _ _ _ => trivial)⟩⟩ rfl rfl hl.1 rfl (lv_room (Nat.le_of_ble_eq_true rfl)) dL_law_2227 (lw_fitJ hj hL (Nat.le_of_ble_eq_true rfl) (Nat.le_of_ble_eq_true rfl))) hS (fun q _ h => hFc q h) hFc (fun r_9 u t H1 locs ht hvm w_9 hB hz1 hk1 hS => ?_)
  obtain ⟨o_10, o_11, o_12, o_13, o_14, o_15, o_16, o_17, o_18, o_19, o_20, o_21, o_22, o_23, o_24, o_25, o_26, o_27, o_28, o_29, o_30⟩ := u
  dsimp only at w_9 hB
  obtain ⟨hP1, hK1, hD1⟩ := hB
  rw [ht] at hP1
  have hK1 := va_K.moved hvm.symm hK1
  obtain ⟨hP, hD⟩ := kx_joinM (w2 := [kx_4 xm_ xq_row xq_t xt_ xh0 xk0 xw_ xz_ slots o_10, kx_2 xq_t xq_row xq_joined xq_from xq_to xq_size xq_lossOf xq_lessBy xq_value xq_number o_11 o_12, kx_0 xq_row xq_cell len, kx_a xq_cell cyI 160 o_30, kx_a xq_from cyI 319 o_13, kx_a xq_to cyI 319 o_14, kx_a xq_size cyI 319 o_15, kx_a xq_lossOf cyI 319 o_16, kx_a xq_lessBy cyI 319 o_17, kx_a xq_value cyI 1914 o_18, kx_a xq_number cyI 1914 o_19, kx_3 xq_joined xj_v xj_n o_20 o_21 o_22, kx_a xj_v cyI 12 o_23, kx_a xj_n cyI 12 o_24, kx_3 xh0 xa_v xa_n o_25 o_26 o_27, kx_a xa_v cyI 12 o_28, kx_a xa_n cyI 12 o_29, kx_3 xk0 xkv xkn sb lb eb, kx_a xkv cyI 12 gb, kx_a xkn cyI 12 nb, kx_1 xt_ xt_k xt_o tk mo, kx_a xt_k cyI 160 fk, kx_a xt_o cyI 160 fq, kx_a xw_ cyI 160 fw, kx_a xz_ cyI 161 fz, kx_5 yh0 yg_row len slots u_thrown yg_many yg_loss yg_less yg_voteValue yg_voteNumber yg_allValue yg_allNumber u_allMany yg_nodeL yg_nodeR u_nodes yg_part u_partMany yg_wasMany yg_wasLoss yg_wasValue yg_wasNumber yg_path u_pathMany yg_heavyValue yg_heavyTimes u_heavyMany yg_fewest yg_which yg_met u_mostMet, kx_a yg_row cyI 160 f, kx_a yg_many cyI 324 u_many, kx_a yg_loss cyI 324 u_loss, kx_a yg_less cyI 324 u_less, kx_a yg_voteValue cyI 1944 u_voteValue, kx_a yg_voteNumber cyI 1944 u_voteNumber, kx_a yg_allValue cyI 12 u_allValue, kx_a yg_allNumber cyI 12 u_allNumber, kx_a yg_nodeL cyI 320 u_nodeL, kx_a yg_nodeR cyI 320 u_nodeR, kx_a yg_part cyI 320 u_part, kx_a yg_wasMany cyI 320 u_wasMany, kx_a yg_wasLoss cyI 320 u_wasLoss, kx_a yg_wasValue cyI 1920 u_wasValue, kx_a yg_wasNumber cyI 1920 u_wasNumber, kx_a yg_path cyI 12 u_path, kx_a yg_heavyValue cyI 160 u_heavyValue, kx_a yg_heavyTimes cyI 160 u_heavyTimes, kx_a yg_fewest cyI 161 u_fewest, kx_a yg_which cyI 160 u_which, kx_a yg_met cyI 160 u_met, (q_o, .inl (cyL, 1, .inr (.inl ol)))]) hP hD hP1 hD1 hk1 hFc [true, true, true, true, true, true, true, true, true, true, true, true, true, true, true, true, true, false, false, false, false, false, false, false, false, false, false, false, false, false, false, false, false, false, false, false, false, false, false, false, false, false, false, false, false, false, false, false] hCc rfl
  clear hP1 hD1 hK1 hk1 hz1 hFc hDc hPc hKc hCc
  generalize H1 = H at hP hS ⊢
  have w_9 : laidX o_10 slots o_12 o_30 o_13 o_14 o_15 o_16 o_17 o_18 o_19 o_11 len ∧ sixes o_15 ∧ o_30 = f := w_9
  refine lv_pop hx hb dL_law_2230 rfl ?_
  refine lv_aload_n hx hb dL_law_2231 rfl (lv_at hl 2 rfl) ?_
  refine lv_aload_n hx hb dL_law_2232 rfl (lv_at hl 4 rfl) ?_
  refine lv_iload hx hb dL_law_2233 (lv_at hl 0 rfl) ?_
  refine lv_iconst (v := 1) hx hb dL_law_2235 (by decide) ?_
  refine lv_iadd hx hb dL_law_2236 ?_
  refine lv_topi (fun y_31 ey_31 => ?_)
  have i_31 : y_31.toInt = ix.toInt + 1 := ki_add ey_31 rfl rfl (om_568 hix hj0) (om_569 hix hjI hLI)
  refine va_sld hx hb hX hbl hbA hS (i := y_31) (ki_in (om_570 hix hj0 i_31) (om_571 hix hjI i_31)) dL_law_2237 ?_
  refine lv_topi (fun y_32 ey_32 => ?_)
  have qy_32 : y_2 = y_32 := by rw [ey_2, ey_32, ki_nateq (show y_1.toInt = y_31.toInt from (om_576 i_1 i_31))]
  subst qy_32
  refine lv_aload_n hx hb dL_law_2238 rfl (lv_at hl 4 rfl) ?_
  refine lv_iload hx hb dL_law_2239 (lv_at hl 0 rfl) ?_
  refine lv_iconst (v := 2) hx hb dL_law_2241 (by decide) ?_
  refine lv_iadd hx hb dL_law_2242 ?_
  refine lv_topi (fun y_33 ey_33 => ?_)
  have i_33 : y_33.toInt = ix.toInt + 2 := ki_add ey_33 rfl rfl (om_572 hix hj0) (om_573 hix hjI hLI)
  refine va_sld hx hb hX hbl hbA hS (i := y_33) (ki_in (om_574 hix hj0 i_33) (om_575 hix hjI i_33)) dL_law_2243 ?_
  refine lv_topi (fun y_34 ey_34 => ?_)
  have qy_34 : y_4 = y_34 := by rw [ey_4, ey_34, ki_nateq (show y_3.toInt = y_33.toInt from (om_577 i_3 i_33))]
  subst qy_34
  refine lv_aload_n hx hb dL_law_2244 rfl (lv_at hl 4 rfl) ?_
  refine lv_iload hx hb dL_law_2245 (lv_at hl 0 rfl) ?_
  refine lv_iconst (v := 3) hx hb dL_law_2247 (by decide) ?_
  refine lv_iadd hx hb dL_law_2248 ?_
  refine lv_topi (fun y_35 ey_35 => ?_)
  have i_35 : y_35.toInt = ix.toInt + 3 := ki_add ey_35 rfl rfl (om_580 hix hj0) (om_581 hix hjI hLI)
  refine va_sld hx hb hX hbl hbA hS (i := y_35) (ki_in (om_582 hix hj0 i_35) (om_583 hix hjI i_35)) dL_law_2249 ?_
  refine lv_topi (fun y_36 ey_36 => ?_)
  have qy_36 : y_6 = y_36 := by rw [ey_6, ey_36, ki_nateq (show y_5.toInt = y_35.toInt from (om_584 i_5 i_35))]
  subst qy_36
  refine lv_aload_n hx hb dL_law_2250 rfl (lv_at hl 4 rfl) ?_
  refine lv_iload hx hb dL_law_2251 (lv_at hl 0 rfl) ?_
  refine lv_iconst (v := 4) hx hb dL_law_2253 (by decide) ?_
  refine lv_iadd hx hb dL_law_2254 ?_
  refine lv_topi (fun y_37 ey_37 => ?_)
  have i_37 : y_37.toInt = ix.toInt + 4 := ki_add ey_37 rfl rfl (om_585 hix hj0) (om_586 hix hjI hLI)
  refine va_sld hx hb hX hbl hbA hS (i := y_37) (ki_in (om_587 hix hj0 i_37) (om_588 hix hjI i_37)) dL_law_2255 ?_
  refine lv_topi (fun y_38 ey_38 => ?_)
  have qy_38 : y_8 = y_38 := by rw [ey_8, ey_38, ki_nateq (show y_7.toInt = y_37.toInt from (om_589 i_7 i_37))]
  subst qy_38
  obtain ⟨hPc, hDc, hFc, hCc⟩ := kx_preM (wc := [kx_5 yh0 yg_row len slots u_thrown yg_many yg_loss yg_less yg_voteValue yg_voteNumber yg_allValue yg_allNumber u_allMany yg_nodeL yg_nodeR u_nodes yg_part u_partMany yg_wasMany yg_wasLoss yg_wasValue yg_wasNumber yg_path u_pathMany yg_heavyValue yg_heavyTimes u_heavyMany yg_fewest yg_which yg_met u_mostMet, kx_a yg_row cyI 160 f, kx_a yg_many cyI 324 u_many, kx_a yg_loss cyI 324 u_loss, kx_a yg_less cyI 324 u_less, kx_a yg_voteValue cyI 1944 u_voteValue, kx_a yg_voteNumber cyI 1944 u_voteNumber, kx_a yg_allValue cyI 12 u_allValue, kx_a yg_allNumber cyI 12 u_allNumber, kx_a yg_nodeL cyI 320 u_nodeL, kx_a yg_nodeR cyI 320 u_nodeR]) hP hD hS hA [false, false, false, false, false, false, false, false, false, false, false, false, false, false, false, false, false, false, false, false, false, false, false, false, false, true, true, true, true, true, true, true, true, true, true, true, false, false, false, false, false, false, false, false, false, false, false, false] rfl
  have hKc := hK.sub (tys' := [(cyI, .int)]) [0] rfl
  refine va_calli (va_runV (As := [.int y_2, .int y_4, .int y_6, .int y_8]) (rest := []) ⟨hx, hb, hml, hown, (lwC_X5_swings hts0)⟩ (kx_un (c_X5_swings l dC dI yh0 yg_row yg_many yg_loss yg_less yg_voteValue yg_voteNumber yg_allValue yg_allNumber yg_nodeL yg_nodeR yg_part yg_wasMany yg_wasLoss yg_wasValue yg_wasNumber yg_path yg_heavyValue yg_heavyTimes yg_fewest yg_which yg_met len slots u_thrown u_allMany u_nodes u_partMany u_pathMany u_heavyMany u_mostMet cyI u_many u_loss u_less u_voteValue u_voteNumber f u_allValue u_allNumber u_nodeL u_nodeR y_2 y_4 y_6 y_8 H.size I0 I1 I2 I3 I7)) (cwV 4 (lwC_X5_swings hts0) lwG_X5_swings rfl rfl rfl (by decide +kernel) ⟨Nat.le_of_ble_eq_true rfl, Nat.le_of_ble_eq_true rfl⟩) ⟨fun a U g mk q => by obtain ⟨q0, q1, qP, qK, qD⟩ := q; exact ⟨q0, q1, qP, va_K.moved (u := U) (U := U.calling g mk a) (Vm.Alike.refl U.vm) qK, qD⟩, kx_rc5 hKc hPc (q0 := 0) rfl, fun U hU hW => ⟨rfl, by rw [hU], by rw [hU]; exact hPc, va_K.moved hW.alike hKc, hDc.weaken (fun _ _ _ _ => trivial)⟩⟩ rfl rfl hl.1 rfl (lv_room (Nat.le_of_ble_eq_true rfl)) dL_law_2256 (lw_fitJ hj hL (Nat.le_of_ble_eq_true rfl) (Nat.le_of_ble_eq_true rfl))) hS (fun q _ h => hFc q h) hFc (fun r_39 u t H1 locs ht hvm w_39 hB hz1 hk1 hS => ?_)
  obtain ⟨o_40, o_41, o_42, o_43, o_44, o_45, o_46, o_47, o_48, o_49, o_50, o_51⟩ := u
  dsimp only at w_39 hB
  obtain ⟨hP1, hK1, hD1⟩ := hB
  rw [ht] at hP1
  have hK1 := va_K.moved hvm.symm hK1
  obtain ⟨hP, hD⟩ := kx_joinM (w2 := [kx_4 xm_ xq_row xq_t xt_ xh0 xk0 xw_ xz_ slots o_10, kx_2 xq_t xq_row xq_joined xq_from xq_to xq_size xq_lossOf xq_lessBy xq_value xq_number o_11 o_12, kx_0 xq_row xq_cell len, kx_a xq_cell cyI 160 o_30, kx_a xq_from cyI 319 o_13, kx_a xq_to cyI 319 o_14, kx_a xq_size cyI 319 o_15, kx_a xq_lossOf cyI 319 o_16, kx_a xq_lessBy cyI 319 o_17, kx_a xq_value cyI 1914 o_18, kx_a xq_number cyI 1914 o_19, kx_3 xq_joined xj_v xj_n o_20 o_21 o_22, kx_a xj_v cyI 12 o_23, kx_a xj_n cyI 12 o_24, kx_3 xh0 xa_v xa_n o_25 o_26 o_27, kx_a xa_v cyI 12 o_28, kx_a xa_n cyI 12 o_29, kx_3 xk0 xkv xkn sb lb eb, kx_a xkv cyI 12 gb, kx_a xkn cyI 12 nb, kx_1 xt_ xt_k xt_o tk mo, kx_a xt_k cyI 160 fk, kx_a xt_o cyI 160 fq, kx_a xw_ cyI 160 fw, kx_a xz_ cyI 161 fz, kx_5 yh0 yg_row len slots 0 yg_many yg_loss yg_less yg_voteValue yg_voteNumber yg_allValue yg_allNumber o_41 yg_nodeL yg_nodeR o_40 yg_part u_partMany yg_wasMany yg_wasLoss yg_wasValue yg_wasNumber yg_path u_pathMany yg_heavyValue yg_heavyTimes u_heavyMany yg_fewest yg_which yg_met u_mostMet, kx_a yg_row cyI 160 o_51, kx_a yg_many cyI 324 o_42, kx_a yg_loss cyI 324 o_43, kx_a yg_less cyI 324 o_44, kx_a yg_voteValue cyI 1944 o_45, kx_a yg_voteNumber cyI 1944 o_46, kx_a yg_allValue cyI 12 o_47, kx_a yg_allNumber cyI 12 o_48, kx_a yg_nodeL cyI 320 o_49, kx_a yg_nodeR cyI 320 o_50, kx_a yg_part cyI 320 u_part, kx_a yg_wasMany cyI 320 u_wasMany, kx_a yg_wasLoss cyI 320 u_wasLoss, kx_a yg_wasValue cyI 1920 u_wasValue, kx_a yg_wasNumber cyI 1920 u_wasNumber, kx_a yg_path cyI 12 u_path, kx_a yg_heavyValue cyI 160 u_heavyValue, kx_a yg_heavyTimes cyI 160 u_heavyTimes, kx_a yg_fewest cyI 161 u_fewest, kx_a yg_which cyI 160 u_which, kx_a yg_met cyI 160 u_met, (q_o, .inl (cyL, 1, .inr (.inl ol)))]) hP hD hP1 hD1 hk1 hFc [false, false, false, false, false, false, false, false, false, false, false, false, false, false, false, false, false, false, false, false, false, false, false, false, false, true, true, true, true, true, true, true, true, true, true, true, false, false, false, false, false, false, false, false, false, false, false, false] hCc rfl
  clear hP1 hD1 hK1 hk1 hz1 hFc hDc hPc hKc hCc
  generalize H1 = H at hP hS ⊢
  have w_39 : six4 o_42 ∧ o_51 = f := w_39
  refine lv_pop hx hb dL_law_2259 rfl ?_
  refine lv_goto (tgt := 2288) hx hb dL_law_2260 (by decide) ?_
  obtain ⟨x_52, ex_52⟩ : ∃ y : Int32, y = ix + 8 := ⟨_, rfl⟩
  have i_52 : x_52.toInt = ix.toInt + 8 := ki_add ex_52 rfl rfl (om_578 hix hj0) (om_579 hix hjI hLI)
  refine lv_iinc (v := x_52) (lv' := [(4, .int x_52), (3, .ref q_o), (2, .ref yh0), (1, .ref xm_), (0, .ref b)]) hx hb dL_law_2288 hl (k := 0) rfl (by rw [ex_52]; rfl) (by decide) rfl (fun ls hl => ?_)
  refine lv_goto (tgt := 23) hx hb dL_law_2291 (by decide) ?_
  rw [w_9.2.2] at hP hD
  rw [w_39.2] at hP hD
  obtain ⟨hP, hD⟩ := kx_re (w2 := [kx_4 xm_ xq_row xq_t xt_ xh0 xk0 xw_ xz_ slots o_10, kx_2 xq_t xq_row xq_joined xq_from xq_to xq_size xq_lossOf xq_lessBy xq_value xq_number o_11 o_12, kx_0 xq_row xq_cell len, kx_a xq_cell cyI 160 f, kx_a xq_from cyI 319 o_13, kx_a xq_to cyI 319 o_14, kx_a xq_size cyI 319 o_15, kx_a xq_lossOf cyI 319 o_16, kx_a xq_lessBy cyI 319 o_17, kx_a xq_value cyI 1914 o_18, kx_a xq_number cyI 1914 o_19, kx_3 xq_joined xj_v xj_n o_20 o_21 o_22, kx_a xj_v cyI 12 o_23, kx_a xj_n cyI 12 o_24, kx_3 xh0 xa_v xa_n o_25 o_26 o_27, kx_a xa_v cyI 12 o_28, kx_a xa_n cyI 12 o_29, kx_3 xk0 xkv xkn sb lb eb, kx_a xkv cyI 12 gb, kx_a xkn cyI 12 nb, kx_1 xt_ xt_k xt_o tk mo, kx_a xt_k cyI 160 fk, kx_a xt_o cyI 160 fq, kx_a xw_ cyI 160 fw, kx_a xz_ cyI 161 fz, kx_5 yh0 yg_row len slots 0 yg_many yg_loss yg_less yg_voteValue yg_voteNumber yg_allValue yg_allNumber o_41 yg_nodeL yg_nodeR o_40 yg_part u_partMany yg_wasMany yg_wasLoss yg_wasValue yg_wasNumber yg_path u_pathMany yg_heavyValue yg_heavyTimes u_heavyMany yg_fewest yg_which yg_met u_mostMet, kx_a yg_row cyI 160 f, kx_a yg_many cyI 324 o_42, kx_a yg_loss cyI 324 o_43, kx_a yg_less cyI 324 o_44, kx_a yg_voteValue cyI 1944 o_45, kx_a yg_voteNumber cyI 1944 o_46, kx_a yg_allValue cyI 12 o_47, kx_a yg_allNumber cyI 12 o_48, kx_a yg_nodeL cyI 320 o_49, kx_a yg_nodeR cyI 320 o_50, kx_a yg_part cyI 320 u_part, kx_a yg_wasMany cyI 320 u_wasMany, kx_a yg_wasLoss cyI 320 u_wasLoss, kx_a yg_wasValue cyI 1920 u_wasValue, kx_a yg_wasNumber cyI 1920 u_wasNumber, kx_a yg_path cyI 12 u_path, kx_a yg_heavyValue cyI 160 u_heavyValue, kx_a yg_heavyTimes cyI 160 u_heavyTimes, kx_a yg_fewest cyI 161 u_fewest, kx_a yg_which cyI 160 u_which, kx_a yg_met cyI 160 u_met, (q_o, .inl (cyL, 1, .inr (.inl ol)))]) hP hD rfl
  refine W.widen (k := 60 + 2 * (j + 1)) (n := 20000 + 12 * (j + 1)) (lw_wdC (k := 0) (Nat.le_of_ble_eq_true rfl)) (lw_wdS (k := 0) (Nat.le_of_ble_eq_true rfl)) ?_
  have k_53 : (0 : Int32).toInt = 0 := rfl
  exact ih len slots o_10 o_11 o_12 o_20 o_21 o_22 o_25 o_26 o_27 sb lb eb tk mo 0 o_41 o_40 u_partMany u_pathMany u_heavyMany u_mostMet f o_13 o_14 o_15 o_16 o_17 o_18 o_19 o_23 o_24 o_28 o_29 gb nb fk fq fw fz o_42 o_43 o_44 o_45 o_46 o_47 o_48 o_49 o_50 u_part u_wasMany u_wasLoss u_wasValue u_wasNumber u_path u_heavyValue u_heavyTimes u_fewest u_which u_met ol x_52 (om_ix i_52 hix) I0 I1 I2 I3 I4 w_9.2.1 (by have h9 := w_9.1; rw [w_9.2.2] at h9; exact h9) w_39.1 I8 _ _ ls hP hD hS (lv_sub hl [0, 1, 2, 3, 4] rfl)

set_option maxHeartbeats 4000000 in
set_option maxRecDepth 100000 in
theorem lc_43 {p : Program} {l : Launch} {e : Env} {s : State} {m : MethodId} {below : List Frame} {meth : Method} {c : Code} {dC : Nat → ClassId} {dI : Nat → Nat → Nat} {b : Nat} {xs : Nat → Int32} (hl0 : l.stackTraces = false) {L j : Nat} (hL : L ≤ 4096) (hj : 8 * j + 8 ≤ L) (C0 : lw_At p s m meth c b L xs) (hth : ki_ThA (fun q : Nat => s.heap.size ≤ q) s) {cyI cyL : ClassId} {xm_ xq_t xq_row xq_cell xq_from xq_to xq_size xq_lossOf xq_lessBy xq_value xq_number xq_joined xj_v xj_n xh0 xa_v xa_n xk0 xkv xkn xt_ xt_k xt_o xw_ xz_ yh0 yg_row yg_many yg_loss yg_less yg_voteValue yg_voteNumber yg_allValue yg_allNumber yg_nodeL yg_nodeR yg_part yg_wasMany yg_wasLoss yg_wasValue yg_wasNumber yg_path yg_heavyValue yg_heavyTimes yg_fewest yg_which yg_met q_o : Nat} (hK : va_K (dC, dI) vwCl [(cyI, .int), (cyL, .long)] s) (ih : lw_G p l e s m below meth c b dC dI cyI cyL xm_ xq_t xq_row xq_cell xq_from xq_to xq_size xq_lossOf xq_lessBy xq_value xq_number xq_joined xj_v xj_n xh0 xa_v xa_n xk0 xkv xkn xt_ xt_k xt_o xw_ xz_ yh0 yg_row yg_many yg_loss yg_less yg_voteValue yg_voteNumber yg_allValue yg_allNumber yg_nodeL yg_nodeR yg_part yg_wasMany yg_wasLoss yg_wasValue yg_wasNumber yg_path yg_heavyValue yg_heavyTimes yg_fewest yg_which yg_met q_o (j + 1)) {len slots old nodes here js jl je vs lo le sb lb eb tk mo u_thrown u_allMany u_nodes u_partMany u_pathMany u_heavyMany u_mostMet ix : Int32} {f ff ft fs fo fe uv un jv jn fv fn gb nb fk fq fw fz u_many u_loss u_less u_voteValue u_voteNumber u_allValue u_allNumber u_nodeL u_nodeR u_part u_wasMany u_wasLoss u_wasValue u_wasNumber u_path u_heavyValue u_heavyTimes u_fewest u_which u_met : Nat → Int32} {ol : Nat → Int64} (hix : ix.toInt = 8 * (j : Int)) (I0 : 0 ≤ len.toInt) (I1 : len.toInt ≤ 160) (I2 : 1 ≤ slots.toInt) (I3 : slots.toInt ≤ 6) (I4 : shorts f) (I5 : sixes fs) (I6 : laidX old slots here f ff ft fs fo fe uv un nodes len) (I7 : six4 u_many) (I8 : parts320 u_part) {H : Heap} {locs : List Loc} (hP : va_P (dC, dI) vwCl [kx_4 xm_ xq_row xq_t xt_ xh0 xk0 xw_ xz_ slots old, kx_2 xq_t xq_row xq_joined xq_from xq_to xq_size xq_lossOf xq_lessBy xq_value xq_number nodes here, kx_0 xq_row xq_cell len, kx_a xq_cell cyI 160 f, kx_a xq_from cyI 319 ff, kx_a xq_to cyI 319 ft, kx_a xq_size cyI 319 fs, kx_a xq_lossOf cyI 319 fo, kx_a xq_lessBy cyI 319 fe, kx_a xq_value cyI 1914 uv, kx_a xq_number cyI 1914 un, kx_3 xq_joined xj_v xj_n js jl je, kx_a xj_v cyI 12 jv, kx_a xj_n cyI 12 jn, kx_3 xh0 xa_v xa_n vs lo le, kx_a xa_v cyI 12 fv, kx_a xa_n cyI 12 fn, kx_3 xk0 xkv xkn sb lb eb, kx_a xkv cyI 12 gb, kx_a xkn cyI 12 nb, kx_1 xt_ xt_k xt_o tk mo, kx_a xt_k cyI 160 fk, kx_a xt_o cyI 160 fq, kx_a xw_ cyI 160 fw, kx_a xz_ cyI 161 fz, kx_5 yh0 yg_row len slots u_thrown yg_many yg_loss yg_less yg_voteValue yg_voteNumber yg_allValue yg_allNumber u_allMany yg_nodeL yg_nodeR u_nodes yg_part u_partMany yg_wasMany yg_wasLoss yg_wasValue yg_wasNumber yg_path u_pathMany yg_heavyValue yg_heavyTimes u_heavyMany yg_fewest yg_which yg_met u_mostMet, kx_a yg_row cyI 160 f, kx_a yg_many cyI 324 u_many, kx_a yg_loss cyI 324 u_loss, kx_a yg_less cyI 324 u_less, kx_a yg_voteValue cyI 1944 u_voteValue, kx_a yg_voteNumber cyI 1944 u_voteNumber, kx_a yg_allValue cyI 12 u_allValue, kx_a yg_allNumber cyI 12 u_allNumber, kx_a yg_nodeL cyI 320 u_nodeL, kx_a yg_nodeR cyI 320 u_nodeR, kx_a yg_part cyI 320 u_part, kx_a yg_wasMany cyI 320 u_wasMany, kx_a yg_wasLoss cyI 320 u_wasLoss, kx_a yg_wasValue cyI 1920 u_wasValue, kx_a yg_wasNumber cyI 1920 u_wasNumber, kx_a yg_path cyI 12 u_path, kx_a yg_heavyValue cyI 160 u_heavyValue, kx_a yg_heavyTimes cyI 160 u_heavyTimes, kx_a yg_fewest cyI 161 u_fewest, kx_a yg_which cyI 160 u_which, kx_a yg_met cyI 160 u_met, (q_o, .inl (cyL, 1, .inr (.inl ol)))] H) (hD : va_D (fun q : Nat => s.heap.size ≤ q) [kx_4 xm_ xq_row xq_t xt_ xh0 xk0 xw_ xz_ slots old, kx_2 xq_t xq_row xq_joined xq_from xq_to xq_size xq_lossOf xq_lessBy xq_value xq_number nodes here, kx_0 xq_row xq_cell len, kx_a xq_cell cyI 160 f, kx_a xq_from cyI 319 ff, kx_a xq_to cyI 319 ft, kx_a xq_size cyI 319 fs, kx_a xq_lossOf cyI 319 fo, kx_a xq_lessBy cyI 319 fe, kx_a xq_value cyI 1914 uv, kx_a xq_number cyI 1914 un, kx_3 xq_joined xj_v xj_n js jl je, kx_a xj_v cyI 12 jv, kx_a xj_n cyI 12 jn, kx_3 xh0 xa_v xa_n vs lo le, kx_a xa_v cyI 12 fv, kx_a xa_n cyI 12 fn, kx_3 xk0 xkv xkn sb lb eb, kx_a xkv cyI 12 gb, kx_a xkn cyI 12 nb, kx_1 xt_ xt_k xt_o tk mo, kx_a xt_k cyI 160 fk, kx_a xt_o cyI 160 fq, kx_a xw_ cyI 160 fw, kx_a xz_ cyI 161 fz, kx_5 yh0 yg_row len slots u_thrown yg_many yg_loss yg_less yg_voteValue yg_voteNumber yg_allValue yg_allNumber u_allMany yg_nodeL yg_nodeR u_nodes yg_part u_partMany yg_wasMany yg_wasLoss yg_wasValue yg_wasNumber yg_path u_pathMany yg_heavyValue yg_heavyTimes u_heavyMany yg_fewest yg_which yg_met u_mostMet, kx_a yg_row cyI 160 f, kx_a yg_many cyI 324 u_many, kx_a yg_loss cyI 324 u_loss, kx_a yg_less cyI 324 u_less, kx_a yg_voteValue cyI 1944 u_voteValue, kx_a yg_voteNumber cyI 1944 u_voteNumber, kx_a yg_allValue cyI 12 u_allValue, kx_a yg_allNumber cyI 12 u_allNumber, kx_a yg_nodeL cyI 320 u_nodeL, kx_a yg_nodeR cyI 320 u_nodeR, kx_a yg_part cyI 320 u_part, kx_a yg_wasMany cyI 320 u_wasMany, kx_a yg_wasLoss cyI 320 u_wasLoss, kx_a yg_wasValue cyI 1920 u_wasValue, kx_a yg_wasNumber cyI 1920 u_wasNumber, kx_a yg_path cyI 12 u_path, kx_a yg_heavyValue cyI 160 u_heavyValue, kx_a yg_heavyTimes cyI 160 u_heavyTimes, kx_a yg_fewest cyI 161 u_fewest, kx_a yg_which cyI 160 u_which, kx_a yg_met cyI 160 u_met, (q_o, .inl (cyL, 1, .inr (.inl ol)))]) (hS : va_S (fun q : Nat => s.heap.size ≤ q) s.heap H locs) {ls : Array Slot} (hl : lv_has ls 7 [(4, .int ix), (3, .ref q_o), (2, .ref yh0), (1, .ref xm_), (0, .ref b)]) : W p l e room_1 s m #[Value.ref b] below meth c H locs (60 + 2 * j) (20000 + 12 * j) (lw_Z below #[Value.ref b] s) (F0 m 2263 ls []) := by
  obtain ⟨hx, hb, hr, hml, hown, hts0, hX, hbl, hlocks, hgv⟩ := id C0
  have hts := hts0
  have hA : ∀ q : Nat, s.heap.size ≤ q → (fun q : Nat => s.heap.size ≤ q) q := fun _ h => h
  have hbA : ¬ (fun q : Nat => s.heap.size ≤ q) b := Nat.not_le.mpr hbl
  have hown : s.vm.findClass RL = some m.cls := hown
  have hb : c.code = cL_law := hb
  have hj0 : 0 ≤ (j : Int) := Int.natCast_nonneg j
  have hjI : 8 * (j : Int) + 8 ≤ (L : Int) := lw_jI hj
  have hLI : (L : Int) ≤ 4096 := lw_LI hL
  have hN__methodLinkNest_RX0_28_yX4_isHeavy_RX4 : va_Nw (.methodLinkNest RX0 28 yX4_isHeavy RX4) s := va_Nw.of rfl (hts0 (.methodLinkNest RX0 28 yX4_isHeavy RX4) lwW_515)
  refine lv_aload_n hx hb dL_law_2263 rfl (lv_at hl 3 rfl) ?_
  refine lv_aload_n hx hb dL_law_2264 rfl (lv_at hl 4 rfl) ?_
  refine lv_iload hx hb dL_law_2265 (lv_at hl 0 rfl) ?_
  refine lv_iconst (v := 1) hx hb dL_law_2267 (by decide) ?_
  refine lv_iadd hx hb dL_law_2268 ?_
  refine lv_topi (fun y_1 ey_1 => ?_)
  have i_1 : y_1.toInt = ix.toInt + 1 := ki_add ey_1 rfl rfl (om_568 hix hj0) (om_569 hix hjI hLI)
  refine va_sld hx hb hX hbl hbA hS (i := y_1) (ki_in (om_570 hix hj0 i_1) (om_571 hix hjI i_1)) dL_law_2269 ?_
  refine lv_topi (fun y_2 ey_2 => ?_)
  obtain ⟨hPc, hDc, hFc, hCc⟩ := kx_preM (wc := [kx_4 xm_ xq_row xq_t xt_ xh0 xk0 xw_ xz_ slots old, kx_2 xq_t xq_row xq_joined xq_from xq_to xq_size xq_lossOf xq_lessBy xq_value xq_number nodes here, kx_0 xq_row xq_cell len, kx_a xq_cell cyI 160 f, kx_a xq_from cyI 319 ff, kx_a xq_to cyI 319 ft, kx_a xq_size cyI 319 fs, kx_a xq_lossOf cyI 319 fo, kx_a xq_lessBy cyI 319 fe, kx_a xq_value cyI 1914 uv, kx_a xq_number cyI 1914 un, kx_3 xq_joined xj_v xj_n js jl je, kx_a xj_v cyI 12 jv, kx_a xj_n cyI 12 jn]) hP hD hS hA [true, true, true, true, true, true, true, true, true, true, true, true, true, true, false, false, false, false, false, false, false, false, false, false, false, false, false, false, false, false, false, false, false, false, false, false, false, false, false, false, false, false, false, false, false, false, false, false] rfl
  have hKc := hK.sub (tys' := [(cyI, .int)]) [0] rfl
  refine va_calli (va_runV (As := [.int y_2]) (rest := []) ⟨hx, hb, hml, hown, (lwC_X4_told hts0)⟩ (c_X4_told_x l dC dI xm_ xq_row xq_t xt_ xh0 xk0 xw_ xz_ slots old xq_joined xq_from xq_to xq_size xq_lossOf xq_lessBy xq_value xq_number nodes here xq_cell cyI len f ff ft fs fo uv un fe xj_v xj_n js jl je jv jn y_2 H.size I0 I1 I5 I2 I3 I6) (cwV 1 (lwC_X4_told hts0) lwG_X4_told rfl rfl rfl (by decide +kernel) ⟨Nat.le_of_ble_eq_true rfl, Nat.le_of_ble_eq_true rfl⟩) ⟨fun a U g mk q => by obtain ⟨q0, q1, qP, qK, qD, qn0⟩ := q; exact ⟨q0, q1, qP, va_K.moved (u := U) (U := U.calling g mk a) (Vm.Alike.refl U.vm) qK, qD, va_Nw.same (u := U) (U := U.calling g mk a) rfl rfl qn0⟩, kx_rc4 hKc hPc (q0 := 0) rfl, fun U hU hW => ⟨rfl, by rw [hU], by rw [hU]; exact hPc, va_K.moved hW.alike hKc, hDc.weaken (fun _ _ _ _ => trivial), va_Nw.warmM hW hN__methodLinkNest_RX0_28_yX4_isHeavy_RX4⟩⟩ rfl rfl hl.1 rfl (lv_room (Nat.le_of_ble_eq_true rfl)) dL_law_2270 (lw_fitJ hj hL (Nat.le_of_ble_eq_true rfl) (Nat.le_of_ble_eq_true rfl))) hS (fun q _ h => hFc q h) hFc (fun r_3 u t H1 locs ht hvm w_3 hB hz1 hk1 hS => ?_)
  obtain ⟨o_4, o_5, o_6, o_7, o_8, o_9, o_10, o_11, o_12, o_13, o_14, o_15, o_16, o_17, o_18⟩ := u
  dsimp only at w_3 hB
  obtain ⟨hP1, hK1, hD1⟩ := hB
  rw [ht] at hP1
  have hK1 := va_K.moved hvm.symm hK1
  obtain ⟨hP, hD⟩ := kx_joinM (w2 := [kx_4 xm_ xq_row xq_t xt_ xh0 xk0 xw_ xz_ slots o_4, kx_2 xq_t xq_row xq_joined xq_from xq_to xq_size xq_lossOf xq_lessBy xq_value xq_number o_5 o_6, kx_0 xq_row xq_cell len, kx_a xq_cell cyI 160 f, kx_a xq_from cyI 319 o_7, kx_a xq_to cyI 319 o_8, kx_a xq_size cyI 319 o_9, kx_a xq_lossOf cyI 319 o_10, kx_a xq_lessBy cyI 319 o_11, kx_a xq_value cyI 1914 o_12, kx_a xq_number cyI 1914 o_13, kx_3 xq_joined xj_v xj_n o_14 o_15 o_16, kx_a xj_v cyI 12 o_17, kx_a xj_n cyI 12 o_18, kx_3 xh0 xa_v xa_n vs lo le, kx_a xa_v cyI 12 fv, kx_a xa_n cyI 12 fn, kx_3 xk0 xkv xkn sb lb eb, kx_a xkv cyI 12 gb, kx_a xkn cyI 12 nb, kx_1 xt_ xt_k xt_o tk mo, kx_a xt_k cyI 160 fk, kx_a xt_o cyI 160 fq, kx_a xw_ cyI 160 fw, kx_a xz_ cyI 161 fz, kx_5 yh0 yg_row len slots u_thrown yg_many yg_loss yg_less yg_voteValue yg_voteNumber yg_allValue yg_allNumber u_allMany yg_nodeL yg_nodeR u_nodes yg_part u_partMany yg_wasMany yg_wasLoss yg_wasValue yg_wasNumber yg_path u_pathMany yg_heavyValue yg_heavyTimes u_heavyMany yg_fewest yg_which yg_met u_mostMet, kx_a yg_row cyI 160 f, kx_a yg_many cyI 324 u_many, kx_a yg_loss cyI 324 u_loss, kx_a yg_less cyI 324 u_less, kx_a yg_voteValue cyI 1944 u_voteValue, kx_a yg_voteNumber cyI 1944 u_voteNumber, kx_a yg_allValue cyI 12 u_allValue, kx_a yg_allNumber cyI 12 u_allNumber, kx_a yg_nodeL cyI 320 u_nodeL, kx_a yg_nodeR cyI 320 u_nodeR, kx_a yg_part cyI 320 u_part, kx_a yg_wasMany cyI 320 u_wasMany, kx_a yg_wasLoss cyI 320 u_wasLoss, kx_a yg_wasValue cyI 1920 u_wasValue, kx_a yg_wasNumber cyI 1920 u_wasNumber, kx_a yg_path cyI 12 u_path, kx_a yg_heavyValue cyI 160 u_heavyValue, kx_a yg_heavyTimes cyI 160 u_heavyTimes, kx_a yg_fewest cyI 161 u_fewest, kx_a yg_which cyI 160 u_which, kx_a yg_met cyI 160 u_met, (q_o, .inl (cyL, 1, .inr (.inl ol)))]) hP hD hP1 hD1 hk1 hFc [true, true, true, true, true, true, true, true, true, true, true, true, true, true, false, false, false, false, false, false, false, false, false, false, false, false, false, false, false, false, false, false, false, false, false, false, false, false, false, false, false, false, false, false, false, false, false, false] hCc rfl
  clear hP1 hD1 hK1 hk1 hz1 hFc hDc hPc hKc hCc
  generalize H1 = H at hP hS ⊢
  have w_3 : laidX o_4 slots o_6 f o_7 o_8 o_9 o_10 o_11 o_12 o_13 o_5 len ∧ sixes o_9 := w_3
  refine lv_pop hx hb dL_law_2273 rfl ?_
  refine lv_aload_n hx hb dL_law_2274 rfl (lv_at hl 2 rfl) ?_
  refine lv_aload_n hx hb dL_law_2275 rfl (lv_at hl 4 rfl) ?_
  refine lv_iload hx hb dL_law_2276 (lv_at hl 0 rfl) ?_
  refine lv_iconst (v := 1) hx hb dL_law_2278 (by decide) ?_
  refine lv_iadd hx hb dL_law_2279 ?_
  refine lv_topi (fun y_19 ey_19 => ?_)
  have i_19 : y_19.toInt = ix.toInt + 1 := ki_add ey_19 rfl rfl (om_568 hix hj0) (om_569 hix hjI hLI)
  refine va_sld hx hb hX hbl hbA hS (i := y_19) (ki_in (om_570 hix hj0 i_19) (om_571 hix hjI i_19)) dL_law_2280 ?_
  refine lv_topi (fun y_20 ey_20 => ?_)
  have qy_20 : y_2 = y_20 := by rw [ey_2, ey_20, ki_nateq (show y_1.toInt = y_19.toInt from (om_576 i_1 i_19))]
  subst qy_20
  obtain ⟨hPc, hDc, hFc, hCc⟩ := kx_preM (wc := [kx_5 yh0 yg_row len slots u_thrown yg_many yg_loss yg_less yg_voteValue yg_voteNumber yg_allValue yg_allNumber u_allMany yg_nodeL yg_nodeR u_nodes yg_part u_partMany yg_wasMany yg_wasLoss yg_wasValue yg_wasNumber yg_path u_pathMany yg_heavyValue yg_heavyTimes u_heavyMany yg_fewest yg_which yg_met u_mostMet, kx_a yg_row cyI 160 f, kx_a yg_many cyI 324 u_many, kx_a yg_loss cyI 324 u_loss, kx_a yg_less cyI 324 u_less, kx_a yg_voteValue cyI 1944 u_voteValue, kx_a yg_voteNumber cyI 1944 u_voteNumber, kx_a yg_allValue cyI 12 u_allValue, kx_a yg_allNumber cyI 12 u_allNumber, kx_a yg_nodeL cyI 320 u_nodeL, kx_a yg_nodeR cyI 320 u_nodeR]) hP hD hS hA [false, false, false, false, false, false, false, false, false, false, false, false, false, false, false, false, false, false, false, false, false, false, false, false, false, true, true, true, true, true, true, true, true, true, true, true, false, false, false, false, false, false, false, false, false, false, false, false] rfl
  have hKc := hK.sub (tys' := [(cyI, .int)]) [0] rfl
  refine va_calli (va_runV (As := [.int y_2]) (rest := []) ⟨hx, hb, hml, hown, (lwC_X5_told hts0)⟩ (kx_un (c_X5_told l dC dI yh0 yg_row yg_many yg_loss yg_less yg_voteValue yg_voteNumber yg_allValue yg_allNumber yg_nodeL yg_nodeR yg_part yg_wasMany yg_wasLoss yg_wasValue yg_wasNumber yg_path yg_heavyValue yg_heavyTimes yg_fewest yg_which yg_met len slots u_thrown u_allMany u_nodes u_partMany u_pathMany u_heavyMany u_mostMet cyI u_many u_loss u_less u_voteValue u_voteNumber f u_allValue u_allNumber u_nodeL u_nodeR y_2 H.size I0 I1 I2 I3 I7)) (cwV 1 (lwC_X5_told hts0) lwG_X5_told rfl rfl rfl (by decide +kernel) ⟨Nat.le_of_ble_eq_true rfl, Nat.le_of_ble_eq_true rfl⟩) ⟨fun a U g mk q => by obtain ⟨q0, q1, qP, qK, qD⟩ := q; exact ⟨q0, q1, qP, va_K.moved (u := U) (U := U.calling g mk a) (Vm.Alike.refl U.vm) qK, qD⟩, kx_rc5 hKc hPc (q0 := 0) rfl, fun U hU hW => ⟨rfl, by rw [hU], by rw [hU]; exact hPc, va_K.moved hW.alike hKc, hDc.weaken (fun _ _ _ _ => trivial)⟩⟩ rfl rfl hl.1 rfl (lv_room (Nat.le_of_ble_eq_true rfl)) dL_law_2281 (lw_fitJ hj hL (Nat.le_of_ble_eq_true rfl) (Nat.le_of_ble_eq_true rfl))) hS (fun q _ h => hFc q h) hFc (fun r_21 u t H1 locs ht hvm w_21 hB hz1 hk1 hS => ?_)
  obtain ⟨o_22, o_23, o_24, o_25, o_26, o_27, o_28, o_29, o_30, o_31, o_32⟩ := u
  dsimp only at w_21 hB
  obtain ⟨hP1, hK1, hD1⟩ := hB
  rw [ht] at hP1
  have hK1 := va_K.moved hvm.symm hK1
  obtain ⟨hP, hD⟩ := kx_joinM (w2 := [kx_4 xm_ xq_row xq_t xt_ xh0 xk0 xw_ xz_ slots o_4, kx_2 xq_t xq_row xq_joined xq_from xq_to xq_size xq_lossOf xq_lessBy xq_value xq_number o_5 o_6, kx_0 xq_row xq_cell len, kx_a xq_cell cyI 160 f, kx_a xq_from cyI 319 o_7, kx_a xq_to cyI 319 o_8, kx_a xq_size cyI 319 o_9, kx_a xq_lossOf cyI 319 o_10, kx_a xq_lessBy cyI 319 o_11, kx_a xq_value cyI 1914 o_12, kx_a xq_number cyI 1914 o_13, kx_3 xq_joined xj_v xj_n o_14 o_15 o_16, kx_a xj_v cyI 12 o_17, kx_a xj_n cyI 12 o_18, kx_3 xh0 xa_v xa_n vs lo le, kx_a xa_v cyI 12 fv, kx_a xa_n cyI 12 fn, kx_3 xk0 xkv xkn sb lb eb, kx_a xkv cyI 12 gb, kx_a xkn cyI 12 nb, kx_1 xt_ xt_k xt_o tk mo, kx_a xt_k cyI 160 fk, kx_a xt_o cyI 160 fq, kx_a xw_ cyI 160 fw, kx_a xz_ cyI 161 fz, kx_5 yh0 yg_row len slots 0 yg_many yg_loss yg_less yg_voteValue yg_voteNumber yg_allValue yg_allNumber o_23 yg_nodeL yg_nodeR o_22 yg_part u_partMany yg_wasMany yg_wasLoss yg_wasValue yg_wasNumber yg_path u_pathMany yg_heavyValue yg_heavyTimes u_heavyMany yg_fewest yg_which yg_met u_mostMet, kx_a yg_row cyI 160 f, kx_a yg_many cyI 324 o_24, kx_a yg_loss cyI 324 o_25, kx_a yg_less cyI 324 o_26, kx_a yg_voteValue cyI 1944 o_27, kx_a yg_voteNumber cyI 1944 o_28, kx_a yg_allValue cyI 12 o_29, kx_a yg_allNumber cyI 12 o_30, kx_a yg_nodeL cyI 320 o_31, kx_a yg_nodeR cyI 320 o_32, kx_a yg_part cyI 320 u_part, kx_a yg_wasMany cyI 320 u_wasMany, kx_a yg_wasLoss cyI 320 u_wasLoss, kx_a yg_wasValue cyI 1920 u_wasValue, kx_a yg_wasNumber cyI 1920 u_wasNumber, kx_a yg_path cyI 12 u_path, kx_a yg_heavyValue cyI 160 u_heavyValue, kx_a yg_heavyTimes cyI 160 u_heavyTimes, kx_a yg_fewest cyI 161 u_fewest, kx_a yg_which cyI 160 u_which, kx_a yg_met cyI 160 u_met, (q_o, .inl (cyL, 1, .inr (.inl ol)))]) hP hD hP1 hD1 hk1 hFc [false, false, false, false, false, false, false, false, false, false, false, false, false, false, false, false, false, false, false, false, false, false, false, false, false, true, true, true, true, true, true, true, true, true, true, true, false, false, false, false, false, false, false, false, false, false, false, false] hCc rfl
  clear hP1 hD1 hK1 hk1 hz1 hFc hDc hPc hKc hCc
  generalize H1 = H at hP hS ⊢
  have w_21 : six4 o_24 := w_21
  refine lv_pop hx hb dL_law_2284 rfl ?_
  refine lv_goto (tgt := 2288) hx hb dL_law_2285 (by decide) ?_
  obtain ⟨x_33, ex_33⟩ : ∃ y : Int32, y = ix + 8 := ⟨_, rfl⟩
  have i_33 : x_33.toInt = ix.toInt + 8 := ki_add ex_33 rfl rfl (om_578 hix hj0) (om_579 hix hjI hLI)
  refine lv_iinc (v := x_33) (lv' := [(4, .int x_33), (3, .ref q_o), (2, .ref yh0), (1, .ref xm_), (0, .ref b)]) hx hb dL_law_2288 hl (k := 0) rfl (by rw [ex_33]; rfl) (by decide) rfl (fun ls hl => ?_)
  refine lv_goto (tgt := 23) hx hb dL_law_2291 (by decide) ?_
  refine W.widen (k := 60 + 2 * (j + 1)) (n := 20000 + 12 * (j + 1)) (lw_wdC (k := 0) (Nat.le_of_ble_eq_true rfl)) (lw_wdS (k := 0) (Nat.le_of_ble_eq_true rfl)) ?_
  have k_34 : (0 : Int32).toInt = 0 := rfl
  exact ih len slots o_4 o_5 o_6 o_14 o_15 o_16 vs lo le sb lb eb tk mo 0 o_23 o_22 u_partMany u_pathMany u_heavyMany u_mostMet f o_7 o_8 o_9 o_10 o_11 o_12 o_13 o_17 o_18 fv fn gb nb fk fq fw fz o_24 o_25 o_26 o_27 o_28 o_29 o_30 o_31 o_32 u_part u_wasMany u_wasLoss u_wasValue u_wasNumber u_path u_heavyValue u_heavyTimes u_fewest u_which u_met ol x_33 (om_ix i_33 hix) I0 I1 I2 I3 I4 w_3.2 w_3.1 w_21 I8 _ _ ls hP hD hS (lv_sub hl [0, 1, 2, 3, 4] rfl)


set_option maxHeartbeats 4000000 in
set_option maxRecDepth 100000 in
theorem lc_d {p : Program} {l : Launch} {e : Env} {s : State} {m : MethodId} {below : List Frame} {meth : Method} {c : Code} {dC : Nat → ClassId} {dI : Nat → Nat → Nat} {b : Nat} {xs : Nat → Int32} (hl0 : l.stackTraces = false) {L j : Nat} (hL : L ≤ 4096) (hj : 8 * j + 8 ≤ L) (C0 : lw_At p s m meth c b L xs) (hth : ki_ThA (fun q : Nat => s.heap.size ≤ q) s) {cyI cyL : ClassId} {xm_ xq_t xq_row xq_cell xq_from xq_to xq_size xq_lossOf xq_lessBy xq_value xq_number xq_joined xj_v xj_n xh0 xa_v xa_n xk0 xkv xkn xt_ xt_k xt_o xw_ xz_ yh0 yg_row yg_many yg_loss yg_less yg_voteValue yg_voteNumber yg_allValue yg_allNumber yg_nodeL yg_nodeR yg_part yg_wasMany yg_wasLoss yg_wasValue yg_wasNumber yg_path yg_heavyValue yg_heavyTimes yg_fewest yg_which yg_met q_o : Nat} (hK : va_K (dC, dI) vwCl [(cyI, .int), (cyL, .long)] s) (ih : lw_G p l e s m below meth c b dC dI cyI cyL xm_ xq_t xq_row xq_cell xq_from xq_to xq_size xq_lossOf xq_lessBy xq_value xq_number xq_joined xj_v xj_n xh0 xa_v xa_n xk0 xkv xkn xt_ xt_k xt_o xw_ xz_ yh0 yg_row yg_many yg_loss yg_less yg_voteValue yg_voteNumber yg_allValue yg_allNumber yg_nodeL yg_nodeR yg_part yg_wasMany yg_wasLoss yg_wasValue yg_wasNumber yg_path yg_heavyValue yg_heavyTimes yg_fewest yg_which yg_met q_o (j + 1)) {len slots old nodes here js jl je vs lo le sb lb eb tk mo u_thrown u_allMany u_nodes u_partMany u_pathMany u_heavyMany u_mostMet ix : Int32} {f ff ft fs fo fe uv un jv jn fv fn gb nb fk fq fw fz u_many u_loss u_less u_voteValue u_voteNumber u_allValue u_allNumber u_nodeL u_nodeR u_part u_wasMany u_wasLoss u_wasValue u_wasNumber u_path u_heavyValue u_heavyTimes u_fewest u_which u_met : Nat → Int32} {ol : Nat → Int64} (hix : ix.toInt = 8 * (j : Int)) (I0 : 0 ≤ len.toInt) (I1 : len.toInt ≤ 160) (I2 : 1 ≤ slots.toInt) (I3 : slots.toInt ≤ 6) (I4 : shorts f) (I5 : sixes fs) (I6 : laidX old slots here f ff ft fs fo fe uv un nodes len) (I7 : six4 u_many) (I8 : parts320 u_part) {H : Heap} {locs : List Loc} (hP : va_P (dC, dI) vwCl [kx_4 xm_ xq_row xq_t xt_ xh0 xk0 xw_ xz_ slots old, kx_2 xq_t xq_row xq_joined xq_from xq_to xq_size xq_lossOf xq_lessBy xq_value xq_number nodes here, kx_0 xq_row xq_cell len, kx_a xq_cell cyI 160 f, kx_a xq_from cyI 319 ff, kx_a xq_to cyI 319 ft, kx_a xq_size cyI 319 fs, kx_a xq_lossOf cyI 319 fo, kx_a xq_lessBy cyI 319 fe, kx_a xq_value cyI 1914 uv, kx_a xq_number cyI 1914 un, kx_3 xq_joined xj_v xj_n js jl je, kx_a xj_v cyI 12 jv, kx_a xj_n cyI 12 jn, kx_3 xh0 xa_v xa_n vs lo le, kx_a xa_v cyI 12 fv, kx_a xa_n cyI 12 fn, kx_3 xk0 xkv xkn sb lb eb, kx_a xkv cyI 12 gb, kx_a xkn cyI 12 nb, kx_1 xt_ xt_k xt_o tk mo, kx_a xt_k cyI 160 fk, kx_a xt_o cyI 160 fq, kx_a xw_ cyI 160 fw, kx_a xz_ cyI 161 fz, kx_5 yh0 yg_row len slots u_thrown yg_many yg_loss yg_less yg_voteValue yg_voteNumber yg_allValue yg_allNumber u_allMany yg_nodeL yg_nodeR u_nodes yg_part u_partMany yg_wasMany yg_wasLoss yg_wasValue yg_wasNumber yg_path u_pathMany yg_heavyValue yg_heavyTimes u_heavyMany yg_fewest yg_which yg_met u_mostMet, kx_a yg_row cyI 160 f, kx_a yg_many cyI 324 u_many, kx_a yg_loss cyI 324 u_loss, kx_a yg_less cyI 324 u_less, kx_a yg_voteValue cyI 1944 u_voteValue, kx_a yg_voteNumber cyI 1944 u_voteNumber, kx_a yg_allValue cyI 12 u_allValue, kx_a yg_allNumber cyI 12 u_allNumber, kx_a yg_nodeL cyI 320 u_nodeL, kx_a yg_nodeR cyI 320 u_nodeR, kx_a yg_part cyI 320 u_part, kx_a yg_wasMany cyI 320 u_wasMany, kx_a yg_wasLoss cyI 320 u_wasLoss, kx_a yg_wasValue cyI 1920 u_wasValue, kx_a yg_wasNumber cyI 1920 u_wasNumber, kx_a yg_path cyI 12 u_path, kx_a yg_heavyValue cyI 160 u_heavyValue, kx_a yg_heavyTimes cyI 160 u_heavyTimes, kx_a yg_fewest cyI 161 u_fewest, kx_a yg_which cyI 160 u_which, kx_a yg_met cyI 160 u_met, (q_o, .inl (cyL, 1, .inr (.inl ol)))] H) (hD : va_D (fun q : Nat => s.heap.size ≤ q) [kx_4 xm_ xq_row xq_t xt_ xh0 xk0 xw_ xz_ slots old, kx_2 xq_t xq_row xq_joined xq_from xq_to xq_size xq_lossOf xq_lessBy xq_value xq_number nodes here, kx_0 xq_row xq_cell len, kx_a xq_cell cyI 160 f, kx_a xq_from cyI 319 ff, kx_a xq_to cyI 319 ft, kx_a xq_size cyI 319 fs, kx_a xq_lossOf cyI 319 fo, kx_a xq_lessBy cyI 319 fe, kx_a xq_value cyI 1914 uv, kx_a xq_number cyI 1914 un, kx_3 xq_joined xj_v xj_n js jl je, kx_a xj_v cyI 12 jv, kx_a xj_n cyI 12 jn, kx_3 xh0 xa_v xa_n vs lo le, kx_a xa_v cyI 12 fv, kx_a xa_n cyI 12 fn, kx_3 xk0 xkv xkn sb lb eb, kx_a xkv cyI 12 gb, kx_a xkn cyI 12 nb, kx_1 xt_ xt_k xt_o tk mo, kx_a xt_k cyI 160 fk, kx_a xt_o cyI 160 fq, kx_a xw_ cyI 160 fw, kx_a xz_ cyI 161 fz, kx_5 yh0 yg_row len slots u_thrown yg_many yg_loss yg_less yg_voteValue yg_voteNumber yg_allValue yg_allNumber u_allMany yg_nodeL yg_nodeR u_nodes yg_part u_partMany yg_wasMany yg_wasLoss yg_wasValue yg_wasNumber yg_path u_pathMany yg_heavyValue yg_heavyTimes u_heavyMany yg_fewest yg_which yg_met u_mostMet, kx_a yg_row cyI 160 f, kx_a yg_many cyI 324 u_many, kx_a yg_loss cyI 324 u_loss, kx_a yg_less cyI 324 u_less, kx_a yg_voteValue cyI 1944 u_voteValue, kx_a yg_voteNumber cyI 1944 u_voteNumber, kx_a yg_allValue cyI 12 u_allValue, kx_a yg_allNumber cyI 12 u_allNumber, kx_a yg_nodeL cyI 320 u_nodeL, kx_a yg_nodeR cyI 320 u_nodeR, kx_a yg_part cyI 320 u_part, kx_a yg_wasMany cyI 320 u_wasMany, kx_a yg_wasLoss cyI 320 u_wasLoss, kx_a yg_wasValue cyI 1920 u_wasValue, kx_a yg_wasNumber cyI 1920 u_wasNumber, kx_a yg_path cyI 12 u_path, kx_a yg_heavyValue cyI 160 u_heavyValue, kx_a yg_heavyTimes cyI 160 u_heavyTimes, kx_a yg_fewest cyI 161 u_fewest, kx_a yg_which cyI 160 u_which, kx_a yg_met cyI 160 u_met, (q_o, .inl (cyL, 1, .inr (.inl ol)))]) (hS : va_S (fun q : Nat => s.heap.size ≤ q) s.heap H locs) {ls : Array Slot} (hl : lv_has ls 7 [(4, .int ix), (3, .ref q_o), (2, .ref yh0), (1, .ref xm_), (0, .ref b)]) : W p l e room_1 s m #[Value.ref b] below meth c H locs (60 + 2 * j) (20000 + 12 * j) (lw_Z below #[Value.ref b] s) (F0 m 2288 ls []) := by
  obtain ⟨hx, hb, hr, hml, hown, hts0, hX, hbl, hlocks, hgv⟩ := id C0
  have hts := hts0
  have hA : ∀ q : Nat, s.heap.size ≤ q → (fun q : Nat => s.heap.size ≤ q) q := fun _ h => h
  have hbA : ¬ (fun q : Nat => s.heap.size ≤ q) b := Nat.not_le.mpr hbl
  have hown : s.vm.findClass RL = some m.cls := hown
  have hb : c.code = cL_law := hb
  obtain ⟨x_1, ex_1⟩ : ∃ y : Int32, y = ix + 8 := ⟨_, rfl⟩
  have i_1 : x_1.toInt = ix.toInt + 8 := ki_add ex_1 rfl rfl (by omega) (by omega)
  refine lv_iinc (v := x_1) (lv' := [(4, .int x_1), (3, .ref q_o), (2, .ref yh0), (1, .ref xm_), (0, .ref b)]) hx hb dL_law_2288 hl (k := 0) rfl (by rw [ex_1]; rfl) (by decide) rfl (fun ls hl => ?_)
  refine lv_goto (tgt := 23) hx hb dL_law_2291 (by decide) ?_
  refine W.widen (k := 60 + 2 * (j + 1)) (n := 20000 + 12 * (j + 1)) (lw_wdC (k := 0) (Nat.le_of_ble_eq_true rfl)) (lw_wdS (k := 0) (Nat.le_of_ble_eq_true rfl)) ?_
  exact ih len slots old nodes here js jl je vs lo le sb lb eb tk mo u_thrown u_allMany u_nodes u_partMany u_pathMany u_heavyMany u_mostMet f ff ft fs fo fe uv un jv jn fv fn gb nb fk fq fw fz u_many u_loss u_less u_voteValue u_voteNumber u_allValue u_allNumber u_nodeL u_nodeR u_part u_wasMany u_wasLoss u_wasValue u_wasNumber u_path u_heavyValue u_heavyTimes u_fewest u_which u_met ol x_1 (om_ix i_1 hix) I0 I1 I2 I3 I4 I5 I6 I7 I8 _ _ ls hP hD hS (lv_sub hl [0, 1, 2, 3, 4] rfl)

set_option maxHeartbeats 4000000 in
set_option maxRecDepth 100000 in
theorem law_turn {p : Program} {l : Launch} {e : Env} {s : State} {m : MethodId} {below : List Frame} {meth : Method} {c : Code} {dC : Nat → ClassId} {dI : Nat → Nat → Nat} {b : Nat} {xs : Nat → Int32} (hl0 : l.stackTraces = false) {L j : Nat} (hL : L ≤ 4096) (hj : 8 * j + 8 ≤ L) (C0 : lw_At p s m meth c b L xs) (hth : ki_ThA (fun q : Nat => s.heap.size ≤ q) s) {cyI cyL : ClassId} {xm_ xq_t xq_row xq_cell xq_from xq_to xq_size xq_lossOf xq_lessBy xq_value xq_number xq_joined xj_v xj_n xh0 xa_v xa_n xk0 xkv xkn xt_ xt_k xt_o xw_ xz_ yh0 yg_row yg_many yg_loss yg_less yg_voteValue yg_voteNumber yg_allValue yg_allNumber yg_nodeL yg_nodeR yg_part yg_wasMany yg_wasLoss yg_wasValue yg_wasNumber yg_path yg_heavyValue yg_heavyTimes yg_fewest yg_which yg_met q_o : Nat} (hK : va_K (dC, dI) vwCl [(cyI, .int), (cyL, .long)] s) (ih : lw_G p l e s m below meth c b dC dI cyI cyL xm_ xq_t xq_row xq_cell xq_from xq_to xq_size xq_lossOf xq_lessBy xq_value xq_number xq_joined xj_v xj_n xh0 xa_v xa_n xk0 xkv xkn xt_ xt_k xt_o xw_ xz_ yh0 yg_row yg_many yg_loss yg_less yg_voteValue yg_voteNumber yg_allValue yg_allNumber yg_nodeL yg_nodeR yg_part yg_wasMany yg_wasLoss yg_wasValue yg_wasNumber yg_path yg_heavyValue yg_heavyTimes yg_fewest yg_which yg_met q_o (j + 1)) {len slots old nodes here js jl je vs lo le sb lb eb tk mo u_thrown u_allMany u_nodes u_partMany u_pathMany u_heavyMany u_mostMet ix : Int32} {f ff ft fs fo fe uv un jv jn fv fn gb nb fk fq fw fz u_many u_loss u_less u_voteValue u_voteNumber u_allValue u_allNumber u_nodeL u_nodeR u_part u_wasMany u_wasLoss u_wasValue u_wasNumber u_path u_heavyValue u_heavyTimes u_fewest u_which u_met : Nat → Int32} {ol : Nat → Int64} (hix : ix.toInt = 8 * (j : Int)) (I0 : 0 ≤ len.toInt) (I1 : len.toInt ≤ 160) (I2 : 1 ≤ slots.toInt) (I3 : slots.toInt ≤ 6) (I4 : shorts f) (I5 : sixes fs) (I6 : laidX old slots here f ff ft fs fo fe uv un nodes len) (I7 : six4 u_many) (I8 : parts320 u_part) {H : Heap} {locs : List Loc} (hP : va_P (dC, dI) vwCl [kx_4 xm_ xq_row xq_t xt_ xh0 xk0 xw_ xz_ slots old, kx_2 xq_t xq_row xq_joined xq_from xq_to xq_size xq_lossOf xq_lessBy xq_value xq_number nodes here, kx_0 xq_row xq_cell len, kx_a xq_cell cyI 160 f, kx_a xq_from cyI 319 ff, kx_a xq_to cyI 319 ft, kx_a xq_size cyI 319 fs, kx_a xq_lossOf cyI 319 fo, kx_a xq_lessBy cyI 319 fe, kx_a xq_value cyI 1914 uv, kx_a xq_number cyI 1914 un, kx_3 xq_joined xj_v xj_n js jl je, kx_a xj_v cyI 12 jv, kx_a xj_n cyI 12 jn, kx_3 xh0 xa_v xa_n vs lo le, kx_a xa_v cyI 12 fv, kx_a xa_n cyI 12 fn, kx_3 xk0 xkv xkn sb lb eb, kx_a xkv cyI 12 gb, kx_a xkn cyI 12 nb, kx_1 xt_ xt_k xt_o tk mo, kx_a xt_k cyI 160 fk, kx_a xt_o cyI 160 fq, kx_a xw_ cyI 160 fw, kx_a xz_ cyI 161 fz, kx_5 yh0 yg_row len slots u_thrown yg_many yg_loss yg_less yg_voteValue yg_voteNumber yg_allValue yg_allNumber u_allMany yg_nodeL yg_nodeR u_nodes yg_part u_partMany yg_wasMany yg_wasLoss yg_wasValue yg_wasNumber yg_path u_pathMany yg_heavyValue yg_heavyTimes u_heavyMany yg_fewest yg_which yg_met u_mostMet, kx_a yg_row cyI 160 f, kx_a yg_many cyI 324 u_many, kx_a yg_loss cyI 324 u_loss, kx_a yg_less cyI 324 u_less, kx_a yg_voteValue cyI 1944 u_voteValue, kx_a yg_voteNumber cyI 1944 u_voteNumber, kx_a yg_allValue cyI 12 u_allValue, kx_a yg_allNumber cyI 12 u_allNumber, kx_a yg_nodeL cyI 320 u_nodeL, kx_a yg_nodeR cyI 320 u_nodeR, kx_a yg_part cyI 320 u_part, kx_a yg_wasMany cyI 320 u_wasMany, kx_a yg_wasLoss cyI 320 u_wasLoss, kx_a yg_wasValue cyI 1920 u_wasValue, kx_a yg_wasNumber cyI 1920 u_wasNumber, kx_a yg_path cyI 12 u_path, kx_a yg_heavyValue cyI 160 u_heavyValue, kx_a yg_heavyTimes cyI 160 u_heavyTimes, kx_a yg_fewest cyI 161 u_fewest, kx_a yg_which cyI 160 u_which, kx_a yg_met cyI 160 u_met, (q_o, .inl (cyL, 1, .inr (.inl ol)))] H) (hD : va_D (fun q : Nat => s.heap.size ≤ q) [kx_4 xm_ xq_row xq_t xt_ xh0 xk0 xw_ xz_ slots old, kx_2 xq_t xq_row xq_joined xq_from xq_to xq_size xq_lossOf xq_lessBy xq_value xq_number nodes here, kx_0 xq_row xq_cell len, kx_a xq_cell cyI 160 f, kx_a xq_from cyI 319 ff, kx_a xq_to cyI 319 ft, kx_a xq_size cyI 319 fs, kx_a xq_lossOf cyI 319 fo, kx_a xq_lessBy cyI 319 fe, kx_a xq_value cyI 1914 uv, kx_a xq_number cyI 1914 un, kx_3 xq_joined xj_v xj_n js jl je, kx_a xj_v cyI 12 jv, kx_a xj_n cyI 12 jn, kx_3 xh0 xa_v xa_n vs lo le, kx_a xa_v cyI 12 fv, kx_a xa_n cyI 12 fn, kx_3 xk0 xkv xkn sb lb eb, kx_a xkv cyI 12 gb, kx_a xkn cyI 12 nb, kx_1 xt_ xt_k xt_o tk mo, kx_a xt_k cyI 160 fk, kx_a xt_o cyI 160 fq, kx_a xw_ cyI 160 fw, kx_a xz_ cyI 161 fz, kx_5 yh0 yg_row len slots u_thrown yg_many yg_loss yg_less yg_voteValue yg_voteNumber yg_allValue yg_allNumber u_allMany yg_nodeL yg_nodeR u_nodes yg_part u_partMany yg_wasMany yg_wasLoss yg_wasValue yg_wasNumber yg_path u_pathMany yg_heavyValue yg_heavyTimes u_heavyMany yg_fewest yg_which yg_met u_mostMet, kx_a yg_row cyI 160 f, kx_a yg_many cyI 324 u_many, kx_a yg_loss cyI 324 u_loss, kx_a yg_less cyI 324 u_less, kx_a yg_voteValue cyI 1944 u_voteValue, kx_a yg_voteNumber cyI 1944 u_voteNumber, kx_a yg_allValue cyI 12 u_allValue, kx_a yg_allNumber cyI 12 u_allNumber, kx_a yg_nodeL cyI 320 u_nodeL, kx_a yg_nodeR cyI 320 u_nodeR, kx_a yg_part cyI 320 u_part, kx_a yg_wasMany cyI 320 u_wasMany, kx_a yg_wasLoss cyI 320 u_wasLoss, kx_a yg_wasValue cyI 1920 u_wasValue, kx_a yg_wasNumber cyI 1920 u_wasNumber, kx_a yg_path cyI 12 u_path, kx_a yg_heavyValue cyI 160 u_heavyValue, kx_a yg_heavyTimes cyI 160 u_heavyTimes, kx_a yg_fewest cyI 161 u_fewest, kx_a yg_which cyI 160 u_which, kx_a yg_met cyI 160 u_met, (q_o, .inl (cyL, 1, .inr (.inl ol)))]) (hS : va_S (fun q : Nat => s.heap.size ≤ q) s.heap H locs) {ls : Array Slot} (hl : lv_has ls 7 [(4, .int ix), (3, .ref q_o), (2, .ref yh0), (1, .ref xm_), (0, .ref b)]) : W p l e room_1 s m #[Value.ref b] below meth c H locs (60 + 2 * j) (20000 + 12 * j) (lw_Z below #[Value.ref b] s) (F0 m 23 ls []) := by
  obtain ⟨hx, hb, hr, hml, hown, hts0, hX, hbl, hlocks, hgv⟩ := id C0
  have hts := hts0
  have hA : ∀ q : Nat, s.heap.size ≤ q → (fun q : Nat => s.heap.size ≤ q) q := fun _ h => h
  have hbA : ¬ (fun q : Nat => s.heap.size ≤ q) b := Nat.not_le.mpr hbl
  have hown : s.vm.findClass RL = some m.cls := hown
  have hb : c.code = cL_law := hb
  refine lv_iload hx hb dL_law_23 (lv_at hl 0 rfl) ?_
  refine lv_aload_n hx hb dL_law_25 rfl (lv_at hl 4 rfl) ?_
  refine va_slen hx hb hX hbl hbA hS dL_law_26 ?_
  refine lv_topi (fun y_1 ey_1 => ?_)
  have i_1 : y_1.toInt = (L : Int) := by rw [ey_1]; exact ki_ofNat hL
  refine lv_bipush (v := 8) hx hb dL_law_27 (by decide) ?_
  refine lv_isub hx hb dL_law_29 ?_
  refine lv_topi (fun y_2 ey_2 => ?_)
  have i_2 : y_2.toInt = y_1.toInt - 8 := ki_sub ey_2 rfl rfl (by omega) (by omega)
  refine lv_icmp_gt (tgt := 2294) hx hb dL_law_30 (by decide) (fun c_9 => ?_) (fun c_9 => ?_)
  · have i_9 := kc_lt c_9
    omega
  refine lv_aload_n hx hb dL_law_33 rfl (lv_at hl 4 rfl) ?_
  refine lv_iload hx hb dL_law_34 (lv_at hl 0 rfl) ?_
  refine va_sld hx hb hX hbl hbA hS (i := ix) (ki_in (by omega) (by omega)) dL_law_36 ?_
  refine lv_topi (fun y_3 ey_3 => ?_)
  refine lv_bipush (v := 63) hx hb dL_law_37 (by decide) ?_
  refine lv_iand hx hb dL_law_39 ?_
  refine lv_topi (fun y ey => ?_)
  by_cases hr9 : 0 ≤ y.toInt ∧ y.toInt ≤ 43
  · have h9 : y.toInt = 0 ∨ y.toInt = 1 ∨ y.toInt = 2 ∨ y.toInt = 3 ∨ y.toInt = 4 ∨ y.toInt = 5 ∨ y.toInt = 6 ∨ y.toInt = 7 ∨ y.toInt = 8 ∨ y.toInt = 9 ∨ y.toInt = 10 ∨ y.toInt = 11 ∨ y.toInt = 12 ∨ y.toInt = 13 ∨ y.toInt = 14 ∨ y.toInt = 15 ∨ y.toInt = 16 ∨ y.toInt = 17 ∨ y.toInt = 18 ∨ y.toInt = 19 ∨ y.toInt = 20 ∨ y.toInt = 21 ∨ y.toInt = 22 ∨ y.toInt = 23 ∨ y.toInt = 24 ∨ y.toInt = 25 ∨ y.toInt = 26 ∨ y.toInt = 27 ∨ y.toInt = 28 ∨ y.toInt = 29 ∨ y.toInt = 30 ∨ y.toInt = 31 ∨ y.toInt = 32 ∨ y.toInt = 33 ∨ y.toInt = 34 ∨ y.toInt = 35 ∨ y.toInt = 36 ∨ y.toInt = 37 ∨ y.toInt = 38 ∨ y.toInt = 39 ∨ y.toInt = 40 ∨ y.toInt = 41 ∨ y.toInt = 42 ∨ y.toInt = 43 := by omega
    rcases h9 with h9 | h9 | h9 | h9 | h9 | h9 | h9 | h9 | h9 | h9 | h9 | h9 | h9 | h9 | h9 | h9 | h9 | h9 | h9 | h9 | h9 | h9 | h9 | h9 | h9 | h9 | h9 | h9 | h9 | h9 | h9 | h9 | h9 | h9 | h9 | h9 | h9 | h9 | h9 | h9 | h9 | h9 | h9 | h9
    · refine lv_tableIn (tgt := 232) (off := 192) hx hb dL_law_40 (lw_tl h9 (by decide)) (lw_th h9 (by decide)) (by rw [h9]; rfl) (by decide) ?_
      exact lc_0 hl0 hL hj C0 hth hK ih hix I0 I1 I2 I3 I4 I5 I6 I7 I8 hP hD hS hl
    · refine lv_tableIn (tgt := 269) (off := 229) hx hb dL_law_40 (lw_tl h9 (by decide)) (lw_th h9 (by decide)) (by rw [h9]; rfl) (by decide) ?_
      exact lc_1 hl0 hL hj C0 hth hK ih hix I0 I1 I2 I3 I4 I5 I6 I7 I8 hP hD hS hl
    · refine lv_tableIn (tgt := 294) (off := 254) hx hb dL_law_40 (lw_tl h9 (by decide)) (lw_th h9 (by decide)) (by rw [h9]; rfl) (by decide) ?_
      exact lc_2 hl0 hL hj C0 hth hK ih hix I0 I1 I2 I3 I4 I5 I6 I7 I8 hP hD hS hl
    · refine lv_tableIn (tgt := 319) (off := 279) hx hb dL_law_40 (lw_tl h9 (by decide)) (lw_th h9 (by decide)) (by rw [h9]; rfl) (by decide) ?_
      exact lc_3 hl0 hL hj C0 hth hK ih hix I0 I1 I2 I3 I4 I5 I6 I7 I8 hP hD hS hl
    · refine lv_tableIn (tgt := 356) (off := 316) hx hb dL_law_40 (lw_tl h9 (by decide)) (lw_th h9 (by decide)) (by rw [h9]; rfl) (by decide) ?_
      exact lc_4 hl0 hL hj C0 hth hK ih hix I0 I1 I2 I3 I4 I5 I6 I7 I8 hP hD hS hl
    · refine lv_tableIn (tgt := 405) (off := 365) hx hb dL_law_40 (lw_tl h9 (by decide)) (lw_th h9 (by decide)) (by rw [h9]; rfl) (by decide) ?_
      exact lc_5 hl0 hL hj C0 hth hK ih hix I0 I1 I2 I3 I4 I5 I6 I7 I8 hP hD hS hl
    · refine lv_tableIn (tgt := 442) (off := 402) hx hb dL_law_40 (lw_tl h9 (by decide)) (lw_th h9 (by decide)) (by rw [h9]; rfl) (by decide) ?_
      exact lc_6 hl0 hL hj C0 hth hK ih hix I0 I1 I2 I3 I4 I5 I6 I7 I8 hP hD hS hl
    · refine lv_tableIn (tgt := 479) (off := 439) hx hb dL_law_40 (lw_tl h9 (by decide)) (lw_th h9 (by decide)) (by rw [h9]; rfl) (by decide) ?_
      exact lc_7 hl0 hL hj C0 hth hK ih hix I0 I1 I2 I3 I4 I5 I6 I7 I8 hP hD hS hl
    · refine lv_tableIn (tgt := 516) (off := 476) hx hb dL_law_40 (lw_tl h9 (by decide)) (lw_th h9 (by decide)) (by rw [h9]; rfl) (by decide) ?_
      exact lc_8 hl0 hL hj C0 hth hK ih hix I0 I1 I2 I3 I4 I5 I6 I7 I8 hP hD hS hl
    · refine lv_tableIn (tgt := 541) (off := 501) hx hb dL_law_40 (lw_tl h9 (by decide)) (lw_th h9 (by decide)) (by rw [h9]; rfl) (by decide) ?_
      exact lc_9 hl0 hL hj C0 hth hK ih hix I0 I1 I2 I3 I4 I5 I6 I7 I8 hP hD hS hl
    · refine lv_tableIn (tgt := 569) (off := 529) hx hb dL_law_40 (lw_tl h9 (by decide)) (lw_th h9 (by decide)) (by rw [h9]; rfl) (by decide) ?_
      exact lc_10 hl0 hL hj C0 hth hK ih hix I0 I1 I2 I3 I4 I5 I6 I7 I8 hP hD hS hl
    · refine lv_tableIn (tgt := 618) (off := 578) hx hb dL_law_40 (lw_tl h9 (by decide)) (lw_th h9 (by decide)) (by rw [h9]; rfl) (by decide) ?_
      exact lc_11 hl0 hL hj C0 hth hK ih hix I0 I1 I2 I3 I4 I5 I6 I7 I8 hP hD hS hl
    · refine lv_tableIn (tgt := 655) (off := 615) hx hb dL_law_40 (lw_tl h9 (by decide)) (lw_th h9 (by decide)) (by rw [h9]; rfl) (by decide) ?_
      exact lc_12 hl0 hL hj C0 hth hK ih hix I0 I1 I2 I3 I4 I5 I6 I7 I8 hP hD hS hl
    · refine lv_tableIn (tgt := 668) (off := 628) hx hb dL_law_40 (lw_tl h9 (by decide)) (lw_th h9 (by decide)) (by rw [h9]; rfl) (by decide) ?_
      exact lc_13 hl0 hL hj C0 hth hK ih hix I0 I1 I2 I3 I4 I5 I6 I7 I8 hP hD hS hl
    · refine lv_tableIn (tgt := 705) (off := 665) hx hb dL_law_40 (lw_tl h9 (by decide)) (lw_th h9 (by decide)) (by rw [h9]; rfl) (by decide) ?_
      exact lc_14 hl0 hL hj C0 hth hK ih hix I0 I1 I2 I3 I4 I5 I6 I7 I8 hP hD hS hl
    · refine lv_tableIn (tgt := 769) (off := 729) hx hb dL_law_40 (lw_tl h9 (by decide)) (lw_th h9 (by decide)) (by rw [h9]; rfl) (by decide) ?_
      exact lc_15 hl0 hL hj C0 hth hK ih hix I0 I1 I2 I3 I4 I5 I6 I7 I8 hP hD hS hl
    · refine lv_tableIn (tgt := 806) (off := 766) hx hb dL_law_40 (lw_tl h9 (by decide)) (lw_th h9 (by decide)) (by rw [h9]; rfl) (by decide) ?_
      exact lc_16 hl0 hL hj C0 hth hK ih hix I0 I1 I2 I3 I4 I5 I6 I7 I8 hP hD hS hl
    · refine lv_tableIn (tgt := 843) (off := 803) hx hb dL_law_40 (lw_tl h9 (by decide)) (lw_th h9 (by decide)) (by rw [h9]; rfl) (by decide) ?_
      exact lc_17 hl0 hL hj C0 hth hK ih hix I0 I1 I2 I3 I4 I5 I6 I7 I8 hP hD hS hl
    · refine lv_tableIn (tgt := 892) (off := 852) hx hb dL_law_40 (lw_tl h9 (by decide)) (lw_th h9 (by decide)) (by rw [h9]; rfl) (by decide) ?_
      exact lc_18 hl0 hL hj C0 hth hK ih hix I0 I1 I2 I3 I4 I5 I6 I7 I8 hP hD hS hl
    · refine lv_tableIn (tgt := 917) (off := 877) hx hb dL_law_40 (lw_tl h9 (by decide)) (lw_th h9 (by decide)) (by rw [h9]; rfl) (by decide) ?_
      exact lc_19 hl0 hL hj C0 hth hK ih hix I0 I1 I2 I3 I4 I5 I6 I7 I8 hP hD hS hl
    · refine lv_tableIn (tgt := 954) (off := 914) hx hb dL_law_40 (lw_tl h9 (by decide)) (lw_th h9 (by decide)) (by rw [h9]; rfl) (by decide) ?_
      exact lc_20 hl0 hL hj C0 hth hK ih hix I0 I1 I2 I3 I4 I5 I6 I7 I8 hP hD hS hl
    · refine lv_tableIn (tgt := 1015) (off := 975) hx hb dL_law_40 (lw_tl h9 (by decide)) (lw_th h9 (by decide)) (by rw [h9]; rfl) (by decide) ?_
      exact lc_21 hl0 hL hj C0 hth hK ih hix I0 I1 I2 I3 I4 I5 I6 I7 I8 hP hD hS hl
    · refine lv_tableIn (tgt := 1064) (off := 1024) hx hb dL_law_40 (lw_tl h9 (by decide)) (lw_th h9 (by decide)) (by rw [h9]; rfl) (by decide) ?_
      exact lc_22 hl0 hL hj C0 hth hK ih hix I0 I1 I2 I3 I4 I5 I6 I7 I8 hP hD hS hl
    · refine lv_tableIn (tgt := 1128) (off := 1088) hx hb dL_law_40 (lw_tl h9 (by decide)) (lw_th h9 (by decide)) (by rw [h9]; rfl) (by decide) ?_
      exact lc_23 hl0 hL hj C0 hth hK ih hix I0 I1 I2 I3 I4 I5 I6 I7 I8 hP hD hS hl
    · refine lv_tableIn (tgt := 1177) (off := 1137) hx hb dL_law_40 (lw_tl h9 (by decide)) (lw_th h9 (by decide)) (by rw [h9]; rfl) (by decide) ?_
      exact lc_24 hl0 hL hj C0 hth hK ih hix I0 I1 I2 I3 I4 I5 I6 I7 I8 hP hD hS hl
    · refine lv_tableIn (tgt := 1214) (off := 1174) hx hb dL_law_40 (lw_tl h9 (by decide)) (lw_th h9 (by decide)) (by rw [h9]; rfl) (by decide) ?_
      exact lc_25 hl0 hL hj C0 hth hK ih hix I0 I1 I2 I3 I4 I5 I6 I7 I8 hP hD hS hl
    · refine lv_tableIn (tgt := 1275) (off := 1235) hx hb dL_law_40 (lw_tl h9 (by decide)) (lw_th h9 (by decide)) (by rw [h9]; rfl) (by decide) ?_
      exact lc_26 hl0 hL hj C0 hth hK ih hix I0 I1 I2 I3 I4 I5 I6 I7 I8 hP hD hS hl
    · refine lv_tableIn (tgt := 1365) (off := 1325) hx hb dL_law_40 (lw_tl h9 (by decide)) (lw_th h9 (by decide)) (by rw [h9]; rfl) (by decide) ?_
      exact lc_27 hl0 hL hj C0 hth hK ih hix I0 I1 I2 I3 I4 I5 I6 I7 I8 hP hD hS hl
    · refine lv_tableIn (tgt := 1426) (off := 1386) hx hb dL_law_40 (lw_tl h9 (by decide)) (lw_th h9 (by decide)) (by rw [h9]; rfl) (by decide) ?_
      exact lc_28 hl0 hL hj C0 hth hK ih hix I0 I1 I2 I3 I4 I5 I6 I7 I8 hP hD hS hl
    · refine lv_tableIn (tgt := 1487) (off := 1447) hx hb dL_law_40 (lw_tl h9 (by decide)) (lw_th h9 (by decide)) (by rw [h9]; rfl) (by decide) ?_
      exact lc_29 hl0 hL hj C0 hth hK ih hix I0 I1 I2 I3 I4 I5 I6 I7 I8 hP hD hS hl
    · refine lv_tableIn (tgt := 1524) (off := 1484) hx hb dL_law_40 (lw_tl h9 (by decide)) (lw_th h9 (by decide)) (by rw [h9]; rfl) (by decide) ?_
      exact lc_30 hl0 hL hj C0 hth hK ih hix I0 I1 I2 I3 I4 I5 I6 I7 I8 hP hD hS hl
    · refine lv_tableIn (tgt := 1573) (off := 1533) hx hb dL_law_40 (lw_tl h9 (by decide)) (lw_th h9 (by decide)) (by rw [h9]; rfl) (by decide) ?_
      exact lc_31 hl0 hL hj C0 hth hK ih hix I0 I1 I2 I3 I4 I5 I6 I7 I8 hP hD hS hl
    · refine lv_tableIn (tgt := 1660) (off := 1620) hx hb dL_law_40 (lw_tl h9 (by decide)) (lw_th h9 (by decide)) (by rw [h9]; rfl) (by decide) ?_
      exact lc_32 hl0 hL hj C0 hth hK ih hix I0 I1 I2 I3 I4 I5 I6 I7 I8 hP hD hS hl
    · refine lv_tableIn (tgt := 1761) (off := 1721) hx hb dL_law_40 (lw_tl h9 (by decide)) (lw_th h9 (by decide)) (by rw [h9]; rfl) (by decide) ?_
      exact lc_33 hl0 hL hj C0 hth hK ih hix I0 I1 I2 I3 I4 I5 I6 I7 I8 hP hD hS hl
    · refine lv_tableIn (tgt := 1822) (off := 1782) hx hb dL_law_40 (lw_tl h9 (by decide)) (lw_th h9 (by decide)) (by rw [h9]; rfl) (by decide) ?_
      exact lc_34 hl0 hL hj C0 hth hK ih hix I0 I1 I2 I3 I4 I5 I6 I7 I8 hP hD hS hl
    · refine lv_tableIn (tgt := 1847) (off := 1807) hx hb dL_law_40 (lw_tl h9 (by decide)) (lw_th h9 (by decide)) (by rw [h9]; rfl) (by decide) ?_
      exact lc_35 hl0 hL hj C0 hth hK ih hix I0 I1 I2 I3 I4 I5 I6 I7 I8 hP hD hS hl
    · refine lv_tableIn (tgt := 1884) (off := 1844) hx hb dL_law_40 (lw_tl h9 (by decide)) (lw_th h9 (by decide)) (by rw [h9]; rfl) (by decide) ?_
      exact lc_36 hl0 hL hj C0 hth hK ih hix I0 I1 I2 I3 I4 I5 I6 I7 I8 hP hD hS hl
    · refine lv_tableIn (tgt := 1921) (off := 1881) hx hb dL_law_40 (lw_tl h9 (by decide)) (lw_th h9 (by decide)) (by rw [h9]; rfl) (by decide) ?_
      exact lc_37 hl0 hL hj C0 hth hK ih hix I0 I1 I2 I3 I4 I5 I6 I7 I8 hP hD hS hl
    · refine lv_tableIn (tgt := 1934) (off := 1894) hx hb dL_law_40 (lw_tl h9 (by decide)) (lw_th h9 (by decide)) (by rw [h9]; rfl) (by decide) ?_
      exact lc_38 hl0 hL hj C0 hth hK ih hix I0 I1 I2 I3 I4 I5 I6 I7 I8 hP hD hS hl
    · refine lv_tableIn (tgt := 1995) (off := 1955) hx hb dL_law_40 (lw_tl h9 (by decide)) (lw_th h9 (by decide)) (by rw [h9]; rfl) (by decide) ?_
      exact lc_39 hl0 hL hj C0 hth hK ih hix I0 I1 I2 I3 I4 I5 I6 I7 I8 hP hD hS hl
    · refine lv_tableIn (tgt := 2068) (off := 2028) hx hb dL_law_40 (lw_tl h9 (by decide)) (lw_th h9 (by decide)) (by rw [h9]; rfl) (by decide) ?_
      exact lc_40 hl0 hL hj C0 hth hK ih hix I0 I1 I2 I3 I4 I5 I6 I7 I8 hP hD hS hl
    · refine lv_tableIn (tgt := 2141) (off := 2101) hx hb dL_law_40 (lw_tl h9 (by decide)) (lw_th h9 (by decide)) (by rw [h9]; rfl) (by decide) ?_
      exact lc_41 hl0 hL hj C0 hth hK ih hix I0 I1 I2 I3 I4 I5 I6 I7 I8 hP hD hS hl
    · refine lv_tableIn (tgt := 2202) (off := 2162) hx hb dL_law_40 (lw_tl h9 (by decide)) (lw_th h9 (by decide)) (by rw [h9]; rfl) (by decide) ?_
      exact lc_42 hl0 hL hj C0 hth hK ih hix I0 I1 I2 I3 I4 I5 I6 I7 I8 hP hD hS hl
    · refine lv_tableIn (tgt := 2263) (off := 2223) hx hb dL_law_40 (lw_tl h9 (by decide)) (lw_th h9 (by decide)) (by rw [h9]; rfl) (by decide) ?_
      exact lc_43 hl0 hL hj C0 hth hK ih hix I0 I1 I2 I3 I4 I5 I6 I7 I8 hP hD hS hl
  · refine lv_tableOut (tgt := 2288) hx hb dL_law_40 (by omega) (by decide) ?_
    exact lc_d hl0 hL hj C0 hth hK ih hix I0 I1 I2 I3 I4 I5 I6 I7 I8 hP hD hS hl

set_option maxHeartbeats 4000000 in
set_option maxRecDepth 100000 in
theorem law_loop {p : Program} {l : Launch} {e : Env} {s : State} {m : MethodId} {below : List Frame} {meth : Method} {c : Code} {dC : Nat → ClassId} {dI : Nat → Nat → Nat} {b : Nat} {xs : Nat → Int32} (hl0 : l.stackTraces = false) {L : Nat} (hL : L ≤ 4096) (C0 : lw_At p s m meth c b L xs) (hth : ki_ThA (fun q : Nat => s.heap.size ≤ q) s) {cyI cyL : ClassId} {xm_ xq_t xq_row xq_cell xq_from xq_to xq_size xq_lossOf xq_lessBy xq_value xq_number xq_joined xj_v xj_n xh0 xa_v xa_n xk0 xkv xkn xt_ xt_k xt_o xw_ xz_ yh0 yg_row yg_many yg_loss yg_less yg_voteValue yg_voteNumber yg_allValue yg_allNumber yg_nodeL yg_nodeR yg_part yg_wasMany yg_wasLoss yg_wasValue yg_wasNumber yg_path yg_heavyValue yg_heavyTimes yg_fewest yg_which yg_met q_o : Nat} (hK : va_K (dC, dI) vwCl [(cyI, .int), (cyL, .long)] s) : ∀ (n j : Nat), j ≤ 512 → L < 8 * j + 8 * n + 8 → lw_G p l e s m below meth c b dC dI cyI cyL xm_ xq_t xq_row xq_cell xq_from xq_to xq_size xq_lossOf xq_lessBy xq_value xq_number xq_joined xj_v xj_n xh0 xa_v xa_n xk0 xkv xkn xt_ xt_k xt_o xw_ xz_ yh0 yg_row yg_many yg_loss yg_less yg_voteValue yg_voteNumber yg_allValue yg_allNumber yg_nodeL yg_nodeR yg_part yg_wasMany yg_wasLoss yg_wasValue yg_wasNumber yg_path yg_heavyValue yg_heavyTimes yg_fewest yg_which yg_met q_o j := by
  obtain ⟨hx, hb, hr, hml, hown, hts0, hX, hbl, hlocks, hgv⟩ := id C0
  have hts := hts0
  have hA : ∀ q : Nat, s.heap.size ≤ q → (fun q : Nat => s.heap.size ≤ q) q := fun _ h => h
  have hbA : ¬ (fun q : Nat => s.heap.size ≤ q) b := Nat.not_le.mpr hbl
  have hown : s.vm.findClass RL = some m.cls := hown
  have hb : c.code = cL_law := hb
  have hout : ∀ j : Nat, j ≤ 512 → L < 8 * j + 8 → lw_G p l e s m below meth c b dC dI cyI cyL xm_ xq_t xq_row xq_cell xq_from xq_to xq_size xq_lossOf xq_lessBy xq_value xq_number xq_joined xj_v xj_n xh0 xa_v xa_n xk0 xkv xkn xt_ xt_k xt_o xw_ xz_ yh0 yg_row yg_many yg_loss yg_less yg_voteValue yg_voteNumber yg_allValue yg_allNumber yg_nodeL yg_nodeR yg_part yg_wasMany yg_wasLoss yg_wasValue yg_wasNumber yg_path yg_heavyValue yg_heavyTimes yg_fewest yg_which yg_met q_o j := by
    intro j hj5 hjL
    intro len slots old nodes here js jl je vs lo le sb lb eb tk mo u_thrown u_allMany u_nodes u_partMany u_pathMany u_heavyMany u_mostMet f ff ft fs fo fe uv un jv jn fv fn gb nb fk fq fw fz u_many u_loss u_less u_voteValue u_voteNumber u_allValue u_allNumber u_nodeL u_nodeR u_part u_wasMany u_wasLoss u_wasValue u_wasNumber u_path u_heavyValue u_heavyTimes u_fewest u_which u_met ol ix hix I0 I1 I2 I3 I4 I5 I6 I7 I8 H locs ls hP hD hS hl
    refine lv_iload hx hb dL_law_23 (lv_at hl 0 rfl) ?_
    refine lv_aload_n hx hb dL_law_25 rfl (lv_at hl 4 rfl) ?_
    refine va_slen hx hb hX hbl hbA hS dL_law_26 ?_
    refine lv_topi (fun y_1 ey_1 => ?_)
    have i_1 : y_1.toInt = (L : Int) := by rw [ey_1]; exact ki_ofNat hL
    refine lv_bipush (v := 8) hx hb dL_law_27 (by decide) ?_
    refine lv_isub hx hb dL_law_29 ?_
    refine lv_topi (fun y_2 ey_2 => ?_)
    have i_2 : y_2.toInt = y_1.toInt - 8 := ki_sub ey_2 rfl rfl (by omega) (by omega)
    refine lv_icmp_gt (tgt := 2294) hx hb dL_law_30 (by decide) (fun c_9 => ?_) (fun c_9 => ?_)
    · refine lv_iconst (v := 1) hx hb dL_law_2294 (by decide) ?_
      refine va_forget (fun q hq => hS.2.2 q hq) ?_
      refine W.widen (k := 601024) (n := 7293034) (by omega) (by omega) ?_
      exact lw_ret hx hb hr hlocks dL_law_2295
    · have i_9 := kc_nlt c_9
      omega
  intro n
  induction n with
  | zero => intro j hj hn; exact hout j hj (by omega)
  | succ n ihn =>
    intro j hj hn
    by_cases h9 : L < 8 * j + 8
    · exact hout j hj h9
    · intro len slots old nodes here js jl je vs lo le sb lb eb tk mo u_thrown u_allMany u_nodes u_partMany u_pathMany u_heavyMany u_mostMet f ff ft fs fo fe uv un jv jn fv fn gb nb fk fq fw fz u_many u_loss u_less u_voteValue u_voteNumber u_allValue u_allNumber u_nodeL u_nodeR u_part u_wasMany u_wasLoss u_wasValue u_wasNumber u_path u_heavyValue u_heavyTimes u_fewest u_which u_met ol ix hix I0 I1 I2 I3 I4 I5 I6 I7 I8 H locs ls hP hD hS hl
      exact law_turn hl0 hL (by omega) C0 hth hK (ihn (j + 1) (by omega) (by omega)) hix I0 I1 I2 I3 I4 I5 I6 I7 I8 hP hD hS hl


set_option maxHeartbeats 4000000 in
set_option maxRecDepth 100000 in
theorem whole_start {p : Program} {e : Env} {s : State} {m : MethodId} {below : List Frame} {meth : Method} {c : Code} (l : Launch) (hflags : l.flags = flags0) {b L : Nat} {xs : Nat → Int32} (hL : L ≤ 4096) (C0 : lw_At p s m meth c b L xs) : W p l e room_1 s m #[Value.ref b] below meth c s.heap [] 0 0 (lw_Z below #[Value.ref b] s) (entryFrame m ([Value.ref b] : List Value).toArray 7) := by
  obtain ⟨hx, hb, hr, hml, hown, hts0, hX, hbl, hlocks, hgv⟩ := id C0
  have hts := hts0
  have hA : ∀ q : Nat, s.heap.size ≤ q → (fun q : Nat => s.heap.size ≤ q) q := fun _ h => h
  have hbA : ¬ (fun q : Nat => s.heap.size ≤ q) b := Nat.not_le.mpr hbl
  have hown : s.vm.findClass RL = some m.cls := hown
  have hb : c.code = cL_law := hb
  have hl0 : l.stackTraces = false := by rw [Launch.stackTraces, hflags]; decide +kernel
  obtain ⟨c0, iS0, hKn0⟩ := u_known (C := RX0) (T := TX0) (N := 2) (n := 2) hts0 lwI_wsX00 (hts0 (.instantiable RX0 2) lwW_77)
  obtain ⟨c1, iS1, hKn1⟩ := u_known (C := RX1) (T := TX1) (N := 4) (n := 4) hts0 lwI_wsX10 (hts0 (.instantiable RX1 4) lwW_174)
  obtain ⟨c2, iS2, hKn2⟩ := u_known (C := RX2) (T := TX2) (N := 11) (n := 11) hts0 lwI_wsX20 (hts0 (.instantiable RX2 11) lwW_96)
  obtain ⟨c3, iS3, hKn3⟩ := u_known (C := RX3) (T := TX3) (N := 5) (n := 5) hts0 lwI_wsX30 (hts0 (.instantiable RX3 5) lwW_102)
  obtain ⟨c4, iS4, hKn4⟩ := u_known (C := RX4) (T := TX4) (N := 9) (n := 9) hts0 lwI_wsX40 (hts0 (.instantiable RX4 9) lwW_69)
  obtain ⟨c5, iS5, hKn5⟩ := u_known (C := RX5) (T := TX5) (N := 30) (n := 30) hts0 lwI_wsX50 (hts0 (.instantiable RX5 30) lwW_738)
  obtain ⟨dC, dI, hKc⟩ : ∃ (dC : Nat → ClassId) (dI : Nat → Nat → Nat), ∀ (k : Nat) (q : vw_C), vwCl[k]? = some q → u_Kn s q.1 q.2.1 q.2.2 (dC k) (dI k) := by
    refine ⟨fun k => if k = 0 then c0 else if k = 1 then c1 else if k = 2 then c2 else if k = 3 then c3 else if k = 4 then c4 else c5, fun k => if k = 0 then iS0 else if k = 1 then iS1 else if k = 2 then iS2 else if k = 3 then iS3 else if k = 4 then iS4 else iS5, ?_⟩
    intro k q hq
    match k, hq with
    | 0, hq => cases hq; exact hKn0
    | 1, hq => cases hq; exact hKn1
    | 2, hq => cases hq; exact hKn2
    | 3, hq => cases hq; exact hKn3
    | 4, hq => cases hq; exact hKn4
    | 5, hq => cases hq; exact hKn5
    | k + 6, hq => simp [vwCl] at hq
  have hK : va_K (dC, dI) vwCl [] s := ⟨hKc, fun k q h => by simp at h⟩
  obtain ⟨cyI, hK⟩ := ki_ints (hts0 (.arrayClass .int) (by decide +kernel)) hK
  have hth : ki_ThA (fun q : Nat => s.heap.size ≤ q) s := ⟨⟨va_Nw.of rfl (hts0 (.castable EXN EXN) (by decide +kernel)), va_Nw.of rfl (hts0 (.declares (Bundle.init0 "java/lang/RuntimeException")) (by decide +kernel)), va_Nw.of rfl (hts0 (.declares (Bundle.init0 "java/lang/Exception")) (by decide +kernel)), va_Nw.of rfl (hts0 (.declares (Bundle.init0 Bundle.tN)) (by decide +kernel))⟩, vx_Zqof (hts0 (.laysStatic Bundle.tN "UNASSIGNED_STACK" Bundle.steD) (by decide +kernel)) (hts0 (.initialized Bundle.tN) (by decide +kernel)) (flat_of_before _ hgv _ (by decide +kernel)) (fun a h => Nat.not_le.mpr h), vx_Zqof (hts0 (.laysStatic Bundle.tN "SUPPRESSED_SENTINEL" Bundle.listD) (by decide +kernel)) (hts0 (.initialized Bundle.tN) (by decide +kernel)) (flat_of_before _ hgv _ (by decide +kernel)) (fun a h => Nat.not_le.mpr h)⟩
  have hS : va_S (fun q : Nat => s.heap.size ≤ q) s.heap s.heap [] := va_S.rf
  have hP : va_P (dC, dI) vwCl [] s.heap := fun k q h => by simp at h
  have hD : va_D (fun q : Nat => s.heap.size ≤ q) [] := ⟨fun i j p q h => by simp at h, fun k q h => by simp at h⟩
  have hl := lv_entry ([.ref b]) (n := 7) (Nat.le_of_ble_eq_true rfl)
  rw [lg_entry_eq]
  generalize (lg_sl ([.ref b]) ++ List.replicate (7 - (lg_sl ([.ref b])).length) Slot.unset).toArray = ls at hl ⊢
  have hl : lv_has ls 7 [(0, .ref b)] := hl
  have hc_8 := hts0 (.classLink RL 8 RX4) lwW_68
  have hj_4 := hts0 (.instantiable RX4 9) lwW_69
  have hz_4 := hts0 (.initialized RX4) lwW_56
  have hz_RX4 := hts0 (.initialized RX4) lwW_56
  have hm_26 := hts0 (.methodLink RL 26 yX4_init) lwW_70
  have hq_X4_init := hts0 (.instanceMethod yX4_init) lwW_71
  have hN__methodLinkNest_RX4_11_yX0_init_RX4 : va_Nw (.methodLinkNest RX4 11 yX0_init RX4) s := va_Nw.of rfl (hts0 (.methodLinkNest RX4 11 yX0_init RX4) lwW_78)
  have hN__methodLinkNest_RX4_27_yX1_init_RX4 : va_Nw (.methodLinkNest RX4 27 yX1_init RX4) s := va_Nw.of rfl (hts0 (.methodLinkNest RX4 27 yX1_init RX4) lwW_175)
  have hN__methodLinkNest_RX4_34_yX3_init_RX4 : va_Nw (.methodLinkNest RX4 34 yX3_init RX4) s := va_Nw.of rfl (hts0 (.methodLinkNest RX4 34 yX3_init RX4) lwW_195)
  have hN__methodLinkNest_RX2_11_yX3_init_RX4 : va_Nw (.methodLinkNest RX2 11 yX3_init RX4) s := va_Nw.of rfl (hts0 (.methodLinkNest RX2 11 yX3_init RX4) lwW_103)
  have hc_27 := hts0 (.classLink RL 27 RX5) lwW_737
  have hj_5 := hts0 (.instantiable RX5 30) lwW_738
  have hz_5 := hts0 (.initialized RX5) lwW_61
  have hz_RX5 := hts0 (.initialized RX5) lwW_61
  have hm_29 := hts0 (.methodLink RL 29 yX5_init) lwW_739
  have hq_X5_init := hts0 (.instanceMethod yX5_init) lwW_740
  have ha_long := hts0 (.arrayClass .long) lwW_1153
  refine va_new (ci := 4) (fs := [.null, .null, .null, .null, .null, .null, .null, .int 0, .int 0]) (C := RX4) (T := TX4) (N := 9) hx hb hts lwI_wsX40 tyX4 tyX4_ok hown hc_8 hj_4 hz_4 hK hP hD hS hA rfl (ki_z4) (Nat.le_of_ble_eq_true rfl) (Nat.le_of_ble_eq_true rfl) dL_law_0 (fun q_1 H hP hD hS => ?_)
  refine W.widen (k := 1) (n := 9) (Nat.le_of_ble_eq_true rfl) (Nat.le_of_ble_eq_true rfl) ?_
  obtain ⟨hP, hD⟩ := kx_re (w2 := [(q_1, .inr (4, [.null, .null, .null, .null, .null, .null, .null, .int 0, .int 0]))]) hP hD rfl
  refine lv_dup hx hb dL_law_3 rfl ?_
  have hPc := hP
  have hKc := hK
  have hDc := hD
  have hFc := kx_free hD hS hA
  refine va_callv (va_runI (As := []) (rest := [.ref q_1]) ⟨hx, hb, hml, hown, (lwC_X4_init hts0)⟩ (c_X4_init l dC dI q_1 cyI H.size) (cwI 0 (lwC_X4_init hts0) lwG_X4_init rfl rfl rfl hz_RX4 hm_26 hq_X4_init rfl (by decide +kernel) ⟨Nat.le_of_ble_eq_true rfl, Nat.le_of_ble_eq_true rfl⟩) ⟨fun a U g mk q => by obtain ⟨q0, q1, qP, qK, qD, qn0, qn1, qn2, qn3⟩ := q; exact ⟨q0, q1, qP, va_K.moved (u := U) (U := U.calling g mk a) (Vm.Alike.refl U.vm) qK, qD, va_Nw.same (u := U) (U := U.calling g mk a) rfl rfl qn0, va_Nw.same (u := U) (U := U.calling g mk a) rfl rfl qn1, va_Nw.same (u := U) (U := U.calling g mk a) rfl rfl qn2, va_Nw.same (u := U) (U := U.calling g mk a) rfl rfl qn3⟩, fun U hU hW => ⟨rfl, by rw [hU], by rw [hU]; exact hPc, va_K.moved hW.alike hKc, hDc.weaken (fun _ _ _ _ => trivial), va_Nw.warmM hW hN__methodLinkNest_RX4_11_yX0_init_RX4, va_Nw.warmM hW hN__methodLinkNest_RX4_27_yX1_init_RX4, va_Nw.warmM hW hN__methodLinkNest_RX4_34_yX3_init_RX4, va_Nw.warmM hW hN__methodLinkNest_RX2_11_yX3_init_RX4⟩⟩ rfl rfl hl.1 rfl (lv_room (Nat.le_of_ble_eq_true rfl)) dL_law_4 ⟨Nat.le_of_ble_eq_true rfl, Nat.le_of_ble_eq_true rfl⟩) hS (fun q _ h => hFc q h) hFc (fun u t H1 locs ht hvm w_2 hB hz1 hk1 hS => ?_)
  obtain ⟨q_3, q_4, q_5, q_6, q_7, q_8, q_9, q_10, q_11, q_12, q_13, q_14, q_15, q_16, q_17, q_18, q_19, q_20, q_21, q_22, q_23, q_24, q_25, q_26, hP1, hK1, hD1⟩ := hB
  rw [ht] at hP1
  have hK1 := va_K.moved hvm.symm hK1
  have hD := hD1.weaken (fun _ q _ h => hFc q.1 h)
  have hP := hP1
  clear hP1 hD1 hK1 hk1 hz1 hFc hDc hPc hKc
  generalize H1 = H at hP hS ⊢
  refine W.widen (k := 25) (n := 6337) (Nat.le_of_ble_eq_true rfl) (Nat.le_of_ble_eq_true rfl) ?_
  refine lv_astore_n (lv' := [(1, .ref q_1), (0, .ref b)]) hx hb dL_law_7 rfl hl (by decide) rfl (fun ls hl => ?_)
  refine va_new (ci := 5) (fs := [.null, .int 0, .int 0, .int 0, .null, .null, .null, .null, .null, .null, .null, .int 0, .null, .null, .int 0, .null, .int 0, .null, .null, .null, .null, .null, .int 0, .null, .null, .int 0, .null, .null, .null, .int 0]) (C := RX5) (T := TX5) (N := 30) hx hb hts lwI_wsX50 tyX5 tyX5_ok hown hc_27 hj_5 hz_5 hK hP hD hS hA rfl (ki_z5) (Nat.le_of_ble_eq_true rfl) (Nat.le_of_ble_eq_true rfl) dL_law_8 (fun q_27 H hP hD hS => ?_)
  refine W.widen (k := 26) (n := 6367) (Nat.le_of_ble_eq_true rfl) (Nat.le_of_ble_eq_true rfl) ?_
  obtain ⟨hP, hD⟩ := kx_re (w2 := [kx_4 q_1 q_3 q_4 q_5 q_6 q_7 q_8 q_9 2 1, kx_0 q_3 q_10 0, kx_a q_10 cyI 160 (fun _ => 0), kx_2 q_4 q_3 q_11 q_12 q_13 q_14 q_15 q_16 q_17 q_18 0 0, kx_3 q_11 q_19 q_20 0 0 0, kx_a q_19 cyI 12 (fun _ => 0), kx_a q_20 cyI 12 (fun _ => 0), kx_a q_12 cyI 319 (fun _ => 0), kx_a q_13 cyI 319 (fun _ => 0), kx_a q_14 cyI 319 (fun _ => 0), kx_a q_15 cyI 319 (fun _ => 0), kx_a q_16 cyI 319 (fun _ => 0), kx_a q_17 cyI 1914 (fun _ => 0), kx_a q_18 cyI 1914 (fun _ => 0), kx_1 q_5 q_21 q_22 0 0, kx_a q_21 cyI 160 (fun _ => 0), kx_a q_22 cyI 160 (fun _ => 0), kx_3 q_6 q_23 q_24 0 0 0, kx_a q_23 cyI 12 (fun _ => 0), kx_a q_24 cyI 12 (fun _ => 0), kx_3 q_7 q_25 q_26 0 0 0, kx_a q_25 cyI 12 (fun _ => 0), kx_a q_26 cyI 12 (fun _ => 0), kx_a q_8 cyI 160 (fun _ => 0), kx_a q_9 cyI 161 (fun _ => 0), (q_27, .inr (5, [.null, .int 0, .int 0, .int 0, .null, .null, .null, .null, .null, .null, .null, .int 0, .null, .null, .int 0, .null, .int 0, .null, .null, .null, .null, .null, .int 0, .null, .null, .int 0, .null, .null, .null, .int 0]))]) hP hD rfl
  refine lv_dup hx hb dL_law_11 rfl ?_
  obtain ⟨hPc, hDc, hFc, hCc⟩ := kx_pre (wc := [(q_27, .inr (5, [.null, .int 0, .int 0, .int 0, .null, .null, .null, .null, .null, .null, .null, .int 0, .null, .null, .int 0, .null, .int 0, .null, .null, .null, .null, .null, .int 0, .null, .null, .int 0, .null, .null, .null, .int 0]))]) hP hD hS hA [25] (by decide) rfl
  have hKc := hK
  refine va_callv (va_runI (As := []) (rest := [.ref q_27]) ⟨hx, hb, hml, hown, (lwC_X5_init hts0)⟩ (c_X5_init l dC dI q_27 cyI H.size) (cwI 0 (lwC_X5_init hts0) lwG_X5_init rfl rfl rfl hz_RX5 hm_29 hq_X5_init rfl (by decide +kernel) ⟨Nat.le_of_ble_eq_true rfl, Nat.le_of_ble_eq_true rfl⟩) ⟨fun a U g mk q => by obtain ⟨q0, q1, qP, qK, qD⟩ := q; exact ⟨q0, q1, qP, va_K.moved (u := U) (U := U.calling g mk a) (Vm.Alike.refl U.vm) qK, qD⟩, fun U hU hW => ⟨rfl, by rw [hU], by rw [hU]; exact hPc, va_K.moved hW.alike hKc, hDc.weaken (fun _ _ _ _ => trivial)⟩⟩ rfl rfl hl.1 rfl (lv_room (Nat.le_of_ble_eq_true rfl)) dL_law_12 ⟨Nat.le_of_ble_eq_true rfl, Nat.le_of_ble_eq_true rfl⟩) hS (fun q _ h => hFc q h) hFc (fun u t H1 locs ht hvm w_28 hB hz1 hk1 hS => ?_)
  obtain ⟨q_29, q_30, q_31, q_32, q_33, q_34, q_35, q_36, q_37, q_38, q_39, q_40, q_41, q_42, q_43, q_44, q_45, q_46, q_47, q_48, q_49, hP1, hK1, hD1⟩ := hB
  rw [ht] at hP1
  have hK1 := va_K.moved hvm.symm hK1
  obtain ⟨hP, hD⟩ := kx_join (w2 := [kx_4 q_1 q_3 q_4 q_5 q_6 q_7 q_8 q_9 2 1, kx_0 q_3 q_10 0, kx_a q_10 cyI 160 (fun _ => 0), kx_2 q_4 q_3 q_11 q_12 q_13 q_14 q_15 q_16 q_17 q_18 0 0, kx_3 q_11 q_19 q_20 0 0 0, kx_a q_19 cyI 12 (fun _ => 0), kx_a q_20 cyI 12 (fun _ => 0), kx_a q_12 cyI 319 (fun _ => 0), kx_a q_13 cyI 319 (fun _ => 0), kx_a q_14 cyI 319 (fun _ => 0), kx_a q_15 cyI 319 (fun _ => 0), kx_a q_16 cyI 319 (fun _ => 0), kx_a q_17 cyI 1914 (fun _ => 0), kx_a q_18 cyI 1914 (fun _ => 0), kx_1 q_5 q_21 q_22 0 0, kx_a q_21 cyI 160 (fun _ => 0), kx_a q_22 cyI 160 (fun _ => 0), kx_3 q_6 q_23 q_24 0 0 0, kx_a q_23 cyI 12 (fun _ => 0), kx_a q_24 cyI 12 (fun _ => 0), kx_3 q_7 q_25 q_26 0 0 0, kx_a q_25 cyI 12 (fun _ => 0), kx_a q_26 cyI 12 (fun _ => 0), kx_a q_8 cyI 160 (fun _ => 0), kx_a q_9 cyI 161 (fun _ => 0), kx_5 q_27 q_29 0 2 0 q_30 q_31 q_32 q_33 q_34 q_35 q_36 0 q_37 q_38 0 q_39 0 q_40 q_41 q_42 q_43 q_44 0 q_45 q_46 0 q_47 q_48 q_49 0, kx_a q_29 cyI 160 (fun _ => 0), kx_a q_30 cyI 324 (fun _ => 0), kx_a q_31 cyI 324 (fun _ => 0), kx_a q_32 cyI 324 (fun _ => 0), kx_a q_33 cyI 1944 (fun _ => 0), kx_a q_34 cyI 1944 (fun _ => 0), kx_a q_35 cyI 12 (fun _ => 0), kx_a q_36 cyI 12 (fun _ => 0), kx_a q_37 cyI 320 (fun _ => 0), kx_a q_38 cyI 320 (fun _ => 0), kx_a q_39 cyI 320 (fun _ => 0), kx_a q_40 cyI 320 (fun _ => 0), kx_a q_41 cyI 320 (fun _ => 0), kx_a q_42 cyI 1920 (fun _ => 0), kx_a q_43 cyI 1920 (fun _ => 0), kx_a q_44 cyI 12 (fun _ => 0), kx_a q_45 cyI 160 (fun _ => 0), kx_a q_46 cyI 160 (fun _ => 0), kx_a q_47 cyI 161 (fun _ => 0), kx_a q_48 cyI 160 (fun _ => 0), kx_a q_49 cyI 160 (fun _ => 0)]) hP hD hP1 hD1 hk1 hFc [25] [0, 1, 2, 3, 4, 5, 6, 7, 8, 9, 10, 11, 12, 13, 14, 15, 16, 17, 18, 19, 20, 21, 22, 23, 24] hCc rfl (by decide) (by decide)
  clear hP1 hD1 hK1 hk1 hz1 hFc hDc hPc hKc hCc
  generalize H1 = H at hP hS ⊢
  refine W.widen (k := 47) (n := 17664) (Nat.le_of_ble_eq_true rfl) (Nat.le_of_ble_eq_true rfl) ?_
  refine lv_astore_n (lv' := [(2, .ref q_27), (1, .ref q_1), (0, .ref b)]) hx hb dL_law_15 rfl hl (by decide) rfl (fun ls hl => ?_)
  refine lv_iconst (v := 1) hx hb dL_law_16 (by decide) ?_
  refine va_newa (atype := .long) (a0 := (1, .inr (.inl (fun _ => 0)))) hx hb ha_long rfl hK hP hD hS hA (N' := 1) (fun cA => ki_zl cA 1) (by decide) (by decide) (Nat.le_of_ble_eq_true rfl) (Nat.le_of_ble_eq_true rfl) (Nat.le_of_ble_eq_true rfl) dL_law_17 (fun q_50 cA_51 H hK hP hD hS => ?_)
  have hK : va_K (dC, dI) vwCl [(cyI, .int), (cA_51, .long)] s := hK
  refine W.widen (k := 48) (n := 17665) (Nat.le_of_ble_eq_true rfl) (Nat.le_of_ble_eq_true rfl) ?_
  obtain ⟨hP, hD⟩ := kx_re (w2 := [kx_4 q_1 q_3 q_4 q_5 q_6 q_7 q_8 q_9 2 1, kx_0 q_3 q_10 0, kx_a q_10 cyI 160 (fun _ => 0), kx_2 q_4 q_3 q_11 q_12 q_13 q_14 q_15 q_16 q_17 q_18 0 0, kx_3 q_11 q_19 q_20 0 0 0, kx_a q_19 cyI 12 (fun _ => 0), kx_a q_20 cyI 12 (fun _ => 0), kx_a q_12 cyI 319 (fun _ => 0), kx_a q_13 cyI 319 (fun _ => 0), kx_a q_14 cyI 319 (fun _ => 0), kx_a q_15 cyI 319 (fun _ => 0), kx_a q_16 cyI 319 (fun _ => 0), kx_a q_17 cyI 1914 (fun _ => 0), kx_a q_18 cyI 1914 (fun _ => 0), kx_1 q_5 q_21 q_22 0 0, kx_a q_21 cyI 160 (fun _ => 0), kx_a q_22 cyI 160 (fun _ => 0), kx_3 q_6 q_23 q_24 0 0 0, kx_a q_23 cyI 12 (fun _ => 0), kx_a q_24 cyI 12 (fun _ => 0), kx_3 q_7 q_25 q_26 0 0 0, kx_a q_25 cyI 12 (fun _ => 0), kx_a q_26 cyI 12 (fun _ => 0), kx_a q_8 cyI 160 (fun _ => 0), kx_a q_9 cyI 161 (fun _ => 0), kx_5 q_27 q_29 0 2 0 q_30 q_31 q_32 q_33 q_34 q_35 q_36 0 q_37 q_38 0 q_39 0 q_40 q_41 q_42 q_43 q_44 0 q_45 q_46 0 q_47 q_48 q_49 0, kx_a q_29 cyI 160 (fun _ => 0), kx_a q_30 cyI 324 (fun _ => 0), kx_a q_31 cyI 324 (fun _ => 0), kx_a q_32 cyI 324 (fun _ => 0), kx_a q_33 cyI 1944 (fun _ => 0), kx_a q_34 cyI 1944 (fun _ => 0), kx_a q_35 cyI 12 (fun _ => 0), kx_a q_36 cyI 12 (fun _ => 0), kx_a q_37 cyI 320 (fun _ => 0), kx_a q_38 cyI 320 (fun _ => 0), kx_a q_39 cyI 320 (fun _ => 0), kx_a q_40 cyI 320 (fun _ => 0), kx_a q_41 cyI 320 (fun _ => 0), kx_a q_42 cyI 1920 (fun _ => 0), kx_a q_43 cyI 1920 (fun _ => 0), kx_a q_44 cyI 12 (fun _ => 0), kx_a q_45 cyI 160 (fun _ => 0), kx_a q_46 cyI 160 (fun _ => 0), kx_a q_47 cyI 161 (fun _ => 0), kx_a q_48 cyI 160 (fun _ => 0), kx_a q_49 cyI 160 (fun _ => 0), (q_50, .inl (cA_51, 1, .inr (.inl (fun _ => 0))))]) hP hD rfl
  refine lv_astore_n (lv' := [(3, .ref q_50), (2, .ref q_27), (1, .ref q_1), (0, .ref b)]) hx hb dL_law_19 rfl hl (by decide) rfl (fun ls hl => ?_)
  refine lv_iconst (v := 0) hx hb dL_law_20 (by decide) ?_
  refine lv_istore (lv' := [(4, .int 0), (3, .ref q_50), (2, .ref q_27), (1, .ref q_1), (0, .ref b)]) hx hb dL_law_21 hl (by decide) rfl (fun ls hl => ?_)
  refine W.widen (k := 60) (n := 20000) (Nat.le_of_ble_eq_true rfl) (Nat.le_of_ble_eq_true rfl) ?_
  exact law_loop hl0 hL C0 hth (cyL := cA_51) (xm_ := q_1) (xq_t := q_4) (xq_row := q_3) (xq_cell := q_10) (xq_from := q_12) (xq_to := q_13) (xq_size := q_14) (xq_lossOf := q_15) (xq_lessBy := q_16) (xq_value := q_17) (xq_number := q_18) (xq_joined := q_11) (xj_v := q_19) (xj_n := q_20) (xh0 := q_6) (xa_v := q_23) (xa_n := q_24) (xk0 := q_7) (xkv := q_25) (xkn := q_26) (xt_ := q_5) (xt_k := q_21) (xt_o := q_22) (xw_ := q_8) (xz_ := q_9) (yh0 := q_27) (yg_row := q_29) (yg_many := q_30) (yg_loss := q_31) (yg_less := q_32) (yg_voteValue := q_33) (yg_voteNumber := q_34) (yg_allValue := q_35) (yg_allNumber := q_36) (yg_nodeL := q_37) (yg_nodeR := q_38) (yg_part := q_39) (yg_wasMany := q_40) (yg_wasLoss := q_41) (yg_wasValue := q_42) (yg_wasNumber := q_43) (yg_path := q_44) (yg_heavyValue := q_45) (yg_heavyTimes := q_46) (yg_fewest := q_47) (yg_which := q_48) (yg_met := q_49) (q_o := q_50) (hK.sub (tys' := [(cyI, .int), (cA_51, .long)]) [0, 1] rfl) L 0 (by omega) (by omega) 0 2 1 0 0 0 0 0 0 0 0 0 0 0 0 0 0 0 0 0 0 0 0 (fun _ => 0) (fun _ => 0) (fun _ => 0) (fun _ => 0) (fun _ => 0) (fun _ => 0) (fun _ => 0) (fun _ => 0) (fun _ => 0) (fun _ => 0) (fun _ => 0) (fun _ => 0) (fun _ => 0) (fun _ => 0) (fun _ => 0) (fun _ => 0) (fun _ => 0) (fun _ => 0) (fun _ => 0) (fun _ => 0) (fun _ => 0) (fun _ => 0) (fun _ => 0) (fun _ => 0) (fun _ => 0) (fun _ => 0) (fun _ => 0) (fun _ => 0) (fun _ => 0) (fun _ => 0) (fun _ => 0) (fun _ => 0) (fun _ => 0) (fun _ => 0) (fun _ => 0) (fun _ => 0) (fun _ => 0) (fun _ => 0) (fun _ => 0) 0 (by decide) (by decide) (by decide) (by decide) (by decide) (fun k _ => ⟨(show (-32768 : Int) ≤ (0 : Int32).toInt by decide), (show (0 : Int32).toInt ≤ 32767 by decide)⟩) (fun k _ => ⟨(show (0 : Int) ≤ (0 : Int32).toInt by decide), (show (0 : Int32).toInt ≤ 6 by decide)⟩) (fun h => absurd h (by decide)) (fun k _ => ⟨(show (0 : Int) ≤ (0 : Int32).toInt by decide), (show (0 : Int32).toInt ≤ 6 by decide)⟩) (fun k _ => ⟨(show (0 : Int) ≤ (0 : Int32).toInt by decide), (show (0 : Int32).toInt < 320 by decide)⟩) _ _ ls (hP.sub [0, 3, 1, 2, 7, 8, 9, 10, 11, 12, 13, 4, 5, 6, 17, 18, 19, 20, 21, 22, 14, 15, 16, 23, 24, 25, 26, 27, 28, 29, 30, 31, 32, 33, 34, 35, 36, 37, 38, 39, 40, 41, 42, 43, 44, 45, 46, 47] rfl) (hD.sub [0, 3, 1, 2, 7, 8, 9, 10, 11, 12, 13, 4, 5, 6, 17, 18, 19, 20, 21, 22, 14, 15, 16, 23, 24, 25, 26, 27, 28, 29, 30, 31, 32, 33, 34, 35, 36, 37, 38, 39, 40, 41, 42, 43, 44, 45, 46, 47] (by decide) rfl) hS (lv_sub hl [0, 1, 2, 3, 4] rfl)

