set_option maxHeartbeats 4000000 in
set_option maxRecDepth 100000 in
theorem lc_d {p : Program} {l : Launch} {e : Env} {s : State} {m : MethodId} {below : List Frame} {meth : Method} {c : Code} {dC : Nat → ClassId} {dI : Nat → Nat → Nat} {b : Nat} {xs : Nat → Int32} (hl0 : l.stackTraces = false) {L j : Nat} (hL : L ≤ 4096) (hj : 8 * j + 8 ≤ L) (C0 : lw_At p s m meth c b L xs) (hth : ki_ThA (fun q : Nat => s.heap.size ≤ q) s) {cyI cyL : ClassId} {xm_ xq_t xq_row xq_cell xq_from xq_to xq_size xq_lossOf xq_lessBy xq_value xq_number xq_joined xj_v xj_n xh0 xa_v xa_n xk0 xkv xkn xt_ xt_k xt_o xw_ xz_ yh0 yg_row yg_many yg_loss yg_less yg_voteValue yg_voteNumber yg_allValue yg_allNumber yg_nodeL yg_nodeR yg_part yg_wasMany yg_wasLoss yg_wasValue yg_wasNumber yg_path yg_heavyValue yg_heavyTimes yg_fewest yg_which yg_met q_o : Nat} (hK : va_K (dC, dI) vwCl [(cyI, .int), (cyL, .long)] s) (ih : lw_G p l e s m below meth c b dC dI cyI cyL xm_ xq_t xq_row xq_cell xq_from xq_to xq_size xq_lossOf xq_lessBy xq_value xq_number xq_joined xj_v xj_n xh0 xa_v xa_n xk0 xkv xkn xt_ xt_k xt_o xw_ xz_ yh0 yg_row yg_many yg_loss yg_less yg_voteValue yg_voteNumber yg_allValue yg_allNumber yg_nodeL yg_nodeR yg_part yg_wasMany yg_wasLoss yg_wasValue yg_wasNumber yg_path yg_heavyValue yg_heavyTimes yg_fewest yg_which yg_met q_o (j + 1)) {len slots old nodes here js jl je vs lo le sb lb eb tk mo u_thrown u_allMany u_nodes u_partMany u_pathMany u_heavyMany u_mostMet ix : Int32} {f ff ft fs fo fe uv un jv jn fv fn gb nb fk fq fw fz u_many u_loss u_less u_voteValue u_voteNumber u_allValue u_allNumber u_nodeL u_nodeR u_part u_wasMany u_wasLoss u_wasValue u_wasNumber u_path u_heavyValue u_heavyTimes u_fewest u_which u_met : Nat → Int32} {ol : Nat → Int64} (hix : ix.toInt = 8 * (j : Int)) (I0 : 0 ≤ len.toInt) (I1 : len.toInt ≤ 160) (I2 : 1 ≤ slots.toInt) (I3 : slots.toInt ≤ 6) (I4 : shorts f) (I5 : sixes fs) (I6 : laidX old slots here f ff ft fs fo fe uv un nodes len) (I7 : six4 u_many) (I8 : parts320 u_part) {H : Heap} {locs : List Loc} (hP : va_P (dC, dI) vwCl [kx_4 xm_ xq_row xq_t xt_ xh0 xk0 xw_ xz_ slots old, kx_2 xq_t xq_row xq_joined xq_from xq_to xq_size xq_lossOf xq_lessBy xq_value xq_number nodes here, kx_0 xq_row xq_cell len, kx_a xq_cell cyI 160 f, kx_a xq_from cyI 319 ff, kx_a xq_to cyI 319 ft, kx_a xq_size cyI 319 fs, kx_a xq_lossOf cyI 319 fo, kx_a xq_lessBy cyI 319 fe, kx_a xq_value cyI 1914 uv, kx_a xq_number cyI 1914 un, kx_3 xq_joined xj_v xj_n js jl je, kx_a xj_v cyI 12 jv, kx_a xj_n cyI 12 jn, kx_3 xh0 xa_v xa_n vs lo le, kx_a xa_v cyI 12 fv, kx_a xa_n cyI 12 fn, kx_3 xk0 xkv xkn sb lb eb, kx_a xkv cyI 12 gb, kx_a xkn cyI 12 nb, kx_1 xt_ xt_k xt_o tk mo, kx_a xt_k cyI 160 fk, kx_a xt_o cyI 160 fq, kx_a xw_ cyI 160 fw, kx_a xz_ cyI 161 fz, kx_5 yh0 yg_row len slots u_thrown yg_many yg_loss yg_less yg_voteValue yg_voteNumber yg_allValue yg_allNumber u_allMany yg_nodeL yg_nodeR u_nodes yg_part u_partMany yg_wasMany yg_wasLoss yg_wasValue yg_wasNumber yg_path u_pathMany yg_heavyValue yg_heavyTimes u_heavyMany yg_fewest yg_which yg_met u_mostMet, kx_a yg_row cyI 160 f, kx_a yg_many cyI 324 u_many, kx_a yg_loss cyI 324 u_loss, kx_a yg_less cyI 324 u_less, kx_a yg_voteValue cyI 1944 u_voteValue, kx_a yg_voteNumber cyI 1944 u_voteNumber, kx_a yg_allValue cyI 12 u_allValue, kx_a yg_allNumber cyI 12 u_allNumber, kx_a yg_nodeL cyI 320 u_nodeL, kx_a yg_nodeR cyI 320 u_nodeR, kx_a yg_part cyI 320 u_part, kx_a yg_wasMany cyI 320 u_wasMany, kx_a yg_wasLoss cyI 320 u_wasLoss, kx_a yg_wasValue cyI 1920 u_wasValue, kx_a yg_wasNumber cyI 1920 u_wasNumber, kx_a yg_path cyI 12 u_path, kx_a yg_heavyValue cyI 160 u_heavyValue, kx_a yg_heavyTimes cyI 160 u_heavyTimes, kx_a yg_fewest cyI 161 u_fewest, kx_a yg_which cyI 160 u_which, kx_a yg_met cyI 160 u_met, (q_o, .inl (cyL, 1, .inr (.inl ol)))] H) (hD : va_D (fun q : Nat => s.heap.size ≤ q) [kx_4 xm_ xq_row xq_t xt_ xh0 xk0 xw_ xz_ slots old, kx_2 xq_t xq_row xq_joined xq_from xq_to xq_size xq_lossOf xq_lessBy xq_value xq_number nodes here, kx_0 xq_row xq_cell len, kx_a xq_cell cyI 160 f, kx_a xq_from cyI 319 ff, kx_a xq_to cyI 319 ft, kx_a xq_size cyI 319 fs, kx_a xq_lossOf cyI 319 fo, kx_a xq_lessBy cyI 319 fe, kx_a xq_value cyI 1914 uv, kx_a xq_number cyI 1914 un, kx_3 xq_joined xj_v xj_n js jl je, kx_a xj_v cyI 12 jv, kx_a xj_n cyI 12 jn, kx_3 xh0 xa_v xa_n vs lo le, kx_a xa_v cyI 12 fv, kx_a xa_n cyI 12 fn, kx_3 xk0 xkv xkn sb lb eb, kx_a xkv cyI 12 gb, kx_a xkn cyI 12 nb, kx_1 xt_ xt_k xt_o tk mo, kx_a xt_k cyI 160 fk, kx_a xt_o cyI 160 fq, kx_a xw_ cyI 160 fw, kx_a xz_ cyI 161 fz, kx_5 yh0 yg_row len slots u_thrown yg_many yg_loss yg_less yg_voteValue yg_voteNumber yg_allValue yg_allNumber u_allMany yg_nodeL yg_nodeR u_nodes yg_part u_partMany yg_wasMany yg_wasLoss yg_wasValue yg_wasNumber yg_path u_pathMany yg_heavyValue yg_heavyTimes u_heavyMany yg_fewest yg_which yg_met u_mostMet, kx_a yg_row cyI 160 f, kx_a yg_many cyI 324 u_many, kx_a yg_loss cyI 324 u_loss, kx_a yg_less cyI 324 u_less, kx_a yg_voteValue cyI 1944 u_voteValue, kx_a yg_voteNumber cyI 1944 u_voteNumber, kx_a yg_allValue cyI 12 u_allValue, kx_a yg_allNumber cyI 12 u_allNumber, kx_a yg_nodeL cyI 320 u_nodeL, kx_a yg_nodeR cyI 320 u_nodeR, kx_a yg_part cyI 320 u_part, kx_a yg_wasMany cyI 320 u_wasMany, kx_a yg_wasLoss cyI 320 u_wasLoss, kx_a yg_wasValue cyI 1920 u_wasValue, kx_a yg_wasNumber cyI 1920 u_wasNumber, kx_a yg_path cyI 12 u_path, kx_a yg_heavyValue cyI 160 u_heavyValue, kx_a yg_heavyTimes cyI 160 u_heavyTimes, kx_a yg_fewest cyI 161 u_fewest, kx_a yg_which cyI 160 u_which, kx_a yg_met cyI 160 u_met, (q_o, .inl (cyL, 1, .inr (.inl ol)))]) (hS : va_S (fun q : Nat => s.heap.size ≤ q) s.heap H locs) {ls : Array Slot} (hl : lv_has ls 7 [(4, .int ix), (3, .ref q_o), (2, .ref yh0), (1, .ref xm_), (0, .ref b)]) : W p l e room_1 s m #[Value.ref b] below meth c H locs (60 + 2 * j) (20000 + 12 * j) (lw_Z below #[Value.ref b] s) (F0 m 2288 ls []) := by
  obtain ⟨hx, hb, hr, hml, hown, hts0, hX, hbl, hlocks, hgv⟩ := id C0
  have hts := hts0
  have hA : ∀ q : Nat, s.heap.size ≤ q → (fun q : Nat => s.heap.size ≤ q) q := fun _ h => h
  have hbA : ¬ (fun q : Nat => s.heap.size ≤ q) b := Nat.not_le.mpr hbl
  have hown : s.vm.findClass RL = some m.cls := hown
  have hb : c.code = cL_law := hb
  obtain ⟨x_1, ex_1⟩ : ∃ y : Int32, y = ix + 8 := ⟨_, rfl⟩
  have i_1 : x_1.toInt = ix.toInt + 8 := ki_add ex_1 rfl rfl (by omega) (by omega)
  refine lv_iinc (v := x_1) (lv' := [(4, .int x_1), (3, .ref q_o), (2, .ref yh0), (1, .ref xm_), (0, .ref b)]) hx hb dL_law_2288 hl (k := 0) rfl (by rw [ex_1]; rfl) (by decide) rfl (fun ls hl => ?_)
  refine lv_goto (tgt := 23) hx hb dL_law_2291 (by decide) ?_
  refine W.widen (k := 60 + 2 * (j + 1)) (n := 20000 + 12 * (j + 1)) (by omega) (by omega) ?_
  exact ih len slots old nodes here js jl je vs lo le sb lb eb tk mo u_thrown u_allMany u_nodes u_partMany u_pathMany u_heavyMany u_mostMet f ff ft fs fo fe uv un jv jn fv fn gb nb fk fq fw fz u_many u_loss u_less u_voteValue u_voteNumber u_allValue u_allNumber u_nodeL u_nodeR u_part u_wasMany u_wasLoss u_wasValue u_wasNumber u_path u_heavyValue u_heavyTimes u_fewest u_which u_met ol x_1 (om_ix i_1 hix) I0 I1 I2 I3 I4 I5 I6 I7 I8 _ _ ls (hP.sub [0, 1, 2, 3, 4, 5, 6, 7, 8, 9, 10, 11, 12, 13, 14, 15, 16, 17, 18, 19, 20, 21, 22, 23, 24, 25, 26, 27, 28, 29, 30, 31, 32, 33, 34, 35, 36, 37, 38, 39, 40, 41, 42, 43, 44, 45, 46, 47] rfl) (hD.sub [0, 1, 2, 3, 4, 5, 6, 7, 8, 9, 10, 11, 12, 13, 14, 15, 16, 17, 18, 19, 20, 21, 22, 23, 24, 25, 26, 27, 28, 29, 30, 31, 32, 33, 34, 35, 36, 37, 38, 39, 40, 41, 42, 43, 44, 45, 46, 47] (by decide) rfl) hS (lv_sub hl [0, 1, 2, 3, 4] rfl)

set_option maxHeartbeats 4000000 in
set_option maxRecDepth 100000 in
theorem law_turn {p : Program} {l : Launch} {e : Env} {s : State} {m : MethodId} {below : List Frame} {meth : Method} {c : Code} {dC : Nat → ClassId} {dI : Nat → Nat → Nat} {b : Nat} {xs : Nat → Int32} (hl0 : l.stackTraces = false) {L j : Nat} (hL : L ≤ 4096) (hj : 8 * j + 8 ≤ L) (C0 : lw_At p s m meth c b L xs) (hth : ki_ThA (fun q : Nat => s.heap.size ≤ q) s) {cyI cyL : ClassId} {xm_ xq_t xq_row xq_cell xq_from xq_to xq_size xq_lossOf xq_lessBy xq_value xq_number xq_joined xj_v xj_n xh0 xa_v xa_n xk0 xkv xkn xt_ xt_k xt_o xw_ xz_ yh0 yg_row yg_many yg_loss yg_less yg_voteValue yg_voteNumber yg_allValue yg_allNumber yg_nodeL yg_nodeR yg_part yg_wasMany yg_wasLoss yg_wasValue yg_wasNumber yg_path yg_heavyValue yg_heavyTimes yg_fewest yg_which yg_met q_o : Nat} (hK : va_K (dC, dI) vwCl [(cyI, .int), (cyL, .long)] s) (ih : lw_G p l e s m below meth c b dC dI cyI cyL xm_ xq_t xq_row xq_cell xq_from xq_to xq_size xq_lossOf xq_lessBy xq_value xq_number xq_joined xj_v xj_n xh0 xa_v xa_n xk0 xkv xkn xt_ xt_k xt_o xw_ xz_ yh0 yg_row yg_many yg_loss yg_less yg_voteValue yg_voteNumber yg_allValue yg_allNumber yg_nodeL yg_nodeR yg_part yg_wasMany yg_wasLoss yg_wasValue yg_wasNumber yg_path yg_heavyValue yg_heavyTimes yg_fewest yg_which yg_met q_o (j + 1)) {len slots old nodes here js jl je vs lo le sb lb eb tk mo u_thrown u_allMany u_nodes u_partMany u_pathMany u_heavyMany u_mostMet ix : Int32} {f ff ft fs fo fe uv un jv jn fv fn gb nb fk fq fw fz u_many u_loss u_less u_voteValue u_voteNumber u_allValue u_allNumber u_nodeL u_nodeR u_part u_wasMany u_wasLoss u_wasValue u_wasNumber u_path u_heavyValue u_heavyTimes u_fewest u_which u_met : Nat → Int32} {ol : Nat → Int64} (hix : ix.toInt = 8 * (j : Int)) (I0 : 0 ≤ len.toInt) (I1 : len.toInt ≤ 160) (I2 : 1 ≤ slots.toInt) (I3 : slots.toInt ≤ 6) (I4 : shorts f) (I5 : sixes fs) (I6 : laidX old slots here f ff ft fs fo fe uv un nodes len) (I7 : six4 u_many) (I8 : parts320 u_part) {H : Heap} {locs : List Loc} (hP : va_P (dC, dI) vwCl [kx_4 xm_ xq_row xq_t xt_ xh0 xk0 xw_ xz_ slots old, kx_2 xq_t xq_row xq_joined xq_from xq_to xq_size xq_lossOf xq_lessBy xq_value xq_number nodes here, kx_0 xq_row xq_cell len, kx_a xq_cell cyI 160 f, kx_a xq_from cyI 319 ff, kx_a xq_to cyI 319 ft, kx_a xq_size cyI 319 fs, kx_a xq_lossOf cyI 319 fo, kx_a xq_lessBy cyI 319 fe, kx_a xq_value cyI 1914 uv, kx_a xq_number cyI 1914 un, kx_3 xq_joined xj_v xj_n js jl je, kx_a xj_v cyI 12 jv, kx_a xj_n cyI 12 jn, kx_3 xh0 xa_v xa_n vs lo le, kx_a xa_v cyI 12 fv, kx_a xa_n cyI 12 fn, kx_3 xk0 xkv xkn sb lb eb, kx_a xkv cyI 12 gb, kx_a xkn cyI 12 nb, kx_1 xt_ xt_k xt_o tk mo, kx_a xt_k cyI 160 fk, kx_a xt_o cyI 160 fq, kx_a xw_ cyI 160 fw, kx_a xz_ cyI 161 fz, kx_5 yh0 yg_row len slots u_thrown yg_many yg_loss yg_less yg_voteValue yg_voteNumber yg_allValue yg_allNumber u_allMany yg_nodeL yg_nodeR u_nodes yg_part u_partMany yg_wasMany yg_wasLoss yg_wasValue yg_wasNumber yg_path u_pathMany yg_heavyValue yg_heavyTimes u_heavyMany yg_fewest yg_which yg_met u_mostMet, kx_a yg_row cyI 160 f, kx_a yg_many cyI 324 u_many, kx_a yg_loss cyI 324 u_loss, kx_a yg_less cyI 324 u_less, kx_a yg_voteValue cyI 1944 u_voteValue, kx_a yg_voteNumber cyI 1944 u_voteNumber, kx_a yg_allValue cyI 12 u_allValue, kx_a yg_allNumber cyI 12 u_allNumber, kx_a yg_nodeL cyI 320 u_nodeL, kx_a yg_nodeR cyI 320 u_nodeR, kx_a yg_part cyI 320 u_part, kx_a yg_wasMany cyI 320 u_wasMany, kx_a yg_wasLoss cyI 320 u_wasLoss, kx_a yg_wasValue cyI 1920 u_wasValue, kx_a yg_wasNumber cyI 1920 u_wasNumber, kx_a yg_path cyI 12 u_path, kx_a yg_heavyValue cyI 160 u_heavyValue, kx_a yg_heavyTimes cyI 160 u_heavyTimes, kx_a yg_fewest cyI 161 u_fewest, kx_a yg_which cyI 160 u_which, kx_a yg_met cyI 160 u_met, (q_o, .inl (cyL, 1, .inr (.inl ol)))] H) (hD : va_D (fun q : Nat => s.heap.size ≤ q) [kx_4 xm_ xq_row xq_t xt_ xh0 xk0 xw_ xz_ slots old, kx_2 xq_t xq_row xq_joined xq_from xq_to xq_size xq_lossOf xq_lessBy xq_value xq_number nodes here, kx_0 xq_row xq_cell len, kx_a xq_cell cyI 160 f, kx_a xq_from cyI 319 ff, kx_a xq_to cyI 319 ft, kx_a xq_size cyI 319 fs, kx_a xq_lossOf cyI 319 fo, kx_a xq_lessBy cyI 319 fe, kx_a xq_value cyI 1914 uv, kx_a xq_number cyI 1914 un, kx_3 xq_joined xj_v xj_n js jl je, kx_a xj_v cyI 12 jv, kx_a xj_n cyI 12 jn, kx_3 xh0 xa_v xa_n vs lo le, kx_a xa_v cyI 12 fv, kx_a xa_n cyI 12 fn, kx_3 xk0 xkv xkn sb lb eb, kx_a xkv cyI 12 gb, kx_a xkn cyI 12 nb, kx_1 xt_ xt_k xt_o tk mo, kx_a xt_k cyI 160 fk, kx_a xt_o cyI 160 fq, kx_a xw_ cyI 160 fw, kx_a xz_ cyI 161 fz, kx_5 yh0 yg_row len slots u_thrown yg_many yg_loss yg_less yg_voteValue yg_voteNumber yg_allValue yg_allNumber u_allMany yg_nodeL yg_nodeR u_nodes yg_part u_partMany yg_wasMany yg_wasLoss yg_wasValue yg_wasNumber yg_path u_pathMany yg_heavyValue yg_heavyTimes u_heavyMany yg_fewest yg_which yg_met u_mostMet, kx_a yg_row cyI 160 f, kx_a yg_many cyI 324 u_many, kx_a yg_loss cyI 324 u_loss, kx_a yg_less cyI 324 u_less, kx_a yg_voteValue cyI 1944 u_voteValue, kx_a yg_voteNumber cyI 1944 u_voteNumber, kx_a yg_allValue cyI 12 u_allValue, kx_a yg_allNumber cyI 12 u_allNumber, kx_a yg_nodeL cyI 320 u_nodeL, kx_a yg_nodeR cyI 320 u_nodeR, kx_a yg_part cyI 320 u_part, kx_a yg_wasMany cyI 320 u_wasMany, kx_a yg_wasLoss cyI 320 u_wasLoss, kx_a yg_wasValue cyI 1920 u_wasValue, kx_a yg_wasNumber cyI 1920 u_wasNumber, kx_a yg_path cyI 12 u_path, kx_a yg_heavyValue cyI 160 u_heavyValue, kx_a yg_heavyTimes cyI 160 u_heavyTimes, kx_a yg_fewest cyI 161 u_fewest, kx_a yg_which cyI 160 u_which, kx_a yg_met cyI 160 u_met, (q_o, .inl (cyL, 1, .inr (.inl ol)))]) (hS : va_S (fun q : Nat => s.heap.size ≤ q) s.heap H locs) {ls : Array Slot} (hl : lv_has ls 7 [(4, .int ix), (3, .ref q_o), (2, .ref yh0), (1, .ref xm_), (0, .ref b)]) : W p l e room_1 s m #[Value.ref b] below meth c H locs (60 + 2 * j) (20000 + 12 * j) (lw_Z below #[Value.ref b] s) (F0 m 23 ls []) := by
  obtain ⟨hx, hb, hr, hml, hown, hts0, hX, hbl, hlocks, hgv⟩ := id C0
  have hts := hts0
  have hA : ∀ q : Nat, s.heap.size ≤ q → (fun q : Nat => s.heap.size ≤ q) q := fun _ h => h
  have hbA : ¬ (fun q : Nat => s.heap.size ≤ q) b := Nat.not_le.mpr hbl
  have hown : s.vm.findClass RL = some m.cls := hown
  have hb : c.code = cL_law := hb
  refine lv_iload hx hb dL_law_23 (lv_at hl 0 rfl) ?_
  refine lv_aload_n hx hb dL_law_25 rfl (lv_at hl 4 rfl) ?_
  refine va_slen hx hb hX hbl hbA hS dL_law_26 ?_
  refine lv_topi (fun y_1 ey_1 => ?_)
  have i_1 : y_1.toInt = (L : Int) := by rw [ey_1]; exact ki_ofNat hL
  refine lv_bipush (v := 8) hx hb dL_law_27 (by decide) ?_
  refine lv_isub hx hb dL_law_29 ?_
  refine lv_topi (fun y_2 ey_2 => ?_)
  have i_2 : y_2.toInt = y_1.toInt - 8 := ki_sub ey_2 rfl rfl (by omega) (by omega)
  refine lv_icmp_gt (tgt := 2294) hx hb dL_law_30 (by decide) (fun c_9 => ?_) (fun c_9 => ?_)
  · have i_9 := kc_lt c_9
    omega
  refine lv_aload_n hx hb dL_law_33 rfl (lv_at hl 4 rfl) ?_
  refine lv_iload hx hb dL_law_34 (lv_at hl 0 rfl) ?_
  refine va_sld hx hb hX hbl hbA hS (i := ix) (ki_in (by omega) (by omega)) dL_law_36 ?_
  refine lv_topi (fun y_3 ey_3 => ?_)
  refine lv_bipush (v := 63) hx hb dL_law_37 (by decide) ?_
  refine lv_iand hx hb dL_law_39 ?_
  refine lv_topi (fun y ey => ?_)
  by_cases hr9 : 0 ≤ y.toInt ∧ y.toInt ≤ 43
  · have h9 : y.toInt = 0 ∨ y.toInt = 1 ∨ y.toInt = 2 ∨ y.toInt = 3 ∨ y.toInt = 4 ∨ y.toInt = 5 ∨ y.toInt = 6 ∨ y.toInt = 7 ∨ y.toInt = 8 ∨ y.toInt = 9 ∨ y.toInt = 10 ∨ y.toInt = 11 ∨ y.toInt = 12 ∨ y.toInt = 13 ∨ y.toInt = 14 ∨ y.toInt = 15 ∨ y.toInt = 16 ∨ y.toInt = 17 ∨ y.toInt = 18 ∨ y.toInt = 19 ∨ y.toInt = 20 ∨ y.toInt = 21 ∨ y.toInt = 22 ∨ y.toInt = 23 ∨ y.toInt = 24 ∨ y.toInt = 25 ∨ y.toInt = 26 ∨ y.toInt = 27 ∨ y.toInt = 28 ∨ y.toInt = 29 ∨ y.toInt = 30 ∨ y.toInt = 31 ∨ y.toInt = 32 ∨ y.toInt = 33 ∨ y.toInt = 34 ∨ y.toInt = 35 ∨ y.toInt = 36 ∨ y.toInt = 37 ∨ y.toInt = 38 ∨ y.toInt = 39 ∨ y.toInt = 40 ∨ y.toInt = 41 ∨ y.toInt = 42 ∨ y.toInt = 43 := by omega
    rcases h9 with h9 | h9 | h9 | h9 | h9 | h9 | h9 | h9 | h9 | h9 | h9 | h9 | h9 | h9 | h9 | h9 | h9 | h9 | h9 | h9 | h9 | h9 | h9 | h9 | h9 | h9 | h9 | h9 | h9 | h9 | h9 | h9 | h9 | h9 | h9 | h9 | h9 | h9 | h9 | h9 | h9 | h9 | h9 | h9
    · refine lv_tableIn (tgt := 232) (off := 192) hx hb dL_law_40 (by omega) (by omega) (by rw [h9]; rfl) (by decide) ?_
      exact lc_0 hl0 hL hj C0 hth hK ih hix I0 I1 I2 I3 I4 I5 I6 I7 I8 hP hD hS hl
    · refine lv_tableIn (tgt := 269) (off := 229) hx hb dL_law_40 (by omega) (by omega) (by rw [h9]; rfl) (by decide) ?_
      exact lc_1 hl0 hL hj C0 hth hK ih hix I0 I1 I2 I3 I4 I5 I6 I7 I8 hP hD hS hl
    · refine lv_tableIn (tgt := 294) (off := 254) hx hb dL_law_40 (by omega) (by omega) (by rw [h9]; rfl) (by decide) ?_
      exact lc_2 hl0 hL hj C0 hth hK ih hix I0 I1 I2 I3 I4 I5 I6 I7 I8 hP hD hS hl
    · refine lv_tableIn (tgt := 319) (off := 279) hx hb dL_law_40 (by omega) (by omega) (by rw [h9]; rfl) (by decide) ?_
      exact lc_3 hl0 hL hj C0 hth hK ih hix I0 I1 I2 I3 I4 I5 I6 I7 I8 hP hD hS hl
    · refine lv_tableIn (tgt := 356) (off := 316) hx hb dL_law_40 (by omega) (by omega) (by rw [h9]; rfl) (by decide) ?_
      exact lc_4 hl0 hL hj C0 hth hK ih hix I0 I1 I2 I3 I4 I5 I6 I7 I8 hP hD hS hl
    · refine lv_tableIn (tgt := 405) (off := 365) hx hb dL_law_40 (by omega) (by omega) (by rw [h9]; rfl) (by decide) ?_
      exact lc_5 hl0 hL hj C0 hth hK ih hix I0 I1 I2 I3 I4 I5 I6 I7 I8 hP hD hS hl
    · refine lv_tableIn (tgt := 442) (off := 402) hx hb dL_law_40 (by omega) (by omega) (by rw [h9]; rfl) (by decide) ?_
      exact lc_6 hl0 hL hj C0 hth hK ih hix I0 I1 I2 I3 I4 I5 I6 I7 I8 hP hD hS hl
    · refine lv_tableIn (tgt := 479) (off := 439) hx hb dL_law_40 (by omega) (by omega) (by rw [h9]; rfl) (by decide) ?_
      exact lc_7 hl0 hL hj C0 hth hK ih hix I0 I1 I2 I3 I4 I5 I6 I7 I8 hP hD hS hl
    · refine lv_tableIn (tgt := 516) (off := 476) hx hb dL_law_40 (by omega) (by omega) (by rw [h9]; rfl) (by decide) ?_
      exact lc_8 hl0 hL hj C0 hth hK ih hix I0 I1 I2 I3 I4 I5 I6 I7 I8 hP hD hS hl
    · refine lv_tableIn (tgt := 541) (off := 501) hx hb dL_law_40 (by omega) (by omega) (by rw [h9]; rfl) (by decide) ?_
      exact lc_9 hl0 hL hj C0 hth hK ih hix I0 I1 I2 I3 I4 I5 I6 I7 I8 hP hD hS hl
    · refine lv_tableIn (tgt := 569) (off := 529) hx hb dL_law_40 (by omega) (by omega) (by rw [h9]; rfl) (by decide) ?_
      exact lc_10 hl0 hL hj C0 hth hK ih hix I0 I1 I2 I3 I4 I5 I6 I7 I8 hP hD hS hl
    · refine lv_tableIn (tgt := 618) (off := 578) hx hb dL_law_40 (by omega) (by omega) (by rw [h9]; rfl) (by decide) ?_
      exact lc_11 hl0 hL hj C0 hth hK ih hix I0 I1 I2 I3 I4 I5 I6 I7 I8 hP hD hS hl
    · refine lv_tableIn (tgt := 655) (off := 615) hx hb dL_law_40 (by omega) (by omega) (by rw [h9]; rfl) (by decide) ?_
      exact lc_12 hl0 hL hj C0 hth hK ih hix I0 I1 I2 I3 I4 I5 I6 I7 I8 hP hD hS hl
    · refine lv_tableIn (tgt := 668) (off := 628) hx hb dL_law_40 (by omega) (by omega) (by rw [h9]; rfl) (by decide) ?_
      exact lc_13 hl0 hL hj C0 hth hK ih hix I0 I1 I2 I3 I4 I5 I6 I7 I8 hP hD hS hl
    · refine lv_tableIn (tgt := 705) (off := 665) hx hb dL_law_40 (by omega) (by omega) (by rw [h9]; rfl) (by decide) ?_
      exact lc_14 hl0 hL hj C0 hth hK ih hix I0 I1 I2 I3 I4 I5 I6 I7 I8 hP hD hS hl
    · refine lv_tableIn (tgt := 769) (off := 729) hx hb dL_law_40 (by omega) (by omega) (by rw [h9]; rfl) (by decide) ?_
      exact lc_15 hl0 hL hj C0 hth hK ih hix I0 I1 I2 I3 I4 I5 I6 I7 I8 hP hD hS hl
    · refine lv_tableIn (tgt := 806) (off := 766) hx hb dL_law_40 (by omega) (by omega) (by rw [h9]; rfl) (by decide) ?_
      exact lc_16 hl0 hL hj C0 hth hK ih hix I0 I1 I2 I3 I4 I5 I6 I7 I8 hP hD hS hl
    · refine lv_tableIn (tgt := 843) (off := 803) hx hb dL_law_40 (by omega) (by omega) (by rw [h9]; rfl) (by decide) ?_
      exact lc_17 hl0 hL hj C0 hth hK ih hix I0 I1 I2 I3 I4 I5 I6 I7 I8 hP hD hS hl
    · refine lv_tableIn (tgt := 892) (off := 852) hx hb dL_law_40 (by omega) (by omega) (by rw [h9]; rfl) (by decide) ?_
      exact lc_18 hl0 hL hj C0 hth hK ih hix I0 I1 I2 I3 I4 I5 I6 I7 I8 hP hD hS hl
    · refine lv_tableIn (tgt := 917) (off := 877) hx hb dL_law_40 (by omega) (by omega) (by rw [h9]; rfl) (by decide) ?_
      exact lc_19 hl0 hL hj C0 hth hK ih hix I0 I1 I2 I3 I4 I5 I6 I7 I8 hP hD hS hl
    · refine lv_tableIn (tgt := 954) (off := 914) hx hb dL_law_40 (by omega) (by omega) (by rw [h9]; rfl) (by decide) ?_
      exact lc_20 hl0 hL hj C0 hth hK ih hix I0 I1 I2 I3 I4 I5 I6 I7 I8 hP hD hS hl
    · refine lv_tableIn (tgt := 1015) (off := 975) hx hb dL_law_40 (by omega) (by omega) (by rw [h9]; rfl) (by decide) ?_
      exact lc_21 hl0 hL hj C0 hth hK ih hix I0 I1 I2 I3 I4 I5 I6 I7 I8 hP hD hS hl
    · refine lv_tableIn (tgt := 1064) (off := 1024) hx hb dL_law_40 (by omega) (by omega) (by rw [h9]; rfl) (by decide) ?_
      exact lc_22 hl0 hL hj C0 hth hK ih hix I0 I1 I2 I3 I4 I5 I6 I7 I8 hP hD hS hl
    · refine lv_tableIn (tgt := 1128) (off := 1088) hx hb dL_law_40 (by omega) (by omega) (by rw [h9]; rfl) (by decide) ?_
      exact lc_23 hl0 hL hj C0 hth hK ih hix I0 I1 I2 I3 I4 I5 I6 I7 I8 hP hD hS hl
    · refine lv_tableIn (tgt := 1177) (off := 1137) hx hb dL_law_40 (by omega) (by omega) (by rw [h9]; rfl) (by decide) ?_
      exact lc_24 hl0 hL hj C0 hth hK ih hix I0 I1 I2 I3 I4 I5 I6 I7 I8 hP hD hS hl
    · refine lv_tableIn (tgt := 1214) (off := 1174) hx hb dL_law_40 (by omega) (by omega) (by rw [h9]; rfl) (by decide) ?_
      exact lc_25 hl0 hL hj C0 hth hK ih hix I0 I1 I2 I3 I4 I5 I6 I7 I8 hP hD hS hl
    · refine lv_tableIn (tgt := 1275) (off := 1235) hx hb dL_law_40 (by omega) (by omega) (by rw [h9]; rfl) (by decide) ?_
      exact lc_26 hl0 hL hj C0 hth hK ih hix I0 I1 I2 I3 I4 I5 I6 I7 I8 hP hD hS hl
    · refine lv_tableIn (tgt := 1365) (off := 1325) hx hb dL_law_40 (by omega) (by omega) (by rw [h9]; rfl) (by decide) ?_
      exact lc_27 hl0 hL hj C0 hth hK ih hix I0 I1 I2 I3 I4 I5 I6 I7 I8 hP hD hS hl
    · refine lv_tableIn (tgt := 1426) (off := 1386) hx hb dL_law_40 (by omega) (by omega) (by rw [h9]; rfl) (by decide) ?_
      exact lc_28 hl0 hL hj C0 hth hK ih hix I0 I1 I2 I3 I4 I5 I6 I7 I8 hP hD hS hl
    · refine lv_tableIn (tgt := 1487) (off := 1447) hx hb dL_law_40 (by omega) (by omega) (by rw [h9]; rfl) (by decide) ?_
      exact lc_29 hl0 hL hj C0 hth hK ih hix I0 I1 I2 I3 I4 I5 I6 I7 I8 hP hD hS hl
    · refine lv_tableIn (tgt := 1524) (off := 1484) hx hb dL_law_40 (by omega) (by omega) (by rw [h9]; rfl) (by decide) ?_
      exact lc_30 hl0 hL hj C0 hth hK ih hix I0 I1 I2 I3 I4 I5 I6 I7 I8 hP hD hS hl
    · refine lv_tableIn (tgt := 1573) (off := 1533) hx hb dL_law_40 (by omega) (by omega) (by rw [h9]; rfl) (by decide) ?_
      exact lc_31 hl0 hL hj C0 hth hK ih hix I0 I1 I2 I3 I4 I5 I6 I7 I8 hP hD hS hl
    · refine lv_tableIn (tgt := 1660) (off := 1620) hx hb dL_law_40 (by omega) (by omega) (by rw [h9]; rfl) (by decide) ?_
      exact lc_32 hl0 hL hj C0 hth hK ih hix I0 I1 I2 I3 I4 I5 I6 I7 I8 hP hD hS hl
    · refine lv_tableIn (tgt := 1761) (off := 1721) hx hb dL_law_40 (by omega) (by omega) (by rw [h9]; rfl) (by decide) ?_
      exact lc_33 hl0 hL hj C0 hth hK ih hix I0 I1 I2 I3 I4 I5 I6 I7 I8 hP hD hS hl
    · refine lv_tableIn (tgt := 1822) (off := 1782) hx hb dL_law_40 (by omega) (by omega) (by rw [h9]; rfl) (by decide) ?_
      exact lc_34 hl0 hL hj C0 hth hK ih hix I0 I1 I2 I3 I4 I5 I6 I7 I8 hP hD hS hl
    · refine lv_tableIn (tgt := 1847) (off := 1807) hx hb dL_law_40 (by omega) (by omega) (by rw [h9]; rfl) (by decide) ?_
      exact lc_35 hl0 hL hj C0 hth hK ih hix I0 I1 I2 I3 I4 I5 I6 I7 I8 hP hD hS hl
    · refine lv_tableIn (tgt := 1884) (off := 1844) hx hb dL_law_40 (by omega) (by omega) (by rw [h9]; rfl) (by decide) ?_
      exact lc_36 hl0 hL hj C0 hth hK ih hix I0 I1 I2 I3 I4 I5 I6 I7 I8 hP hD hS hl
    · refine lv_tableIn (tgt := 1921) (off := 1881) hx hb dL_law_40 (by omega) (by omega) (by rw [h9]; rfl) (by decide) ?_
      exact lc_37 hl0 hL hj C0 hth hK ih hix I0 I1 I2 I3 I4 I5 I6 I7 I8 hP hD hS hl
    · refine lv_tableIn (tgt := 1934) (off := 1894) hx hb dL_law_40 (by omega) (by omega) (by rw [h9]; rfl) (by decide) ?_
      exact lc_38 hl0 hL hj C0 hth hK ih hix I0 I1 I2 I3 I4 I5 I6 I7 I8 hP hD hS hl
    · refine lv_tableIn (tgt := 1995) (off := 1955) hx hb dL_law_40 (by omega) (by omega) (by rw [h9]; rfl) (by decide) ?_
      exact lc_39 hl0 hL hj C0 hth hK ih hix I0 I1 I2 I3 I4 I5 I6 I7 I8 hP hD hS hl
    · refine lv_tableIn (tgt := 2068) (off := 2028) hx hb dL_law_40 (by omega) (by omega) (by rw [h9]; rfl) (by decide) ?_
      exact lc_40 hl0 hL hj C0 hth hK ih hix I0 I1 I2 I3 I4 I5 I6 I7 I8 hP hD hS hl
    · refine lv_tableIn (tgt := 2141) (off := 2101) hx hb dL_law_40 (by omega) (by omega) (by rw [h9]; rfl) (by decide) ?_
      exact lc_41 hl0 hL hj C0 hth hK ih hix I0 I1 I2 I3 I4 I5 I6 I7 I8 hP hD hS hl
    · refine lv_tableIn (tgt := 2202) (off := 2162) hx hb dL_law_40 (by omega) (by omega) (by rw [h9]; rfl) (by decide) ?_
      exact lc_42 hl0 hL hj C0 hth hK ih hix I0 I1 I2 I3 I4 I5 I6 I7 I8 hP hD hS hl
    · refine lv_tableIn (tgt := 2263) (off := 2223) hx hb dL_law_40 (by omega) (by omega) (by rw [h9]; rfl) (by decide) ?_
      exact lc_43 hl0 hL hj C0 hth hK ih hix I0 I1 I2 I3 I4 I5 I6 I7 I8 hP hD hS hl
  · refine lv_tableOut (tgt := 2288) hx hb dL_law_40 (by omega) (by decide) ?_
    exact lc_d hl0 hL hj C0 hth hK ih hix I0 I1 I2 I3 I4 I5 I6 I7 I8 hP hD hS hl

set_option maxHeartbeats 4000000 in
set_option maxRecDepth 100000 in
theorem law_loop {p : Program} {l : Launch} {e : Env} {s : State} {m : MethodId} {below : List Frame} {meth : Method} {c : Code} {dC : Nat → ClassId} {dI : Nat → Nat → Nat} {b : Nat} {xs : Nat → Int32} (hl0 : l.stackTraces = false) {L : Nat} (hL : L ≤ 4096) (C0 : lw_At p s m meth c b L xs) (hth : ki_ThA (fun q : Nat => s.heap.size ≤ q) s) {cyI cyL : ClassId} {xm_ xq_t xq_row xq_cell xq_from xq_to xq_size xq_lossOf xq_lessBy xq_value xq_number xq_joined xj_v xj_n xh0 xa_v xa_n xk0 xkv xkn xt_ xt_k xt_o xw_ xz_ yh0 yg_row yg_many yg_loss yg_less yg_voteValue yg_voteNumber yg_allValue yg_allNumber yg_nodeL yg_nodeR yg_part yg_wasMany yg_wasLoss yg_wasValue yg_wasNumber yg_path yg_heavyValue yg_heavyTimes yg_fewest yg_which yg_met q_o : Nat} (hK : va_K (dC, dI) vwCl [(cyI, .int), (cyL, .long)] s) : ∀ (n j : Nat), j ≤ 512 → L < 8 * j + 8 * n + 8 → lw_G p l e s m below meth c b dC dI cyI cyL xm_ xq_t xq_row xq_cell xq_from xq_to xq_size xq_lossOf xq_lessBy xq_value xq_number xq_joined xj_v xj_n xh0 xa_v xa_n xk0 xkv xkn xt_ xt_k xt_o xw_ xz_ yh0 yg_row yg_many yg_loss yg_less yg_voteValue yg_voteNumber yg_allValue yg_allNumber yg_nodeL yg_nodeR yg_part yg_wasMany yg_wasLoss yg_wasValue yg_wasNumber yg_path yg_heavyValue yg_heavyTimes yg_fewest yg_which yg_met q_o j := by
  obtain ⟨hx, hb, hr, hml, hown, hts0, hX, hbl, hlocks, hgv⟩ := id C0
  have hts := hts0
  have hA : ∀ q : Nat, s.heap.size ≤ q → (fun q : Nat => s.heap.size ≤ q) q := fun _ h => h
  have hbA : ¬ (fun q : Nat => s.heap.size ≤ q) b := Nat.not_le.mpr hbl
  have hown : s.vm.findClass RL = some m.cls := hown
  have hb : c.code = cL_law := hb
  have hout : ∀ j : Nat, j ≤ 512 → L < 8 * j + 8 → lw_G p l e s m below meth c b dC dI cyI cyL xm_ xq_t xq_row xq_cell xq_from xq_to xq_size xq_lossOf xq_lessBy xq_value xq_number xq_joined xj_v xj_n xh0 xa_v xa_n xk0 xkv xkn xt_ xt_k xt_o xw_ xz_ yh0 yg_row yg_many yg_loss yg_less yg_voteValue yg_voteNumber yg_allValue yg_allNumber yg_nodeL yg_nodeR yg_part yg_wasMany yg_wasLoss yg_wasValue yg_wasNumber yg_path yg_heavyValue yg_heavyTimes yg_fewest yg_which yg_met q_o j := by
    intro j hj5 hjL
    intro len slots old nodes here js jl je vs lo le sb lb eb tk mo u_thrown u_allMany u_nodes u_partMany u_pathMany u_heavyMany u_mostMet f ff ft fs fo fe uv un jv jn fv fn gb nb fk fq fw fz u_many u_loss u_less u_voteValue u_voteNumber u_allValue u_allNumber u_nodeL u_nodeR u_part u_wasMany u_wasLoss u_wasValue u_wasNumber u_path u_heavyValue u_heavyTimes u_fewest u_which u_met ol ix hix I0 I1 I2 I3 I4 I5 I6 I7 I8 H locs ls hP hD hS hl
    refine lv_iload hx hb dL_law_23 (lv_at hl 0 rfl) ?_
    refine lv_aload_n hx hb dL_law_25 rfl (lv_at hl 4 rfl) ?_
    refine va_slen hx hb hX hbl hbA hS dL_law_26 ?_
    refine lv_topi (fun y_1 ey_1 => ?_)
    have i_1 : y_1.toInt = (L : Int) := by rw [ey_1]; exact ki_ofNat hL
    refine lv_bipush (v := 8) hx hb dL_law_27 (by decide) ?_
    refine lv_isub hx hb dL_law_29 ?_
    refine lv_topi (fun y_2 ey_2 => ?_)
    have i_2 : y_2.toInt = y_1.toInt - 8 := ki_sub ey_2 rfl rfl (by omega) (by omega)
    refine lv_icmp_gt (tgt := 2294) hx hb dL_law_30 (by decide) (fun c_9 => ?_) (fun c_9 => ?_)
    · refine lv_iconst (v := 1) hx hb dL_law_2294 (by decide) ?_
      refine va_forget (fun q hq => hS.2.2 q hq) ?_
      refine W.widen (k := 601024) (n := 7293034) (by omega) (by omega) ?_
      exact lw_ret hx hb hr hlocks dL_law_2295
    · have i_9 := kc_nlt c_9
      omega
  intro n
  induction n with
  | zero => intro j hj hn; exact hout j hj (by omega)
  | succ n ihn =>
    intro j hj hn
    by_cases h9 : L < 8 * j + 8
    · exact hout j hj h9
    · intro len slots old nodes here js jl je vs lo le sb lb eb tk mo u_thrown u_allMany u_nodes u_partMany u_pathMany u_heavyMany u_mostMet f ff ft fs fo fe uv un jv jn fv fn gb nb fk fq fw fz u_many u_loss u_less u_voteValue u_voteNumber u_allValue u_allNumber u_nodeL u_nodeR u_part u_wasMany u_wasLoss u_wasValue u_wasNumber u_path u_heavyValue u_heavyTimes u_fewest u_which u_met ol ix hix I0 I1 I2 I3 I4 I5 I6 I7 I8 H locs ls hP hD hS hl
      exact law_turn hl0 hL (by omega) C0 hth hK (ihn (j + 1) (by omega) (by omega)) hix I0 I1 I2 I3 I4 I5 I6 I7 I8 hP hD hS hl

