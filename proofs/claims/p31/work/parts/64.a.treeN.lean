abbrev wsX20 : List Cond := u_ws RX2 TX2 11
theorem nmX2 : ∀ a, a < 11 → ∀ b, b < 11 → a ≠ b → (TX2 a).2.1 ≠ (TX2 b).2.1 := by decide +kernel
theorem tyX2_ok : ∀ k, k < 11 → parseFieldDescriptor (TX2 k).2.2.1 = some (tyX2 k) := by decide +kernel
abbrev cX2_layRanges : ByteArray := prog_4_method_2_code
def yX2_layRanges : MethodName := ⟨RX2, "layRanges", "()V"⟩
abbrev cX2_layBelow : ByteArray := prog_4_method_3_code
def yX2_layBelow : MethodName := ⟨RX2, "layBelow", "(I)V"⟩
abbrev cX2_rightBelow : ByteArray := prog_4_method_4_code
def yX2_rightBelow : MethodName := ⟨RX2, "rightBelow", "(I)I"⟩
def wsX2_rightBelow : List Cond := .code yX2_rightBelow cX2_rightBelow 3 (some .int) :: ([.fieldLink RX2 18 "MajorityIndex$Tree" "from" "[I", .fieldLink RX2 22 "MajorityIndex$Tree" "to" "[I"] ++ wsX20)
def wsX2_layBelow : List Cond := .code yX2_layBelow cX2_layBelow 4 none :: ([.fieldLink RX2 18 "MajorityIndex$Tree" "from" "[I", .fieldLink RX2 22 "MajorityIndex$Tree" "to" "[I", .methodLink RX2 57 yX2_rightBelow, .instanceMethod yX2_rightBelow, .selects RX2 yX2_rightBelow yX2_rightBelow, .initialized RX2, .code yX2_rightBelow cX2_rightBelow 3 (some .int)] ++ wsX20)
def wsX2_layRanges : List Cond := .code yX2_layRanges cX2_layRanges 2 none :: ([.fieldLink RX2 40 "MajorityIndex$Tree" "row" "LMajorityIndex$Row;", .fieldLink RX2 44 "MajorityIndex$Row" "length" "I", .fieldLink RX2 50 "MajorityIndex$Tree" "nodes" "I", .fieldLink RX2 18 "MajorityIndex$Tree" "from" "[I", .fieldLink RX2 22 "MajorityIndex$Tree" "to" "[I", .methodLink RX2 53 yX2_layBelow, .instanceMethod yX2_layBelow, .selects RX2 yX2_layBelow yX2_layBelow, .initialized RX2, .code yX2_layBelow cX2_layBelow 4 none, .methodLink RX2 57 yX2_rightBelow, .instanceMethod yX2_rightBelow, .selects RX2 yX2_rightBelow yX2_rightBelow, .code yX2_rightBelow cX2_rightBelow 3 (some .int)] ++ wsX20 ++ wsX00)
set_option maxRecDepth 20000 in
theorem ggX2_layRanges_X2_layBelow : GoodIn wsX2_layRanges wsX2_layBelow := goodIn_r _ [10, 4, 5, 11, 12, 13, 9, 14, 15, 16, 17, 18, 19, 20, 21, 22, 23, 24, 25] rfl (by decide +kernel)
set_option maxRecDepth 20000 in
theorem gX2_layRanges_X2_layBelow : GoodIn wsX2_layRanges (wsV RX2 53 RX2 yX2_layBelow wsX2_layBelow) := goodIn_app (goodIn_r _ [6, 7, 8, 9] rfl (by decide +kernel)) ggX2_layRanges_X2_layBelow
def dt_cX2_layRanges_0 : List (Nat × Nat × Nat × Nat) := [(0, 42, 0, 0), (1, 42, 0, 0), (2, 180, 2, 40), (5, 180, 2, 44), (8, 154, 2, 7), (11, 3, 0, 0), (12, 167, 2, 14), (15, 5, 0, 0), (16, 42, 0, 0), (17, 180, 2, 40), (20, 180, 2, 44), (23, 104, 0, 0), (24, 4, 0, 0), (25, 100, 0, 0), (26, 181, 2, 50), (29, 42, 0, 0), (30, 180, 2, 18), (33, 3, 0, 0), (34, 3, 0, 0), (35, 79, 0, 0)]
theorem da_cX2_layRanges_0 : fw dt_cX2_layRanges_0 0 cX2_layRanges.data.toList = true := by decide +kernel
theorem dX2_layRanges_0 : decode cX2_layRanges 0 = .ok (.aload_n 0, 1) := fo_42 (fw_get da_cX2_layRanges_0 0 rfl)
theorem dX2_layRanges_1 : decode cX2_layRanges 1 = .ok (.aload_n 0, 1) := fo_42 (fw_get da_cX2_layRanges_0 1 rfl)
theorem dX2_layRanges_2 : decode cX2_layRanges 2 = .ok (.getfield 40, 3) := fo_180 (fw_get da_cX2_layRanges_0 2 rfl)
theorem dX2_layRanges_5 : decode cX2_layRanges 5 = .ok (.getfield 44, 3) := fo_180 (fw_get da_cX2_layRanges_0 3 rfl)
theorem dX2_layRanges_8 : decode cX2_layRanges 8 = .ok (.ifCond .ne 7, 3) := fo_154 (fw_get da_cX2_layRanges_0 4 rfl) (by decide +kernel)
theorem dX2_layRanges_11 : decode cX2_layRanges 11 = .ok (.iconst 0, 1) := fo_3 (fw_get da_cX2_layRanges_0 5 rfl)
theorem dX2_layRanges_12 : decode cX2_layRanges 12 = .ok (.goto 14, 3) := fo_167 (fw_get da_cX2_layRanges_0 6 rfl) (by decide +kernel)
theorem dX2_layRanges_15 : decode cX2_layRanges 15 = .ok (.iconst 2, 1) := fo_5 (fw_get da_cX2_layRanges_0 7 rfl)
theorem dX2_layRanges_16 : decode cX2_layRanges 16 = .ok (.aload_n 0, 1) := fo_42 (fw_get da_cX2_layRanges_0 8 rfl)
theorem dX2_layRanges_17 : decode cX2_layRanges 17 = .ok (.getfield 40, 3) := fo_180 (fw_get da_cX2_layRanges_0 9 rfl)
theorem dX2_layRanges_20 : decode cX2_layRanges 20 = .ok (.getfield 44, 3) := fo_180 (fw_get da_cX2_layRanges_0 10 rfl)
theorem dX2_layRanges_23 : decode cX2_layRanges 23 = .ok (.imul, 1) := fo_104 (fw_get da_cX2_layRanges_0 11 rfl)
theorem dX2_layRanges_24 : decode cX2_layRanges 24 = .ok (.iconst 1, 1) := fo_4 (fw_get da_cX2_layRanges_0 12 rfl)
theorem dX2_layRanges_25 : decode cX2_layRanges 25 = .ok (.isub, 1) := fo_100 (fw_get da_cX2_layRanges_0 13 rfl)
theorem dX2_layRanges_26 : decode cX2_layRanges 26 = .ok (.putfield 50, 3) := fo_181 (fw_get da_cX2_layRanges_0 14 rfl)
theorem dX2_layRanges_29 : decode cX2_layRanges 29 = .ok (.aload_n 0, 1) := fo_42 (fw_get da_cX2_layRanges_0 15 rfl)
theorem dX2_layRanges_30 : decode cX2_layRanges 30 = .ok (.getfield 18, 3) := fo_180 (fw_get da_cX2_layRanges_0 16 rfl)
theorem dX2_layRanges_33 : decode cX2_layRanges 33 = .ok (.iconst 0, 1) := fo_3 (fw_get da_cX2_layRanges_0 17 rfl)
theorem dX2_layRanges_34 : decode cX2_layRanges 34 = .ok (.iconst 0, 1) := fo_3 (fw_get da_cX2_layRanges_0 18 rfl)
theorem dX2_layRanges_35 : decode cX2_layRanges 35 = .ok (.iastore, 1) := fo_79 (fw_get da_cX2_layRanges_0 19 rfl)
def dt_cX2_layRanges_1 : List (Nat × Nat × Nat × Nat) := [(36, 42, 0, 0), (37, 180, 2, 22), (40, 3, 0, 0), (41, 42, 0, 0), (42, 180, 2, 40), (45, 180, 2, 44), (48, 79, 0, 0), (49, 3, 0, 0), (50, 60, 0, 0), (51, 27, 0, 0), (52, 42, 0, 0), (53, 180, 2, 50), (56, 162, 2, 31), (59, 42, 0, 0), (60, 180, 2, 22), (63, 27, 0, 0), (64, 46, 0, 0), (65, 42, 0, 0), (66, 180, 2, 18), (69, 27, 0, 0)]
theorem da_cX2_layRanges_1 : fw dt_cX2_layRanges_1 0 cX2_layRanges.data.toList = true := by decide +kernel
theorem dX2_layRanges_36 : decode cX2_layRanges 36 = .ok (.aload_n 0, 1) := fo_42 (fw_get da_cX2_layRanges_1 0 rfl)
theorem dX2_layRanges_37 : decode cX2_layRanges 37 = .ok (.getfield 22, 3) := fo_180 (fw_get da_cX2_layRanges_1 1 rfl)
theorem dX2_layRanges_40 : decode cX2_layRanges 40 = .ok (.iconst 0, 1) := fo_3 (fw_get da_cX2_layRanges_1 2 rfl)
theorem dX2_layRanges_41 : decode cX2_layRanges 41 = .ok (.aload_n 0, 1) := fo_42 (fw_get da_cX2_layRanges_1 3 rfl)
theorem dX2_layRanges_42 : decode cX2_layRanges 42 = .ok (.getfield 40, 3) := fo_180 (fw_get da_cX2_layRanges_1 4 rfl)
theorem dX2_layRanges_45 : decode cX2_layRanges 45 = .ok (.getfield 44, 3) := fo_180 (fw_get da_cX2_layRanges_1 5 rfl)
theorem dX2_layRanges_48 : decode cX2_layRanges 48 = .ok (.iastore, 1) := fo_79 (fw_get da_cX2_layRanges_1 6 rfl)
theorem dX2_layRanges_49 : decode cX2_layRanges 49 = .ok (.iconst 0, 1) := fo_3 (fw_get da_cX2_layRanges_1 7 rfl)
theorem dX2_layRanges_50 : decode cX2_layRanges 50 = .ok (.istore_n 1, 1) := fo_60 (fw_get da_cX2_layRanges_1 8 rfl)
theorem dX2_layRanges_51 : decode cX2_layRanges 51 = .ok (.iload_n 1, 1) := fo_27 (fw_get da_cX2_layRanges_1 9 rfl)
theorem dX2_layRanges_52 : decode cX2_layRanges 52 = .ok (.aload_n 0, 1) := fo_42 (fw_get da_cX2_layRanges_1 10 rfl)
theorem dX2_layRanges_53 : decode cX2_layRanges 53 = .ok (.getfield 50, 3) := fo_180 (fw_get da_cX2_layRanges_1 11 rfl)
theorem dX2_layRanges_56 : decode cX2_layRanges 56 = .ok (.if_icmp .ge 31, 3) := fo_162 (fw_get da_cX2_layRanges_1 12 rfl) (by decide +kernel)
theorem dX2_layRanges_59 : decode cX2_layRanges 59 = .ok (.aload_n 0, 1) := fo_42 (fw_get da_cX2_layRanges_1 13 rfl)
theorem dX2_layRanges_60 : decode cX2_layRanges 60 = .ok (.getfield 22, 3) := fo_180 (fw_get da_cX2_layRanges_1 14 rfl)
theorem dX2_layRanges_63 : decode cX2_layRanges 63 = .ok (.iload_n 1, 1) := fo_27 (fw_get da_cX2_layRanges_1 15 rfl)
theorem dX2_layRanges_64 : decode cX2_layRanges 64 = .ok (.iaload, 1) := fo_46 (fw_get da_cX2_layRanges_1 16 rfl)
theorem dX2_layRanges_65 : decode cX2_layRanges 65 = .ok (.aload_n 0, 1) := fo_42 (fw_get da_cX2_layRanges_1 17 rfl)
theorem dX2_layRanges_66 : decode cX2_layRanges 66 = .ok (.getfield 18, 3) := fo_180 (fw_get da_cX2_layRanges_1 18 rfl)
theorem dX2_layRanges_69 : decode cX2_layRanges 69 = .ok (.iload_n 1, 1) := fo_27 (fw_get da_cX2_layRanges_1 19 rfl)
def dt_cX2_layRanges_2 : List (Nat × Nat × Nat × Nat) := [(70, 46, 0, 0), (71, 100, 0, 0), (72, 4, 0, 0), (73, 164, 2, 8), (76, 42, 0, 0), (77, 27, 0, 0), (78, 182, 2, 53), (81, 132, 2, 257), (84, 167, 2, 65503), (87, 177, 0, 0)]
theorem da_cX2_layRanges_2 : fw dt_cX2_layRanges_2 0 cX2_layRanges.data.toList = true := by decide +kernel
theorem dX2_layRanges_70 : decode cX2_layRanges 70 = .ok (.iaload, 1) := fo_46 (fw_get da_cX2_layRanges_2 0 rfl)
theorem dX2_layRanges_71 : decode cX2_layRanges 71 = .ok (.isub, 1) := fo_100 (fw_get da_cX2_layRanges_2 1 rfl)
theorem dX2_layRanges_72 : decode cX2_layRanges 72 = .ok (.iconst 1, 1) := fo_4 (fw_get da_cX2_layRanges_2 2 rfl)
theorem dX2_layRanges_73 : decode cX2_layRanges 73 = .ok (.if_icmp .le 8, 3) := fo_164 (fw_get da_cX2_layRanges_2 3 rfl) (by decide +kernel)
theorem dX2_layRanges_76 : decode cX2_layRanges 76 = .ok (.aload_n 0, 1) := fo_42 (fw_get da_cX2_layRanges_2 4 rfl)
theorem dX2_layRanges_77 : decode cX2_layRanges 77 = .ok (.iload_n 1, 1) := fo_27 (fw_get da_cX2_layRanges_2 5 rfl)
theorem dX2_layRanges_78 : decode cX2_layRanges 78 = .ok (.invokevirtual 53, 3) := fo_182 (fw_get da_cX2_layRanges_2 6 rfl)
theorem dX2_layRanges_81 : decode cX2_layRanges 81 = .ok (.iinc 1 1, 3) := fo_132 (fw_get da_cX2_layRanges_2 7 rfl) rfl (by decide +kernel)
theorem dX2_layRanges_84 : decode cX2_layRanges 84 = .ok (.goto (-33), 3) := fo_167 (fw_get da_cX2_layRanges_2 8 rfl) (by decide +kernel)
theorem dX2_layRanges_87 : decode cX2_layRanges 87 = .ok (.return_, 1) := fo_177 (fw_get da_cX2_layRanges_2 9 rfl)
set_option maxRecDepth 20000 in
theorem ggX2_layBelow_X2_rightBelow : GoodIn wsX2_layBelow wsX2_rightBelow := goodIn_r _ [7, 1, 2, 8, 9, 10, 11, 12, 13, 14, 15, 16, 17, 18] rfl (by decide +kernel)
set_option maxRecDepth 20000 in
theorem gX2_layBelow_X2_rightBelow : GoodIn wsX2_layBelow (wsV RX2 57 RX2 yX2_rightBelow wsX2_rightBelow) := goodIn_app (goodIn_r _ [3, 4, 5, 6] rfl (by decide +kernel)) ggX2_layBelow_X2_rightBelow
def dt_cX2_layBelow_0 : List (Nat × Nat × Nat × Nat) := [(0, 42, 0, 0), (1, 180, 2, 18), (4, 27, 0, 0), (5, 46, 0, 0), (6, 42, 0, 0), (7, 180, 2, 22), (10, 27, 0, 0), (11, 46, 0, 0), (12, 96, 0, 0), (13, 5, 0, 0), (14, 108, 0, 0), (15, 61, 0, 0), (16, 42, 0, 0), (17, 27, 0, 0), (18, 182, 2, 57), (21, 62, 0, 0), (22, 42, 0, 0), (23, 180, 2, 18), (26, 27, 0, 0), (27, 4, 0, 0)]
theorem da_cX2_layBelow_0 : fw dt_cX2_layBelow_0 0 cX2_layBelow.data.toList = true := by decide +kernel
theorem dX2_layBelow_0 : decode cX2_layBelow 0 = .ok (.aload_n 0, 1) := fo_42 (fw_get da_cX2_layBelow_0 0 rfl)
theorem dX2_layBelow_1 : decode cX2_layBelow 1 = .ok (.getfield 18, 3) := fo_180 (fw_get da_cX2_layBelow_0 1 rfl)
theorem dX2_layBelow_4 : decode cX2_layBelow 4 = .ok (.iload_n 1, 1) := fo_27 (fw_get da_cX2_layBelow_0 2 rfl)
theorem dX2_layBelow_5 : decode cX2_layBelow 5 = .ok (.iaload, 1) := fo_46 (fw_get da_cX2_layBelow_0 3 rfl)
theorem dX2_layBelow_6 : decode cX2_layBelow 6 = .ok (.aload_n 0, 1) := fo_42 (fw_get da_cX2_layBelow_0 4 rfl)
theorem dX2_layBelow_7 : decode cX2_layBelow 7 = .ok (.getfield 22, 3) := fo_180 (fw_get da_cX2_layBelow_0 5 rfl)
theorem dX2_layBelow_10 : decode cX2_layBelow 10 = .ok (.iload_n 1, 1) := fo_27 (fw_get da_cX2_layBelow_0 6 rfl)
theorem dX2_layBelow_11 : decode cX2_layBelow 11 = .ok (.iaload, 1) := fo_46 (fw_get da_cX2_layBelow_0 7 rfl)
theorem dX2_layBelow_12 : decode cX2_layBelow 12 = .ok (.iadd, 1) := fo_96 (fw_get da_cX2_layBelow_0 8 rfl)
theorem dX2_layBelow_13 : decode cX2_layBelow 13 = .ok (.iconst 2, 1) := fo_5 (fw_get da_cX2_layBelow_0 9 rfl)
theorem dX2_layBelow_14 : decode cX2_layBelow 14 = .ok (.idiv, 1) := fo_108 (fw_get da_cX2_layBelow_0 10 rfl)
theorem dX2_layBelow_15 : decode cX2_layBelow 15 = .ok (.istore_n 2, 1) := fo_61 (fw_get da_cX2_layBelow_0 11 rfl)
theorem dX2_layBelow_16 : decode cX2_layBelow 16 = .ok (.aload_n 0, 1) := fo_42 (fw_get da_cX2_layBelow_0 12 rfl)
theorem dX2_layBelow_17 : decode cX2_layBelow 17 = .ok (.iload_n 1, 1) := fo_27 (fw_get da_cX2_layBelow_0 13 rfl)
theorem dX2_layBelow_18 : decode cX2_layBelow 18 = .ok (.invokevirtual 57, 3) := fo_182 (fw_get da_cX2_layBelow_0 14 rfl)
theorem dX2_layBelow_21 : decode cX2_layBelow 21 = .ok (.istore_n 3, 1) := fo_62 (fw_get da_cX2_layBelow_0 15 rfl)
theorem dX2_layBelow_22 : decode cX2_layBelow 22 = .ok (.aload_n 0, 1) := fo_42 (fw_get da_cX2_layBelow_0 16 rfl)
theorem dX2_layBelow_23 : decode cX2_layBelow 23 = .ok (.getfield 18, 3) := fo_180 (fw_get da_cX2_layBelow_0 17 rfl)
theorem dX2_layBelow_26 : decode cX2_layBelow 26 = .ok (.iload_n 1, 1) := fo_27 (fw_get da_cX2_layBelow_0 18 rfl)
theorem dX2_layBelow_27 : decode cX2_layBelow 27 = .ok (.iconst 1, 1) := fo_4 (fw_get da_cX2_layBelow_0 19 rfl)
def dt_cX2_layBelow_1 : List (Nat × Nat × Nat × Nat) := [(28, 96, 0, 0), (29, 42, 0, 0), (30, 180, 2, 18), (33, 27, 0, 0), (34, 46, 0, 0), (35, 79, 0, 0), (36, 42, 0, 0), (37, 180, 2, 22), (40, 27, 0, 0), (41, 4, 0, 0), (42, 96, 0, 0), (43, 28, 0, 0), (44, 79, 0, 0), (45, 42, 0, 0), (46, 180, 2, 18), (49, 29, 0, 0), (50, 28, 0, 0), (51, 79, 0, 0), (52, 42, 0, 0), (53, 180, 2, 22)]
theorem da_cX2_layBelow_1 : fw dt_cX2_layBelow_1 0 cX2_layBelow.data.toList = true := by decide +kernel
theorem dX2_layBelow_28 : decode cX2_layBelow 28 = .ok (.iadd, 1) := fo_96 (fw_get da_cX2_layBelow_1 0 rfl)
theorem dX2_layBelow_29 : decode cX2_layBelow 29 = .ok (.aload_n 0, 1) := fo_42 (fw_get da_cX2_layBelow_1 1 rfl)
theorem dX2_layBelow_30 : decode cX2_layBelow 30 = .ok (.getfield 18, 3) := fo_180 (fw_get da_cX2_layBelow_1 2 rfl)
theorem dX2_layBelow_33 : decode cX2_layBelow 33 = .ok (.iload_n 1, 1) := fo_27 (fw_get da_cX2_layBelow_1 3 rfl)
theorem dX2_layBelow_34 : decode cX2_layBelow 34 = .ok (.iaload, 1) := fo_46 (fw_get da_cX2_layBelow_1 4 rfl)
theorem dX2_layBelow_35 : decode cX2_layBelow 35 = .ok (.iastore, 1) := fo_79 (fw_get da_cX2_layBelow_1 5 rfl)
theorem dX2_layBelow_36 : decode cX2_layBelow 36 = .ok (.aload_n 0, 1) := fo_42 (fw_get da_cX2_layBelow_1 6 rfl)
theorem dX2_layBelow_37 : decode cX2_layBelow 37 = .ok (.getfield 22, 3) := fo_180 (fw_get da_cX2_layBelow_1 7 rfl)
theorem dX2_layBelow_40 : decode cX2_layBelow 40 = .ok (.iload_n 1, 1) := fo_27 (fw_get da_cX2_layBelow_1 8 rfl)
theorem dX2_layBelow_41 : decode cX2_layBelow 41 = .ok (.iconst 1, 1) := fo_4 (fw_get da_cX2_layBelow_1 9 rfl)
theorem dX2_layBelow_42 : decode cX2_layBelow 42 = .ok (.iadd, 1) := fo_96 (fw_get da_cX2_layBelow_1 10 rfl)
theorem dX2_layBelow_43 : decode cX2_layBelow 43 = .ok (.iload_n 2, 1) := fo_28 (fw_get da_cX2_layBelow_1 11 rfl)
theorem dX2_layBelow_44 : decode cX2_layBelow 44 = .ok (.iastore, 1) := fo_79 (fw_get da_cX2_layBelow_1 12 rfl)
theorem dX2_layBelow_45 : decode cX2_layBelow 45 = .ok (.aload_n 0, 1) := fo_42 (fw_get da_cX2_layBelow_1 13 rfl)
theorem dX2_layBelow_46 : decode cX2_layBelow 46 = .ok (.getfield 18, 3) := fo_180 (fw_get da_cX2_layBelow_1 14 rfl)
theorem dX2_layBelow_49 : decode cX2_layBelow 49 = .ok (.iload_n 3, 1) := fo_29 (fw_get da_cX2_layBelow_1 15 rfl)
theorem dX2_layBelow_50 : decode cX2_layBelow 50 = .ok (.iload_n 2, 1) := fo_28 (fw_get da_cX2_layBelow_1 16 rfl)
theorem dX2_layBelow_51 : decode cX2_layBelow 51 = .ok (.iastore, 1) := fo_79 (fw_get da_cX2_layBelow_1 17 rfl)
theorem dX2_layBelow_52 : decode cX2_layBelow 52 = .ok (.aload_n 0, 1) := fo_42 (fw_get da_cX2_layBelow_1 18 rfl)
theorem dX2_layBelow_53 : decode cX2_layBelow 53 = .ok (.getfield 22, 3) := fo_180 (fw_get da_cX2_layBelow_1 19 rfl)
def dt_cX2_layBelow_2 : List (Nat × Nat × Nat × Nat) := [(56, 29, 0, 0), (57, 42, 0, 0), (58, 180, 2, 22), (61, 27, 0, 0), (62, 46, 0, 0), (63, 79, 0, 0), (64, 177, 0, 0)]
theorem da_cX2_layBelow_2 : fw dt_cX2_layBelow_2 0 cX2_layBelow.data.toList = true := by decide +kernel
theorem dX2_layBelow_56 : decode cX2_layBelow 56 = .ok (.iload_n 3, 1) := fo_29 (fw_get da_cX2_layBelow_2 0 rfl)
theorem dX2_layBelow_57 : decode cX2_layBelow 57 = .ok (.aload_n 0, 1) := fo_42 (fw_get da_cX2_layBelow_2 1 rfl)
theorem dX2_layBelow_58 : decode cX2_layBelow 58 = .ok (.getfield 22, 3) := fo_180 (fw_get da_cX2_layBelow_2 2 rfl)
theorem dX2_layBelow_61 : decode cX2_layBelow 61 = .ok (.iload_n 1, 1) := fo_27 (fw_get da_cX2_layBelow_2 3 rfl)
theorem dX2_layBelow_62 : decode cX2_layBelow 62 = .ok (.iaload, 1) := fo_46 (fw_get da_cX2_layBelow_2 4 rfl)
theorem dX2_layBelow_63 : decode cX2_layBelow 63 = .ok (.iastore, 1) := fo_79 (fw_get da_cX2_layBelow_2 5 rfl)
theorem dX2_layBelow_64 : decode cX2_layBelow 64 = .ok (.return_, 1) := fo_177 (fw_get da_cX2_layBelow_2 6 rfl)
def dt_cX2_rightBelow_0 : List (Nat × Nat × Nat × Nat) := [(0, 42, 0, 0), (1, 180, 2, 18), (4, 27, 0, 0), (5, 46, 0, 0), (6, 42, 0, 0), (7, 180, 2, 22), (10, 27, 0, 0), (11, 46, 0, 0), (12, 96, 0, 0), (13, 5, 0, 0), (14, 108, 0, 0), (15, 61, 0, 0), (16, 27, 0, 0), (17, 5, 0, 0), (18, 28, 0, 0), (19, 42, 0, 0), (20, 180, 2, 18), (23, 27, 0, 0), (24, 46, 0, 0), (25, 100, 0, 0)]
theorem da_cX2_rightBelow_0 : fw dt_cX2_rightBelow_0 0 cX2_rightBelow.data.toList = true := by decide +kernel
theorem dX2_rightBelow_0 : decode cX2_rightBelow 0 = .ok (.aload_n 0, 1) := fo_42 (fw_get da_cX2_rightBelow_0 0 rfl)
theorem dX2_rightBelow_1 : decode cX2_rightBelow 1 = .ok (.getfield 18, 3) := fo_180 (fw_get da_cX2_rightBelow_0 1 rfl)
theorem dX2_rightBelow_4 : decode cX2_rightBelow 4 = .ok (.iload_n 1, 1) := fo_27 (fw_get da_cX2_rightBelow_0 2 rfl)
theorem dX2_rightBelow_5 : decode cX2_rightBelow 5 = .ok (.iaload, 1) := fo_46 (fw_get da_cX2_rightBelow_0 3 rfl)
theorem dX2_rightBelow_6 : decode cX2_rightBelow 6 = .ok (.aload_n 0, 1) := fo_42 (fw_get da_cX2_rightBelow_0 4 rfl)
theorem dX2_rightBelow_7 : decode cX2_rightBelow 7 = .ok (.getfield 22, 3) := fo_180 (fw_get da_cX2_rightBelow_0 5 rfl)
theorem dX2_rightBelow_10 : decode cX2_rightBelow 10 = .ok (.iload_n 1, 1) := fo_27 (fw_get da_cX2_rightBelow_0 6 rfl)
theorem dX2_rightBelow_11 : decode cX2_rightBelow 11 = .ok (.iaload, 1) := fo_46 (fw_get da_cX2_rightBelow_0 7 rfl)
theorem dX2_rightBelow_12 : decode cX2_rightBelow 12 = .ok (.iadd, 1) := fo_96 (fw_get da_cX2_rightBelow_0 8 rfl)
theorem dX2_rightBelow_13 : decode cX2_rightBelow 13 = .ok (.iconst 2, 1) := fo_5 (fw_get da_cX2_rightBelow_0 9 rfl)
theorem dX2_rightBelow_14 : decode cX2_rightBelow 14 = .ok (.idiv, 1) := fo_108 (fw_get da_cX2_rightBelow_0 10 rfl)
theorem dX2_rightBelow_15 : decode cX2_rightBelow 15 = .ok (.istore_n 2, 1) := fo_61 (fw_get da_cX2_rightBelow_0 11 rfl)
theorem dX2_rightBelow_16 : decode cX2_rightBelow 16 = .ok (.iload_n 1, 1) := fo_27 (fw_get da_cX2_rightBelow_0 12 rfl)
theorem dX2_rightBelow_17 : decode cX2_rightBelow 17 = .ok (.iconst 2, 1) := fo_5 (fw_get da_cX2_rightBelow_0 13 rfl)
theorem dX2_rightBelow_18 : decode cX2_rightBelow 18 = .ok (.iload_n 2, 1) := fo_28 (fw_get da_cX2_rightBelow_0 14 rfl)
theorem dX2_rightBelow_19 : decode cX2_rightBelow 19 = .ok (.aload_n 0, 1) := fo_42 (fw_get da_cX2_rightBelow_0 15 rfl)
theorem dX2_rightBelow_20 : decode cX2_rightBelow 20 = .ok (.getfield 18, 3) := fo_180 (fw_get da_cX2_rightBelow_0 16 rfl)
theorem dX2_rightBelow_23 : decode cX2_rightBelow 23 = .ok (.iload_n 1, 1) := fo_27 (fw_get da_cX2_rightBelow_0 17 rfl)
theorem dX2_rightBelow_24 : decode cX2_rightBelow 24 = .ok (.iaload, 1) := fo_46 (fw_get da_cX2_rightBelow_0 18 rfl)
theorem dX2_rightBelow_25 : decode cX2_rightBelow 25 = .ok (.isub, 1) := fo_100 (fw_get da_cX2_rightBelow_0 19 rfl)
def dt_cX2_rightBelow_1 : List (Nat × Nat × Nat × Nat) := [(26, 104, 0, 0), (27, 96, 0, 0), (28, 172, 0, 0)]
theorem da_cX2_rightBelow_1 : fw dt_cX2_rightBelow_1 0 cX2_rightBelow.data.toList = true := by decide +kernel
theorem dX2_rightBelow_26 : decode cX2_rightBelow 26 = .ok (.imul, 1) := fo_104 (fw_get da_cX2_rightBelow_1 0 rfl)
theorem dX2_rightBelow_27 : decode cX2_rightBelow 27 = .ok (.iadd, 1) := fo_96 (fw_get da_cX2_rightBelow_1 1 rfl)
theorem dX2_rightBelow_28 : decode cX2_rightBelow 28 = .ok (.ireturn, 1) := fo_172 (fw_get da_cX2_rightBelow_1 2 rfl)

