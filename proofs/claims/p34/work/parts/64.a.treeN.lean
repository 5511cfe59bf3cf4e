abbrev wsX20 : List Cond := u_ws RX2 TX2 11
theorem nmX2 : ∀ a, a < 11 → ∀ b, b < 11 → a ≠ b → (TX2 a).2.1 ≠ (TX2 b).2.1 := by decide +kernel
theorem tyX2_ok : ∀ k, k < 11 → parseFieldDescriptor (TX2 k).2.2.1 = some (tyX2 k) := by decide +kernel
abbrev cX2_layRanges : ByteArray := prog_4_method_2_code
def yX2_layRanges : MethodName := ⟨RX2, "layRanges", "()V"⟩
abbrev cX2_layBelow : ByteArray := prog_4_method_3_code
def yX2_layBelow : MethodName := ⟨RX2, "layBelow", "(I)V"⟩
abbrev cX2_rightBelow : ByteArray := prog_4_method_4_code
def yX2_rightBelow : MethodName := ⟨RX2, "rightBelow", "(I)I"⟩
def wsX2_rightBelow : List Cond := .code yX2_rightBelow cX2_rightBelow 3 (some .int) :: ([.fieldLink RX2 18 "MajorityIndex$Tree" "from" "[I", .fieldLink RX2 22 "MajorityIndex$Tree" "to" "[I"] ++ wsX20)
def wsX2_layBelow : List Cond := .code yX2_layBelow cX2_layBelow 4 none :: ([.fieldLink RX2 18 "MajorityIndex$Tree" "from" "[I", .fieldLink RX2 22 "MajorityIndex$Tree" "to" "[I", .methodLink RX2 57 yX2_rightBelow, .instanceMethod yX2_rightBelow, .selects RX2 yX2_rightBelow yX2_rightBelow, .initialized RX2, .code yX2_rightBelow cX2_rightBelow 3 (some .int)] ++ wsX20)
def wsX2_layRanges : List Cond := .code yX2_layRanges cX2_layRanges 2 none :: ([.fieldLink RX2 40 "MajorityIndex$Tree" "row" "LMajorityIndex$Row;", .fieldLink RX2 44 "MajorityIndex$Row" "length" "I", .fieldLink RX2 50 "MajorityIndex$Tree" "nodes" "I", .fieldLink RX2 18 "MajorityIndex$Tree" "from" "[I", .fieldLink RX2 22 "MajorityIndex$Tree" "to" "[I", .methodLink RX2 53 yX2_layBelow, .instanceMethod yX2_layBelow, .selects RX2 yX2_layBelow yX2_layBelow, .initialized RX2, .code yX2_layBelow cX2_layBelow 4 none, .methodLink RX2 57 yX2_rightBelow, .instanceMethod yX2_rightBelow, .selects RX2 yX2_rightBelow yX2_rightBelow, .code yX2_rightBelow cX2_rightBelow 3 (some .int)] ++ wsX20 ++ wsX00)
set_option maxRecDepth 20000 in
theorem ggX2_layRanges_X2_layBelow : GoodIn wsX2_layRanges wsX2_layBelow := goodIn_r _ [10, 4, 5, 11, 12, 13, 9, 14, 15, 16, 17, 18, 19, 20, 21, 22, 23, 24, 25] rfl (by decide +kernel)
set_option maxRecDepth 20000 in
theorem gX2_layRanges_X2_layBelow : GoodIn wsX2_layRanges (wsV RX2 53 RX2 yX2_layBelow wsX2_layBelow) := goodIn_app (goodIn_r _ [6, 7, 8, 9] rfl (by decide +kernel)) ggX2_layRanges_X2_layBelow
def dt_cX2_layRanges_0 : List (Nat × Nat × Nat × Nat) := [(0, 42, 0, 0), (1, 42, 0, 0), (2, 180, 2, 40), (5, 180, 2, 44), (8, 154, 2, 7), (11, 3, 0, 0), (12, 167, 2, 14), (15, 5, 0, 0), (16, 42, 0, 0), (17, 180, 2, 40), (20, 180, 2, 44), (23, 104, 0, 0), (24, 4, 0, 0), (25, 100, 0, 0), (26, 181, 2, 50), (29, 42, 0, 0), (30, 180, 2, 18), (33, 3, 0, 0), (34, 3, 0, 0), (35, 79, 0, 0)]
theorem da_cX2_layRanges_0 : fw dt_cX2_layRanges_0 0 cX2_layRanges.data.toList = true := by decide +kernel
theorem dX2_layRanges_0 : decode cX2_layRanges 0 = .ok (.aload_n 0, 1) := fo_42 (fw_get da_cX2_layRanges_0 0 rfl)
theorem dX2_layRanges_1 : decode cX2_layRanges 1 = .ok (.aload_n 0, 1) := fo_42 (fw_get da_cX2_layRanges_0 1 rfl)
theorem dX2_layRanges_2 : decode cX2_layRanges 2 = .ok (.getfield 40, 3) := fo_180 (fw_get da_cX2_layRanges_0 2 rfl)
theorem dX2_layRanges_5 : decode cX2_layRanges 5 = .ok (.getfield 44, 3) := fo_180 (fw_get da_cX2_layRanges_0 3 rfl)
theorem dX2_layRanges_8 : decode cX2_layRanges 8 = .ok (.ifCond .ne 7, 3) := fo_154 (fw_get da_cX2_layRanges_0 4 rfl) (by decide +kernel)
theorem dX2_layRanges_11 : decode cX2_layRanges 11 = .ok (.iconst 0, 1) := fo_3 (fw_get da_cX2_layRanges_0 5 rfl)
theorem dX2_layRanges_12 : decode cX2_layRanges 12 = .ok (.goto 14, 3) := fo_167 (fw_get da_cX2_layRanges_0 6 rfl) (by decide +kernel)
theorem dX2_layRanges_15 : decode cX2_layRanges 15 = .ok (.iconst 2, 1) := fo_5 (fw_get da_cX2_layRanges_0 7 rfl)
theorem dX2_layRanges_16 : decode cX2_layRanges 16 = .ok (.aload_n 0, 1) := fo_42 (fw_get da_cX2_layRanges_0 8 rfl)
theorem dX2_layRanges_17 : decode cX2_layRanges 17 = .ok (.getfield 40, 3) := fo_180 (fw_get da_cX2_layRanges_0 9 rfl)
theorem dX2_layRanges_20 : decode cX2_layRanges 20 = .ok (.getfield 44, 3) := fo_180 (fw_get da_cX2_layRanges_0 10 rfl)
theorem dX2_layRanges_23 : decode cX2_layRanges 23 = .ok (.imul, 1) := fo_104 (fw_get da_cX2_layRanges_0 11 rfl)
theorem dX2_layRanges_24 : decode cX2_layRanges 24 = .ok (.iconst 1, 1) := fo_4 (fw_get da_cX2_layRanges_0 12 rfl)
theorem dX2_layRanges_25 : decode cX2_layRanges 25 = .ok (.isub, 1) := fo_100 (fw_get da_cX2_layRanges_0 13 rfl)
theorem dX2_layRanges_26 : decode cX2_layRanges 26 = .ok (.putfield 50, 3) := fo_181 (fw_get da_cX2_layRanges_0 14 rfl)
theorem dX2_layRanges_29 : decode cX2_layRanges 29 = .ok (.aload_n 0, 1) := fo_42 (fw_get da_cX2_layRanges_0 15 rfl)
theorem dX2_layRanges_30 : decode cX2_layRanges 30 = .ok (.getfield 18, 3) := fo_180 (fw_get da_cX2_layRanges_0 16 rfl)
theorem dX2_layRanges_33 : decode cX2_layRanges 33 = .ok (.iconst 0, 1) := fo_3 (fw_get da_cX2_layRanges_0 17 rfl)
theorem dX2_layRanges_34 : decode cX2_layRanges 34 = .ok (.iconst 0, 1) := fo_3 (fw_get da_cX2_layRanges_0 18 rfl)
theorem dX2_layRanges_35 : decode cX2_layRanges 35 = .ok (.iastore, 1) := fo_79 (fw_get da_cX2_layRanges_0 19 rfl)
def dt_cX2_layRanges_1 : List (Nat × Nat × Nat × Nat) := [(36, 42, 0, 0), (37, 180, 2, 22), (40, 3, 0, 0), (41, 42, 0, 0), (42, 180, 2, 40), (45, 180, 2, 44), (48, 79, 0, 0), (49, 3, 0, 0), (50, 60, 0, 0), (51, 27, 0, 0), (52, 42, 0, 0), (53, 180, 2, 50), (56, 162, 2, 31), (59, 42, 0, 0), (60, 180, 2, 22), (63, 27, 0, 0), (64, 46, 0, 0), (65, 42, 0, 0), (66, 180, 2, 18), (69, 27, 0, 0)]
theorem da_cX2_layRanges_1 : fw dt_cX2_layRanges_1 0 cX2_layRanges.data.toList = true := by decide +kernel
theorem dX2_layRanges_36 : decode cX2_layRanges 36 = .ok (.aload_n 0, 1) := fo_42 (fw_get da_cX2_layRanges_1 0 rfl)
theorem dX2_layRanges_37 : decode cX2_layRanges 37 = .ok (.getfield 22, 3) := fo_180 (fw_get da_cX2_layRanges_1 1 rfl)
theorem dX2_layRanges_40 : decode cX2_layRanges 40 = .ok (.iconst 0, 1) := fo_3 (fw_get da_cX2_layRanges_1 2 rfl)
theorem dX2_layRanges_41 : decode cX2_layRanges 41 = .ok (.aload_n 0, 1) := fo_42 (fw_get da_cX2_layRanges_1 3 rfl)
theorem dX2_layRanges_42 : decode cX2_layRanges 42 = .ok (.getfield 40, 3) := fo_180 (fw_get da_cX2_layRanges_1 4 rfl)
theorem dX2_layRanges_45 : decode cX2_layRanges 45 = .ok (.getfield 44, 3) := fo_180 (fw_get da_cX2_layRanges_1 5 rfl)
theorem dX2_layRanges_48 : decode cX2_layRanges 48 = .ok (.iastore, 1) := fo_79 (fw_get da_cX2_layRanges_1 6 rfl)
theorem dX2_layRanges_49 : decode cX2_layRanges 49 = .ok (.iconst 0, 1) := fo_3 (fw_get da_cX2_layRanges_1 7 rfl)
theorem dX2_layRanges_50 : decode cX2_layRanges 50 = .ok (.istore_n 1, 1) := fo_60 (fw_get da_cX2_layRanges_1 8 rfl)
theorem dX2_layRanges_51 : decode cX2_layRanges 51 = .ok (.iload_n 1, 1) := fo_27 (fw_get da_cX2_layRanges_1 9 rfl)
theorem dX2_layRanges_52 : decode cX2_layRanges 52 = .ok (.aload_n 0, 1) := fo_42 (fw_get da_cX2_layRanges_1 10 rfl)
theorem dX2_layRanges_53 : decode cX2_layRanges 53 = .ok (.getfield 50, 3) := fo_180 (fw_get da_cX2_layRanges_1 11 rfl)
theorem dX2_layRanges_56 : decode cX2_layRanges 56 = .ok (.if_icmp .ge 31, 3) := fo_162 (fw_get da_cX2_layRanges_1 12 rfl) (by decide +kernel)
theorem dX2_layRanges_59 : decode cX2_layRanges 59 = .ok (.aload_n 0, 1) := fo_42 (fw_get da_cX2_layRanges_1 13 rfl)
theorem dX2_layRanges_60 : decode cX2_layRanges 60 = .ok (.getfield 22, 3) := fo_180 (fw_get da_cX2_layRanges_1 14 rfl)
theorem dX2_layRanges_63 : decode cX2_layRanges 63 = .ok (.iload_n 1, 1) := fo_27 (fw_get da_cX2_layRanges_1 15 rfl)
theorem dX2_layRanges_64 : decode cX2_layRanges 64 = .ok (.iaload, 1) := fo_46 (fw_get da_cX2_layRanges_1 16 rfl)
theorem dX2_layRanges_65 : decode cX2_layRanges 65 = .ok (.aload_n 0, 1) := fo_42 (fw_get da_cX2_layRanges_1 17 rfl)
theorem dX2_layRanges_66 : decode cX2_layRanges 66 = .ok (.getfield 18, 3) := fo_180 (fw_get da_cX2_layRanges_1 18 rfl)
theorem dX2_layRanges_69 : decode cX2_layRanges 69 = .ok (.iload_n 1, 1) := fo_27 (fw_get da_cX2_layRanges_1 19 rfl)
def dt_cX2_layRanges_2 : List (Nat × Nat × Nat × Nat) := [(70, 46, 0, 0), (71, 100, 0, 0), (72, 4, 0, 0), (73, 164, 2, 8), (76, 42, 0, 0), (77, 27, 0, 0), (78, 182, 2, 53), (81, 132, 2, 257), (84, 167, 2, 65503), (87, 177, 0, 0)]
theorem da_cX2_layRanges_2 : fw dt_cX2_layRanges_2 0 cX2_layRanges.data.toList = true := by decide +kernel
theorem dX2_layRanges_70 : decode cX2_layRanges 70 = .ok (.iaload, 1) := fo_46 (fw_get da_cX2_layRanges_2 0 rfl)
theorem dX2_layRanges_71 : decode cX2_layRanges 71 = .ok (.isub, 1) := fo_100 (fw_get da_cX2_layRanges_2 1 rfl)
theorem dX2_layRanges_72 : decode cX2_layRanges 72 = .ok (.iconst 1, 1) := fo_4 (fw_get da_cX2_layRanges_2 2 rfl)
theorem dX2_layRanges_73 : decode cX2_layRanges 73 = .ok (.if_icmp .le 8, 3) := fo_164 (fw_get da_cX2_layRanges_2 3 rfl) (by decide +kernel)
theorem dX2_layRanges_76 : decode cX2_layRanges 76 = .ok (.aload_n 0, 1) := fo_42 (fw_get da_cX2_layRanges_2 4 rfl)
theorem dX2_layRanges_77 : decode cX2_layRanges 77 = .ok (.iload_n 1, 1) := fo_27 (fw_get da_cX2_layRanges_2 5 rfl)
theorem dX2_layRanges_78 : decode cX2_layRanges 78 = .ok (.invokevirtual 53, 3) := fo_182 (fw_get da_cX2_layRanges_2 6 rfl)
theorem dX2_layRanges_81 : decode cX2_layRanges 81 = .ok (.iinc 1 1, 3) := fo_132 (fw_get da_cX2_layRanges_2 7 rfl) rfl (by decide +kernel)
theorem dX2_layRanges_84 : decode cX2_layRanges 84 = .ok (.goto (-33), 3) := fo_167 (fw_get da_cX2_layRanges_2 8 rfl) (by decide +kernel)
theorem dX2_layRanges_87 : decode cX2_layRanges 87 = .ok (.return_, 1) := fo_177 (fw_get da_cX2_layRanges_2 9 rfl)
set_option maxRecDepth 20000 in
theorem ggX2_layBelow_X2_rightBelow : GoodIn wsX2_layBelow wsX2_rightBelow := goodIn_r _ [7, 1, 2, 8, 9, 10, 11, 12, 13, 14, 15, 16, 17, 18] rfl (by decide +kernel)
set_option maxRecDepth 20000 in
theorem gX2_layBelow_X2_rightBelow : GoodIn wsX2_layBelow (wsV RX2 57 RX2 yX2_rightBelow wsX2_rightBelow) := goodIn_app (goodIn_r _ [3, 4, 5, 6] rfl (by decide +kernel)) ggX2_layBelow_X2_rightBelow
def dt_cX2_layBelow_0 : List (Nat × Nat × Nat × Nat) := [(0, 42, 0, 0), (1, 180, 2, 18), (4, 27, 0, 0), (5, 46, 0, 0), (6, 42, 0, 0), (7, 180, 2, 22), (10, 27, 0, 0), (11, 46, 0, 0), (12, 96, 0, 0), (13, 5, 0, 0), (14, 108, 0, 0), (15, 61, 0, 0), (16, 42, 0, 0), (17, 27, 0, 0), (18, 182, 2, 57), (21, 62, 0, 0), (22, 42, 0, 0), (23, 180, 2, 18), (26, 27, 0, 0), (27, 4, 0, 0)]
theorem da_cX2_layBelow_0 : fw dt_cX2_layBelow_0 0 cX2_layBelow.data.toList = true := by decide +kernel
theorem dX2_layBelow_0 : decode cX2_layBelow 0 = .ok (.aload_n 0, 1) := fo_42 (fw_get da_cX2_layBelow_0 0 rfl)
theorem dX2_layBelow_1 : decode cX2_layBelow 1 = .ok (.getfield 18, 3) := fo_180 (fw_get da_cX2_layBelow_0 1 rfl)
theorem dX2_layBelow_4 : decode cX2_layBelow 4 = .ok (.iload_n 1, 1) := fo_27 (fw_get da_cX2_layBelow_0 2 rfl)
theorem dX2_layBelow_5 : decode cX2_layBelow 5 = .ok (.iaload, 1) := fo_46 (fw_get da_cX2_layBelow_0 3 rfl)
theorem dX2_layBelow_6 : decode cX2_layBelow 6 = .ok (.aload_n 0, 1) := fo_42 (fw_get da_cX2_layBelow_0 4 rfl)
theorem dX2_layBelow_7 : decode cX2_layBelow 7 = .ok (.getfield 22, 3) := fo_180 (fw_get da_cX2_layBelow_0 5 rfl)
theorem dX2_layBelow_10 : decode cX2_layBelow 10 = .ok (.iload_n 1, 1) := fo_27 (fw_get da_cX2_layBelow_0 6 rfl)
theorem dX2_layBelow_11 : decode cX2_layBelow 11 = .ok (.iaload, 1) := fo_46 (fw_get da_cX2_layBelow_0 7 rfl)
theorem dX2_layBelow_12 : decode cX2_layBelow 12 = .ok (.iadd, 1) := fo_96 (fw_get da_cX2_layBelow_0 8 rfl)
theorem dX2_layBelow_13 : decode cX2_layBelow 13 = .ok (.iconst 2, 1) := fo_5 (fw_get da_cX2_layBelow_0 9 rfl)
theorem dX2_layBelow_14 : decode cX2_layBelow 14 = .ok (.idiv, 1) := fo_108 (fw_get da_cX2_layBelow_0 10 rfl)
theorem dX2_layBelow_15 : decode cX2_layBelow 15 = .ok (.istore_n 2, 1) := fo_61 (fw_get da_cX2_layBelow_0 11 rfl)
theorem dX2_layBelow_16 : decode cX2_layBelow 16 = .ok (.aload_n 0, 1) := fo_42 (fw_get da_cX2_layBelow_0 12 rfl)
theorem dX2_layBelow_17 : decode cX2_layBelow 17 = .ok (.iload_n 1, 1) := fo_27 (fw_get da_cX2_layBelow_0 13 rfl)
theorem dX2_layBelow_18 : decode cX2_layBelow 18 = .ok (.invokevirtual 57, 3) := fo_182 (fw_get da_cX2_layBelow_0 14 rfl)
theorem dX2_layBelow_21 : decode cX2_layBelow 21 = .ok (.istore_n 3, 1) := fo_62 (fw_get da_cX2_layBelow_0 15 rfl)
theorem dX2_layBelow_22 : decode cX2_layBelow 22 = .ok (.aload_n 0, 1) := fo_42 (fw_get da_cX2_layBelow_0 16 rfl)
theorem dX2_layBelow_23 : decode cX2_layBelow 23 = .ok (.getfield 18, 3) := fo_180 (fw_get da_cX2_layBelow_0 17 rfl)
theorem dX2_layBelow_26 : decode cX2_layBelow 26 = .ok (.iload_n 1, 1) := fo_27 (fw_get da_cX2_layBelow_0 18 rfl)
theorem dX2_layBelow_27 : decode cX2_layBelow 27 = .ok (.iconst 1, 1) := fo_4 (fw_get da_cX2_layBelow_0 19 rfl)
def dt_cX2_layBelow_1 : List (Nat × Nat × Nat × Nat) := [(28, 96, 0, 0), (29, 42, 0, 0), (30, 180, 2, 18), (33, 27, 0, 0), (34, 46, 0, 0), (35, 79, 0, 0), (36, 42, 0, 0), (37, 180, 2, 22), (40, 27, 0, 0), (41, 4, 0, 0), (42, 96, 0, 0), (43, 28, 0, 0), (44, 79, 0, 0), (45, 42, 0, 0), (46, 180, 2, 18), (49, 29, 0, 0), (50, 28, 0, 0), (51, 79, 0, 0), (52, 42, 0, 0), (53, 180, 2, 22)]
theorem da_cX2_layBelow_1 : fw dt_cX2_layBelow_1 0 cX2_layBelow.data.toList = true := by decide +kernel
theorem dX2_layBelow_28 : decode cX2_layBelow 28 = .ok (.iadd, 1) := fo_96 (fw_get da_cX2_layBelow_1 0 rfl)
theorem dX2_layBelow_29 : decode cX2_layBelow 29 = .ok (.aload_n 0, 1) := fo_42 (fw_get da_cX2_layBelow_1 1 rfl)
theorem dX2_layBelow_30 : decode cX2_layBelow 30 = .ok (.getfield 18, 3) := fo_180 (fw_get da_cX2_layBelow_1 2 rfl)
theorem dX2_layBelow_33 : decode cX2_layBelow 33 = .ok (.iload_n 1, 1) := fo_27 (fw_get da_cX2_layBelow_1 3 rfl)
theorem dX2_layBelow_34 : decode cX2_layBelow 34 = .ok (.iaload, 1) := fo_46 (fw_get da_cX2_layBelow_1 4 rfl)
theorem dX2_layBelow_35 : decode cX2_layBelow 35 = .ok (.iastore, 1) := fo_79 (fw_get da_cX2_layBelow_1 5 rfl)
theorem dX2_layBelow_36 : decode cX2_layBelow 36 = .ok (.aload_n 0, 1) := fo_42 (fw_get da_cX2_layBelow_1 6 rfl)
theorem dX2_layBelow_37 : decode cX2_layBelow 37 = .ok (.getfield 22, 3) := fo_180 (fw_get da_cX2_layBelow_1 7 rfl)
theorem dX2_layBelow_40 : decode cX2_layBelow 40 = .ok (.iload_n 1, 1) := fo_27 (fw_get da_cX2_layBelow_1 8 rfl)
theorem dX2_layBelow_41 : decode cX2_layBelow 41 = .ok (.iconst 1, 1) := fo_4 (fw_get da_cX2_layBelow_1 9 rfl)
theorem dX2_layBelow_42 : decode cX2_layBelow 42 = .ok (.iadd, 1) := fo_96 (fw_get da_cX2_layBelow_1 10 rfl)
theorem dX2_layBelow_43 : decode cX2_layBelow 43 = .ok (.iload_n 2, 1) := fo_28 (fw_get da_cX2_layBelow_1 11 rfl)
theorem dX2_layBelow_44 : decode cX2_layBelow 44 = .ok (.iastore, 1) := fo_79 (fw_get da_cX2_layBelow_1 12 rfl)
theorem dX2_layBelow_45 : decode cX2_layBelow 45 = .ok (.aload_n 0, 1) := fo_42 (fw_get da_cX2_layBelow_1 13 rfl)
theorem dX2_layBelow_46 : decode cX2_layBelow 46 = .ok (.getfield 18, 3) := fo_180 (fw_get da_cX2_layBelow_1 14 rfl)
theorem dX2_layBelow_49 : decode cX2_layBelow 49 = .ok (.iload_n 3, 1) := fo_29 (fw_get da_cX2_layBelow_1 15 rfl)
theorem dX2_layBelow_50 : decode cX2_layBelow 50 = .ok (.iload_n 2, 1) := fo_28 (fw_get da_cX2_layBelow_1 16 rfl)
theorem dX2_layBelow_51 : decode cX2_layBelow 51 = .ok (.iastore, 1) := fo_79 (fw_get da_cX2_layBelow_1 17 rfl)
theorem dX2_layBelow_52 : decode cX2_layBelow 52 = .ok (.aload_n 0, 1) := fo_42 (fw_get da_cX2_layBelow_1 18 rfl)
theorem dX2_layBelow_53 : decode cX2_layBelow 53 = .ok (.getfield 22, 3) := fo_180 (fw_get da_cX2_layBelow_1 19 rfl)
def dt_cX2_layBelow_2 : List (Nat × Nat × Nat × Nat) := [(56, 29, 0, 0), (57, 42, 0, 0), (58, 180, 2, 22), (61, 27, 0, 0), (62, 46, 0, 0), (63, 79, 0, 0), (64, 177, 0, 0)]
theorem da_cX2_layBelow_2 : fw dt_cX2_layBelow_2 0 cX2_layBelow.data.toList = true := by decide +kernel
theorem dX2_layBelow_56 : decode cX2_layBelow 56 = .ok (.iload_n 3, 1) := fo_29 (fw_get da_cX2_layBelow_2 0 rfl)
theorem dX2_layBelow_57 : decode cX2_layBelow 57 = .ok (.aload_n 0, 1) := fo_42 (fw_get da_cX2_layBelow_2 1 rfl)
theorem dX2_layBelow_58 : decode cX2_layBelow 58 = .ok (.getfield 22, 3) := fo_180 (fw_get da_cX2_layBelow_2 2 rfl)
theorem dX2_layBelow_61 : decode cX2_layBelow 61 = .ok (.iload_n 1, 1) := fo_27 (fw_get da_cX2_layBelow_2 3 rfl)
theorem dX2_layBelow_62 : decode cX2_layBelow 62 = .ok (.iaload, 1) := fo_46 (fw_get da_cX2_layBelow_2 4 rfl)
theorem dX2_layBelow_63 : decode cX2_layBelow 63 = .ok (.iastore, 1) := fo_79 (fw_get da_cX2_layBelow_2 5 rfl)
theorem dX2_layBelow_64 : decode cX2_layBelow 64 = .ok (.return_, 1) := fo_177 (fw_get da_cX2_layBelow_2 6 rfl)
def dt_cX2_rightBelow_0 : List (Nat × Nat × Nat × Nat) := [(0, 42, 0, 0), (1, 180, 2, 18), (4, 27, 0, 0), (5, 46, 0, 0), (6, 42, 0, 0), (7, 180, 2, 22), (10, 27, 0, 0), (11, 46, 0, 0), (12, 96, 0, 0), (13, 5, 0, 0), (14, 108, 0, 0), (15, 61, 0, 0), (16, 27, 0, 0), (17, 5, 0, 0), (18, 28, 0, 0), (19, 42, 0, 0), (20, 180, 2, 18), (23, 27, 0, 0), (24, 46, 0, 0), (25, 100, 0, 0)]
theorem da_cX2_rightBelow_0 : fw dt_cX2_rightBelow_0 0 cX2_rightBelow.data.toList = true := by decide +kernel
theorem dX2_rightBelow_0 : decode cX2_rightBelow 0 = .ok (.aload_n 0, 1) := fo_42 (fw_get da_cX2_rightBelow_0 0 rfl)
theorem dX2_rightBelow_1 : decode cX2_rightBelow 1 = .ok (.getfield 18, 3) := fo_180 (fw_get da_cX2_rightBelow_0 1 rfl)
theorem dX2_rightBelow_4 : decode cX2_rightBelow 4 = .ok (.iload_n 1, 1) := fo_27 (fw_get da_cX2_rightBelow_0 2 rfl)
theorem dX2_rightBelow_5 : decode cX2_rightBelow 5 = .ok (.iaload, 1) := fo_46 (fw_get da_cX2_rightBelow_0 3 rfl)
theorem dX2_rightBelow_6 : decode cX2_rightBelow 6 = .ok (.aload_n 0, 1) := fo_42 (fw_get da_cX2_rightBelow_0 4 rfl)
theorem dX2_rightBelow_7 : decode cX2_rightBelow 7 = .ok (.getfield 22, 3) := fo_180 (fw_get da_cX2_rightBelow_0 5 rfl)
theorem dX2_rightBelow_10 : decode cX2_rightBelow 10 = .ok (.iload_n 1, 1) := fo_27 (fw_get da_cX2_rightBelow_0 6 rfl)
theorem dX2_rightBelow_11 : decode cX2_rightBelow 11 = .ok (.iaload, 1) := fo_46 (fw_get da_cX2_rightBelow_0 7 rfl)
theorem dX2_rightBelow_12 : decode cX2_rightBelow 12 = .ok (.iadd, 1) := fo_96 (fw_get da_cX2_rightBelow_0 8 rfl)
theorem dX2_rightBelow_13 : decode cX2_rightBelow 13 = .ok (.iconst 2, 1) := fo_5 (fw_get da_cX2_rightBelow_0 9 rfl)
theorem dX2_rightBelow_14 : decode cX2_rightBelow 14 = .ok (.idiv, 1) := fo_108 (fw_get da_cX2_rightBelow_0 10 rfl)
theorem dX2_rightBelow_15 : decode cX2_rightBelow 15 = .ok (.istore_n 2, 1) := fo_61 (fw_get da_cX2_rightBelow_0 11 rfl)
theorem dX2_rightBelow_16 : decode cX2_rightBelow 16 = .ok (.iload_n 1, 1) := fo_27 (fw_get da_cX2_rightBelow_0 12 rfl)
theorem dX2_rightBelow_17 : decode cX2_rightBelow 17 = .ok (.iconst 2, 1) := fo_5 (fw_get da_cX2_rightBelow_0 13 rfl)
theorem dX2_rightBelow_18 : decode cX2_rightBelow 18 = .ok (.iload_n 2, 1) := fo_28 (fw_get da_cX2_rightBelow_0 14 rfl)
theorem dX2_rightBelow_19 : decode cX2_rightBelow 19 = .ok (.aload_n 0, 1) := fo_42 (fw_get da_cX2_rightBelow_0 15 rfl)
theorem dX2_rightBelow_20 : decode cX2_rightBelow 20 = .ok (.getfield 18, 3) := fo_180 (fw_get da_cX2_rightBelow_0 16 rfl)
theorem dX2_rightBelow_23 : decode cX2_rightBelow 23 = .ok (.iload_n 1, 1) := fo_27 (fw_get da_cX2_rightBelow_0 17 rfl)
theorem dX2_rightBelow_24 : decode cX2_rightBelow 24 = .ok (.iaload, 1) := fo_46 (fw_get da_cX2_rightBelow_0 18 rfl)
theorem dX2_rightBelow_25 : decode cX2_rightBelow 25 = .ok (.isub, 1) := fo_100 (fw_get da_cX2_rightBelow_0 19 rfl)
def dt_cX2_rightBelow_1 : List (Nat × Nat × Nat × Nat) := [(26, 104, 0, 0), (27, 96, 0, 0), (28, 172, 0, 0)]
theorem da_cX2_rightBelow_1 : fw dt_cX2_rightBelow_1 0 cX2_rightBelow.data.toList = true := by decide +kernel
theorem dX2_rightBelow_26 : decode cX2_rightBelow 26 = .ok (.imul, 1) := fo_104 (fw_get da_cX2_rightBelow_1 0 rfl)
theorem dX2_rightBelow_27 : decode cX2_rightBelow 27 = .ok (.iadd, 1) := fo_96 (fw_get da_cX2_rightBelow_1 1 rfl)
theorem dX2_rightBelow_28 : decode cX2_rightBelow 28 = .ok (.ireturn, 1) := fo_172 (fw_get da_cX2_rightBelow_1 2 rfl)


def sixes (f : Nat → Int32) : Prop := ∀ k : Nat, k < 319 → 0 ≤ (f k).toInt ∧ (f k).toInt ≤ 6
theorem sixes_upd {f : Nat → Int32} {k : Nat} {x : Int32} (h : sixes f) (h1 : 0 ≤ x.toInt) (h2 : x.toInt ≤ 6) : sixes (upd f k x) := by
  intro j hj
  unfold upd
  split
  · exact ⟨h1, h2⟩
  · exact h j hj
def okAt (ff ft : Nat → Int32) (nd n : Int) (k : Nat) : Prop := 0 ≤ (ff k).toInt ∧ (ff k).toInt < (ft k).toInt ∧ (ft k).toInt ≤ n ∧ (k : Int) + 2 * ((ft k).toInt - (ff k).toInt) - 1 ≤ nd
def treeOk (ff ft : Nat → Int32) (nd n : Int) : Prop := ∀ k : Nat, (k : Int) < nd → okAt ff ft nd n k
def pend (ff ft : Nat → Int32) (nd n : Int) : Nat → Nat → Prop
  | 0, k => (k : Int) = nd
  | c + 1, k => okAt ff ft nd n k ∧ pend ff ft nd n c (k + (2 * ((ft k).toInt - (ff k).toInt) - 1).toNat)
theorem pend_congr {ff ft ff2 ft2 : Nat → Int32} {nd n : Int} : ∀ (c k : Nat), (∀ j : Nat, k ≤ j → ff2 j = ff j ∧ ft2 j = ft j) → pend ff ft nd n c k → pend ff2 ft2 nd n c k
  | 0, _, _, h => h
  | c + 1, k, hj, h => by
    obtain ⟨h1, h2⟩ := h
    have e := hj k (Nat.le_refl k)
    refine ⟨?_, ?_⟩
    · unfold okAt at h1 ⊢
      rw [e.1, e.2]
      exact h1
    · rw [e.1, e.2]
      exact pend_congr c _ (fun j h => hj j (by omega)) h2
theorem pend_split {ff ft ff2 ft2 : Nat → Int32} {nd n : Int} {c k r : Nat} {md fk tk : Int32} (h : pend ff ft nd n (c + 1) k) (hf : fk = ff k) (ht : tk = ft k) (hw : 2 ≤ tk.toInt - fk.toInt) (hm : md.toInt = (fk.toInt + tk.toInt) / 2) (hr : (r : Int) = (k : Int) + 2 * (md.toInt - fk.toInt))
    (e1 : ff2 = upd (upd ff (k + 1) fk) r md) (e2 : ft2 = upd (upd ft (k + 1) md) r tk) : pend ff2 ft2 nd n (c + 2) (k + 1) ∧ ∀ j : Nat, j ≤ k → okAt ff ft nd n j → okAt ff2 ft2 nd n j := by
  subst hf; subst ht; subst e1; subst e2
  obtain ⟨h1, h2⟩ := h
  unfold okAt at h1
  have ne : r ≠ k + 1 := by omega
  have a1 : upd (upd ff (k + 1) (ff k)) r md (k + 1) = ff k := by unfold upd; rw [if_neg (Ne.symm ne), if_pos rfl]
  have a2 : upd (upd ft (k + 1) md) r (ft k) (k + 1) = md := by unfold upd; rw [if_neg (Ne.symm ne), if_pos rfl]
  have b1 : upd (upd ff (k + 1) (ff k)) r md r = md := by unfold upd; rw [if_pos rfl]
  have b2 : upd (upd ft (k + 1) md) r (ft k) r = ft k := by unfold upd; rw [if_pos rfl]
  have oth1 : ∀ j : Nat, j ≠ r → j ≠ k + 1 → upd (upd ff (k + 1) (ff k)) r md j = ff j := fun j x y => by unfold upd; rw [if_neg x, if_neg y]
  have oth2 : ∀ j : Nat, j ≠ r → j ≠ k + 1 → upd (upd ft (k + 1) md) r (ft k) j = ft j := fun j x y => by unfold upd; rw [if_neg x, if_neg y]
  refine ⟨⟨?_, ?_⟩, ?_⟩
  · unfold okAt
    rw [a1, a2]
    omega
  · rw [a1, a2, show k + 1 + (2 * (md.toInt - (ff k).toInt) - 1).toNat = r by omega]
    refine ⟨?_, ?_⟩
    · unfold okAt
      rw [b1, b2]
      omega
    · rw [b1, b2, show r + (2 * ((ft k).toInt - md.toInt) - 1).toNat = k + (2 * ((ft k).toInt - (ff k).toInt) - 1).toNat by omega]
      exact pend_congr c _ (fun j hj => ⟨oth1 j (by omega) (by omega), oth2 j (by omega) (by omega)⟩) h2
  · intro j hj h
    unfold okAt at h ⊢
    rw [oth1 j (by omega) (by omega), oth2 j (by omega) (by omega)]
    exact h
theorem pend_leaf {ff ft : Nat → Int32} {nd n : Int} {c k : Nat} (h : pend ff ft nd n (c + 1) k) (hw : (ft k).toInt - (ff k).toInt ≤ 1) : pend ff ft nd n c (k + 1) := by
  obtain ⟨h1, h2⟩ := h
  unfold okAt at h1
  rw [show k + (2 * ((ft k).toInt - (ff k).toInt) - 1).toNat = k + 1 by omega] at h2
  exact h2

set_option maxHeartbeats 4000000 in
set_option maxRecDepth 100000 in
theorem c_X2_rightBelow (l : Launch) (dC : Nat → ClassId) (dI : Nat → Nat → Nat) (q_t : Nat) (q_row : Nat) (q_joined : Nat) (q_from : Nat) (q_to : Nat) (q_size : Nat) (q_lossOf : Nat) (q_lessBy : Nat) (q_value : Nat) (q_number : Nat) (nodes : Int32) (here : Int32) (cyI : ClassId) (ff : Nat → Int32) (ft : Nat → Int32) (p0 : Int32) (b0 : 0 ≤ p0.toInt) (b1 : p0.toInt < 319) (b2 : 0 ≤ (ff p0.toNatClampNeg).toInt) (b3 : (ff p0.toNatClampNeg).toInt < (ft p0.toNatClampNeg).toInt) (b4 : (ft p0.toNatClampNeg).toInt ≤ 160) : Met l yX2_rightBelow wsX2_rightBelow ({ frames := 0, cells := 0, slots := 0, locals := 0 }) (va_Pc [.ref q_t, .int p0] (fun U => va_P (dC, dI) vwCl [kx_2 q_t q_row q_joined q_from q_to q_size q_lossOf q_lessBy q_value q_number nodes here, kx_a q_from cyI 319 ff, kx_a q_to cyI 319 ft] U.heap ∧ va_K (dC, dI) vwCl [(cyI, .int)] U)) (vp_Si (fun r : Int32 => r.toInt = p0.toInt + 2 * (((ff p0.toNatClampNeg).toInt + (ft p0.toNatClampNeg).toInt) / 2 - (ff p0.toNatClampNeg).toInt))) 0 0 (fun _ => False) := by
  refine kx_stS (ws := wsX2_rightBelow) (cc := cX2_rightBelow) (maxL := 3) (ret := (some .int)) (by decide) rfl (Nat.le_of_ble_eq_true rfl) ?_
  intro p e s m below meth c ls hx hb hr hlocks hts hown hml hP hK hl
  have hown : s.vm.findClass RX2 = some m.cls := hown
  have hl : lv_has ls 3 [(0, .ref q_t), (1, .int p0)] := hl
  have hf_18 := hts (.fieldLink RX2 18 "MajorityIndex$Tree" "from" "[I") (List.mem_of_getElem? (i := 1) rfl)
  have hi_2 : ∀ w ∈ u_ws RX2 TX2 11, w ∈ wsX2_rightBelow := fun w h => List.mem_cons_of_mem _ (List.mem_append_right _ h)
  have hf_22 := hts (.fieldLink RX2 22 "MajorityIndex$Tree" "to" "[I") (List.mem_of_getElem? (i := 2) rfl)
  refine lv_aload_n hx hb dX2_rightBelow_0 rfl (lv_at hl 0 rfl) ?_
  refine va_get (D := (dC, dI)) (ci := 2) (v := .ref q_from) (C := RX2) (T := TX2) (N := 11) hx hb hts hi_2 hown hK hP 0 rfl rfl 2 (by decide) hf_18 (fun _ h9 => h9) rfl dX2_rightBelow_1 ?_
  refine lv_iload_n hx hb dX2_rightBelow_4 rfl (lv_at hl 1 rfl) ?_
  refine va_iald hx hb hK hP 1 0 rfl rfl (ki_in (om_10 b0) (om_61 b1)) dX2_rightBelow_5 ?_
  refine lv_topi (fun y_1 ey_1 => ?_)
  have j_1 : y_1.toInt = (ff p0.toNatClampNeg).toInt := congrArg Int32.toInt ey_1
  refine lv_aload_n hx hb dX2_rightBelow_6 rfl (lv_at hl 0 rfl) ?_
  refine va_get (D := (dC, dI)) (ci := 2) (v := .ref q_to) (C := RX2) (T := TX2) (N := 11) hx hb hts hi_2 hown hK hP 0 rfl rfl 3 (by decide) hf_22 (fun _ h9 => h9) rfl dX2_rightBelow_7 ?_
  refine lv_iload_n hx hb dX2_rightBelow_10 rfl (lv_at hl 1 rfl) ?_
  refine va_iald hx hb hK hP 2 0 rfl rfl (ki_in (om_10 b0) (om_61 b1)) dX2_rightBelow_11 ?_
  refine lv_topi (fun y_2 ey_2 => ?_)
  have j_2 : y_2.toInt = (ft p0.toNatClampNeg).toInt := congrArg Int32.toInt ey_2
  refine lv_iadd hx hb dX2_rightBelow_12 ?_
  refine lv_topi (fun y_3 ey_3 => ?_)
  have i_3 : y_3.toInt = y_1.toInt + y_2.toInt := ki_add ey_3 rfl rfl (om_62 b2 b3 j_1 j_2) (om_63 b3 b4 j_1 j_2)
  refine lv_iconst (v := 2) hx hb dX2_rightBelow_13 (by decide) ?_
  refine lv_idiv hx hb dX2_rightBelow_14 (by decide) ?_
  refine lv_topi (fun y_4 ey_4 => ?_)
  have i_4 : y_4.toInt = y_3.toInt / 2 := ki_div2 ey_4 rfl (om_64 b2 b3 j_1 j_2 i_3)
  have d_5 := om_dv i_4
  refine lv_istore_n (lv' := [(2, .int y_4), (0, .ref q_t), (1, .int p0)]) hx hb dX2_rightBelow_15 rfl hl (by decide) rfl (fun ls hl => ?_)
  refine lv_iload_n hx hb dX2_rightBelow_16 rfl (lv_at hl 2 rfl) ?_
  refine lv_iconst (v := 2) hx hb dX2_rightBelow_17 (by decide) ?_
  refine lv_iload_n hx hb dX2_rightBelow_18 rfl (lv_at hl 0 rfl) ?_
  refine lv_aload_n hx hb dX2_rightBelow_19 rfl (lv_at hl 1 rfl) ?_
  refine va_get (D := (dC, dI)) (ci := 2) (v := .ref q_from) (C := RX2) (T := TX2) (N := 11) hx hb hts hi_2 hown hK hP 0 rfl rfl 2 (by decide) hf_18 (fun _ h9 => h9) rfl dX2_rightBelow_20 ?_
  refine lv_iload_n hx hb dX2_rightBelow_23 rfl (lv_at hl 2 rfl) ?_
  refine va_iald hx hb hK hP 1 0 rfl rfl (ki_in (om_10 b0) (om_61 b1)) dX2_rightBelow_24 ?_
  refine lv_topi (fun y_6 ey_6 => ?_)
  have j_6 : y_6.toInt = (ff p0.toNatClampNeg).toInt := congrArg Int32.toInt ey_6
  refine lv_isub hx hb dX2_rightBelow_25 ?_
  refine lv_topi (fun y_7 ey_7 => ?_)
  have i_7 : y_7.toInt = y_4.toInt - y_6.toInt := ki_sub ey_7 rfl rfl (om_65 b3 j_1 j_2 i_3 d_5.2 j_6) (om_66 b2 b4 j_1 j_2 i_3 d_5.1 j_6)
  refine lv_imul hx hb dX2_rightBelow_26 ?_
  refine lv_topi (fun y_8 ey_8 => ?_)
  have i_8 : y_8.toInt = 2 * y_7.toInt := ki_mul ey_8 rfl rfl (om_67 b3 j_1 j_2 i_3 d_5.2 j_6 i_7) (om_68 b2 b4 j_1 j_2 i_3 d_5.1 j_6 i_7)
  refine lv_iadd hx hb dX2_rightBelow_27 ?_
  refine lv_topi (fun y_9 ey_9 => ?_)
  have i_9 : y_9.toInt = p0.toInt + y_8.toInt := ki_add ey_9 rfl rfl (by omega) (by omega)
  exact W.iret (v := y_9) hx hb hr (hlocks := hlocks) (fun t ht hW => ⟨y_9, rfl, (by (try dsimp only); omega), ht⟩) (fun q hq => by cases hq) dX2_rightBelow_28

set_option maxHeartbeats 4000000 in
set_option maxRecDepth 100000 in
theorem c_X2_layBelow (l : Launch) (dC : Nat → ClassId) (dI : Nat → Nat → Nat) (q_t : Nat) (q_row : Nat) (q_joined : Nat) (q_from : Nat) (q_to : Nat) (q_size : Nat) (q_lossOf : Nat) (q_lessBy : Nat) (q_value : Nat) (q_number : Nat) (nodes : Int32) (here : Int32) (cyI : ClassId) (ff : Nat → Int32) (ft : Nat → Int32) (p0 : Int32) (sz : Nat) (b0 : 0 ≤ p0.toInt) (b1 : p0.toInt < 319) (b2 : 0 ≤ (ff p0.toNatClampNeg).toInt) (b3 : (ff p0.toNatClampNeg).toInt + 2 ≤ (ft p0.toNatClampNeg).toInt) (b4 : (ft p0.toNatClampNeg).toInt ≤ 160) (b5 : p0.toInt + 2 * ((ft p0.toNatClampNeg).toInt - (ff p0.toNatClampNeg).toInt) - 1 ≤ 319) : kx_MQ l (dC, dI) yX2_layBelow wsX2_layBelow ({ frames := 1, cells := 0, slots := 0, locals := 45 }) [.ref q_t, .int p0] [kx_2 q_t q_row q_joined q_from q_to q_size q_lossOf q_lessBy q_value q_number nodes here, kx_a q_from cyI 319 ff, kx_a q_to cyI 319 ft] [(cyI, .int)] sz (fun A => va_Qv (fun u : Int32 × Int32 × (Nat → Int32) × (Nat → Int32) => u.1.toInt = ((ff p0.toNatClampNeg).toInt + (ft p0.toNatClampNeg).toInt) / 2 ∧ u.2.1.toInt = p0.toInt + 2 * (((ff p0.toNatClampNeg).toInt + (ft p0.toNatClampNeg).toInt) / 2 - (ff p0.toNatClampNeg).toInt) ∧ u.2.2.1 = upd (upd ff (p0.toNatClampNeg + 1) (ff p0.toNatClampNeg)) u.2.1.toNatClampNeg u.1 ∧ u.2.2.2 = upd (upd ft (p0.toNatClampNeg + 1) u.1) u.2.1.toNatClampNeg (ft p0.toNatClampNeg)) (fun (u : Int32 × Int32 × (Nat → Int32) × (Nat → Int32)) (t : State) => va_P (dC, dI) vwCl [kx_2 q_t q_row q_joined q_from q_to q_size q_lossOf q_lessBy q_value q_number nodes here, kx_a q_from cyI 319 u.2.2.1, kx_a q_to cyI 319 u.2.2.2] t.heap ∧ va_K (dC, dI) vwCl [(cyI, .int)] t ∧ va_D A [kx_2 q_t q_row q_joined q_from q_to q_size q_lossOf q_lessBy q_value q_number nodes here, kx_a q_from cyI 319 u.2.2.1, kx_a q_to cyI 319 u.2.2.2]) A) := by
  refine kx_stQ (ws := wsX2_layBelow) (cc := cX2_layBelow) (maxL := 4) (ret := none) (by decide) rfl (Nat.le_of_ble_eq_true rfl) ?_
  intro p e s m below meth c A ls hx hb hr hlocks hts hown hml hA hS hP hK hD hl
  have hown : s.vm.findClass RX2 = some m.cls := hown
  have hl : lv_has ls 4 [(0, .ref q_t), (1, .int p0)] := hl
  have hf_18 := hts (.fieldLink RX2 18 "MajorityIndex$Tree" "from" "[I") (List.mem_of_getElem? (i := 1) rfl)
  have hi_2 : ∀ w ∈ u_ws RX2 TX2 11, w ∈ wsX2_layBelow := fun w h => List.mem_cons_of_mem _ (List.mem_append_right _ h)
  have hf_22 := hts (.fieldLink RX2 22 "MajorityIndex$Tree" "to" "[I") (List.mem_of_getElem? (i := 2) rfl)
  refine lv_aload_n hx hb dX2_layBelow_0 rfl (lv_at hl 0 rfl) ?_
  refine va_get (D := (dC, dI)) (ci := 2) (v := .ref q_from) (C := RX2) (T := TX2) (N := 11) hx hb hts hi_2 hown hK hP 0 rfl rfl 2 (by decide) hf_18 (fun _ h9 => h9) rfl dX2_layBelow_1 ?_
  refine lv_iload_n hx hb dX2_layBelow_4 rfl (lv_at hl 1 rfl) ?_
  refine va_iald hx hb hK hP 1 0 rfl rfl (ki_in (om_10 b0) (om_61 b1)) dX2_layBelow_5 ?_
  refine lv_topi (fun y_1 ey_1 => ?_)
  have j_1 : y_1.toInt = (ff p0.toNatClampNeg).toInt := congrArg Int32.toInt ey_1
  refine lv_aload_n hx hb dX2_layBelow_6 rfl (lv_at hl 0 rfl) ?_
  refine va_get (D := (dC, dI)) (ci := 2) (v := .ref q_to) (C := RX2) (T := TX2) (N := 11) hx hb hts hi_2 hown hK hP 0 rfl rfl 3 (by decide) hf_22 (fun _ h9 => h9) rfl dX2_layBelow_7 ?_
  refine lv_iload_n hx hb dX2_layBelow_10 rfl (lv_at hl 1 rfl) ?_
  refine va_iald hx hb hK hP 2 0 rfl rfl (ki_in (om_10 b0) (om_61 b1)) dX2_layBelow_11 ?_
  refine lv_topi (fun y_2 ey_2 => ?_)
  have j_2 : y_2.toInt = (ft p0.toNatClampNeg).toInt := congrArg Int32.toInt ey_2
  refine lv_iadd hx hb dX2_layBelow_12 ?_
  refine lv_topi (fun y_3 ey_3 => ?_)
  have i_3 : y_3.toInt = y_1.toInt + y_2.toInt := ki_add ey_3 rfl rfl (om_69 b2 b3 j_1 j_2) (om_70 b3 b4 j_1 j_2)
  refine lv_iconst (v := 2) hx hb dX2_layBelow_13 (by decide) ?_
  refine lv_idiv hx hb dX2_layBelow_14 (by decide) ?_
  refine lv_topi (fun y_4 ey_4 => ?_)
  have i_4 : y_4.toInt = y_3.toInt / 2 := ki_div2 ey_4 rfl (om_71 b2 b3 j_1 j_2 i_3)
  have d_5 := om_dv i_4
  refine lv_istore_n (lv' := [(2, .int y_4), (0, .ref q_t), (1, .int p0)]) hx hb dX2_layBelow_15 rfl hl (by decide) rfl (fun ls hl => ?_)
  refine lv_aload_n hx hb dX2_layBelow_16 rfl (lv_at hl 1 rfl) ?_
  refine lv_iload_n hx hb dX2_layBelow_17 rfl (lv_at hl 2 rfl) ?_
  have hPc := hP
  have hKc := hK
  refine vp_callSi (W.runV (As := [.int p0]) (rest := []) ⟨hx, hb, hml, hown, hts⟩ (c_X2_rightBelow l dC dI q_t q_row q_joined q_from q_to q_size q_lossOf q_lessBy q_value q_number nodes here cyI ff ft p0 b0 b1 b2 (om_72 b3) b4) (cwV 1 hts gX2_layBelow_X2_rightBelow rfl rfl rfl (by decide +kernel) ⟨Nat.le_of_ble_eq_true rfl, Nat.le_of_ble_eq_true rfl⟩) ⟨fun a U g mk q => by obtain ⟨q0, qP, qK⟩ := q; exact ⟨q0, qP, va_K.moved (u := U) (U := U.calling g mk a) (Vm.Alike.refl U.vm) qK⟩, kx_rc2 hKc hPc (q0 := 0) rfl, fun U hU hW => ⟨rfl, by rw [hU]; exact hPc, va_K.moved hW.alike hKc⟩⟩ rfl rfl hl.1 rfl (lv_room (Nat.le_of_ble_eq_true rfl)) dX2_layBelow_18 ⟨Nat.le_of_ble_eq_true rfl, Nat.le_of_ble_eq_true rfl⟩) (fun r_6 w_6 => ?_)
  have w_6 : r_6.toInt = p0.toInt + 2 * (((ff p0.toNatClampNeg).toInt + (ft p0.toNatClampNeg).toInt) / 2 - (ff p0.toNatClampNeg).toInt) := w_6
  refine lv_istore_n (lv' := [(3, .int r_6), (2, .int y_4), (0, .ref q_t), (1, .int p0)]) hx hb dX2_layBelow_21 rfl hl (by decide) rfl (fun ls hl => ?_)
  refine lv_aload_n hx hb dX2_layBelow_22 rfl (lv_at hl 2 rfl) ?_
  refine va_get (D := (dC, dI)) (ci := 2) (v := .ref q_from) (C := RX2) (T := TX2) (N := 11) hx hb hts hi_2 hown hK hP 0 rfl rfl 2 (by decide) hf_18 (fun _ h9 => h9) rfl dX2_layBelow_23 ?_
  refine lv_iload_n hx hb dX2_layBelow_26 rfl (lv_at hl 3 rfl) ?_
  refine lv_iconst (v := 1) hx hb dX2_layBelow_27 (by decide) ?_
  refine lv_iadd hx hb dX2_layBelow_28 ?_
  refine lv_topi (fun y_7 ey_7 => ?_)
  have i_7 : y_7.toInt = p0.toInt + 1 := ki_add ey_7 rfl rfl (om_13 b0) (om_73 b1)
  refine lv_aload_n hx hb dX2_layBelow_29 rfl (lv_at hl 2 rfl) ?_
  refine va_get (D := (dC, dI)) (ci := 2) (v := .ref q_from) (C := RX2) (T := TX2) (N := 11) hx hb hts hi_2 hown hK hP 0 rfl rfl 2 (by decide) hf_18 (fun _ h9 => h9) rfl dX2_layBelow_30 ?_
  refine lv_iload_n hx hb dX2_layBelow_33 rfl (lv_at hl 3 rfl) ?_
  refine va_iald hx hb hK hP 1 0 rfl rfl (ki_in (om_10 b0) (om_61 b1)) dX2_layBelow_34 ?_
  refine lv_topi (fun y_8 ey_8 => ?_)
  have j_8 : y_8.toInt = (ff p0.toNatClampNeg).toInt := congrArg Int32.toInt ey_8
  refine va_iast hx hb hK hP hD hS 1 0 rfl rfl (ki_in (om_34 b0 i_7) (om_74 b1 b3 b5 i_7)) dX2_layBelow_35 (fun H locs hP hD hS => ?_)
  obtain ⟨hP, hD⟩ := kx_re (w2 := [kx_2 q_t q_row q_joined q_from q_to q_size q_lossOf q_lessBy q_value q_number nodes here, kx_a q_from cyI 319 (upd ff y_7.toNatClampNeg y_8), kx_a q_to cyI 319 ft]) hP hD rfl
  refine lv_aload_n hx hb dX2_layBelow_36 rfl (lv_at hl 2 rfl) ?_
  refine va_get (D := (dC, dI)) (ci := 2) (v := .ref q_to) (C := RX2) (T := TX2) (N := 11) hx hb hts hi_2 hown hK hP 0 rfl rfl 3 (by decide) hf_22 (fun _ h9 => h9) rfl dX2_layBelow_37 ?_
  refine lv_iload_n hx hb dX2_layBelow_40 rfl (lv_at hl 3 rfl) ?_
  refine lv_iconst (v := 1) hx hb dX2_layBelow_41 (by decide) ?_
  refine lv_iadd hx hb dX2_layBelow_42 ?_
  refine lv_topi (fun y_9 ey_9 => ?_)
  have i_9 : y_9.toInt = p0.toInt + 1 := ki_add ey_9 rfl rfl (om_13 b0) (om_73 b1)
  refine lv_iload_n hx hb dX2_layBelow_43 rfl (lv_at hl 1 rfl) ?_
  refine va_iast hx hb hK hP hD hS 2 0 rfl rfl (ki_in (om_34 b0 i_9) (om_74 b1 b3 b5 i_9)) dX2_layBelow_44 (fun H locs hP hD hS => ?_)
  obtain ⟨hP, hD⟩ := kx_re (w2 := [kx_2 q_t q_row q_joined q_from q_to q_size q_lossOf q_lessBy q_value q_number nodes here, kx_a q_from cyI 319 (upd ff y_7.toNatClampNeg y_8), kx_a q_to cyI 319 (upd ft y_9.toNatClampNeg y_4)]) hP hD rfl
  refine lv_aload_n hx hb dX2_layBelow_45 rfl (lv_at hl 2 rfl) ?_
  refine va_get (D := (dC, dI)) (ci := 2) (v := .ref q_from) (C := RX2) (T := TX2) (N := 11) hx hb hts hi_2 hown hK hP 0 rfl rfl 2 (by decide) hf_18 (fun _ h9 => h9) rfl dX2_layBelow_46 ?_
  refine lv_iload_n hx hb dX2_layBelow_49 rfl (lv_at hl 0 rfl) ?_
  refine lv_iload_n hx hb dX2_layBelow_50 rfl (lv_at hl 1 rfl) ?_
  refine va_iast hx hb hK hP hD hS 1 0 rfl rfl (ki_in (by omega) (by omega)) dX2_layBelow_51 (fun H locs hP hD hS => ?_)
  obtain ⟨hP, hD⟩ := kx_re (w2 := [kx_2 q_t q_row q_joined q_from q_to q_size q_lossOf q_lessBy q_value q_number nodes here, kx_a q_from cyI 319 (upd (upd ff y_7.toNatClampNeg y_8) r_6.toNatClampNeg y_4), kx_a q_to cyI 319 (upd ft y_9.toNatClampNeg y_4)]) hP hD rfl
  refine lv_aload_n hx hb dX2_layBelow_52 rfl (lv_at hl 2 rfl) ?_
  refine va_get (D := (dC, dI)) (ci := 2) (v := .ref q_to) (C := RX2) (T := TX2) (N := 11) hx hb hts hi_2 hown hK hP 0 rfl rfl 3 (by decide) hf_22 (fun _ h9 => h9) rfl dX2_layBelow_53 ?_
  refine lv_iload_n hx hb dX2_layBelow_56 rfl (lv_at hl 0 rfl) ?_
  refine lv_aload_n hx hb dX2_layBelow_57 rfl (lv_at hl 2 rfl) ?_
  refine va_get (D := (dC, dI)) (ci := 2) (v := .ref q_to) (C := RX2) (T := TX2) (N := 11) hx hb hts hi_2 hown hK hP 0 rfl rfl 3 (by decide) hf_22 (fun _ h9 => h9) rfl dX2_layBelow_58 ?_
  refine lv_iload_n hx hb dX2_layBelow_61 rfl (lv_at hl 3 rfl) ?_
  refine va_iald hx hb hK hP 2 0 rfl rfl (ki_in (om_10 b0) (om_61 b1)) dX2_layBelow_62 ?_
  refine lv_topi (fun y_10 ey_10 => ?_)
  have j_10 : y_10.toInt = ((upd ft y_9.toNatClampNeg y_4) p0.toNatClampNeg).toInt := congrArg Int32.toInt ey_10
  refine va_iast hx hb hK hP hD hS 2 0 rfl rfl (ki_in (by omega) (by omega)) dX2_layBelow_63 (fun H locs hP hD hS => ?_)
  obtain ⟨hP, hD⟩ := kx_re (w2 := [kx_2 q_t q_row q_joined q_from q_to q_size q_lossOf q_lessBy q_value q_number nodes here, kx_a q_from cyI 319 (upd (upd ff y_7.toNatClampNeg y_8) r_6.toNatClampNeg y_4), kx_a q_to cyI 319 (upd (upd ft y_9.toNatClampNeg y_4) r_6.toNatClampNeg y_10)]) hP hD rfl
  have hP9 := hP
  have hD9 := hD
  have hK9 := hK
  have n_p := ki_nat p0 rfl (by omega)
  have n_1 := ki_nat y_7 rfl (by omega)
  have n_2 := ki_nat y_9 rfl (by omega)
  have q_1 : y_7.toNatClampNeg = p0.toNatClampNeg + 1 := by omega
  have q_2 : y_9.toNatClampNeg = p0.toNatClampNeg + 1 := by omega
  have q_3 : y_10 = ft p0.toNatClampNeg := by rw [ey_10]; unfold upd; rw [if_neg (by omega)]
  have q_4 : y_8 = ff p0.toNatClampNeg := ey_8
  exact W.vret hx hb hr (hlocks := hlocks) (fun t ht hW => ⟨⟨(y_4, r_6, (upd (upd ff y_7.toNatClampNeg y_8) r_6.toNatClampNeg y_4), (upd (upd ft y_9.toNatClampNeg y_4) r_6.toNatClampNeg y_10)), rfl, ⟨(by (try dsimp only); omega), (by (try dsimp only); omega), (by (try dsimp only); rw [q_1, q_4]), (by (try dsimp only); rw [q_2, q_3])⟩, by rw [ht]; exact hP9, va_K.moved hW.alike hK9, hD9⟩, hS.F ht⟩) hS.2.2 dX2_layBelow_64



abbrev cX0_takeOut : ByteArray := prog_2_method_6_code
def yX0_takeOut : MethodName := ⟨RX0, "takeOut", "(I)I"⟩
abbrev cX0_exchange : ByteArray := prog_2_method_7_code
def yX0_exchange : MethodName := ⟨RX0, "exchange", "(II)V"⟩
abbrev cX0_firstLike : ByteArray := prog_2_method_9_code
def yX0_firstLike : MethodName := ⟨RX0, "firstLike", "(I)I"⟩
abbrev cX0_leader : ByteArray := prog_2_method_10_code
def yX0_leader : MethodName := ⟨RX0, "leader", "(II)I"⟩
def wsX0_takeOut : List Cond := .code yX0_takeOut cX0_takeOut 4 (some .int) :: ([.constant RX0 23 (-40000), .fieldLink RX0 9 "MajorityIndex$Row" "cell" "[I", .fieldLink RX0 15 "MajorityIndex$Row" "length" "I", .methodLink RX0 19 yX0_hasPlace, .instanceMethod yX0_hasPlace, .selects RX0 yX0_hasPlace yX0_hasPlace, .initialized RX0, .code yX0_hasPlace cX0_hasPlace 2 (some .boolean)] ++ wsX00)
def wsX0_exchange : List Cond := .code yX0_exchange cX0_exchange 4 none :: ([.fieldLink RX0 9 "MajorityIndex$Row" "cell" "[I"] ++ wsX00)
def wsX0_firstLike : List Cond := .code yX0_firstLike cX0_firstLike 3 (some .int) :: ([.fieldLink RX0 9 "MajorityIndex$Row" "cell" "[I"] ++ wsX00)
def wsX0_leader : List Cond := .code yX0_leader cX0_leader 6 (some .int) :: ([.constant RX0 23 (-40000), .fieldLink RX0 9 "MajorityIndex$Row" "cell" "[I", .methodLink RX0 24 yX0_oftenIn, .instanceMethod yX0_oftenIn, .selects RX0 yX0_oftenIn yX0_oftenIn, .initialized RX0, .code yX0_oftenIn cX0_oftenIn 6 (some .int), .static yX4_isHeavy, .initialized RX4, .code yX4_isHeavy cX4_isHeavy 4 (some .boolean)] ++ wsX00)
set_option maxRecDepth 20000 in
theorem ggX0_takeOut_X0_hasPlace : GoodIn wsX0_takeOut wsX0_hasPlace := goodIn_r _ [8, 3, 9, 10] rfl (by decide +kernel)
set_option maxRecDepth 20000 in
theorem gX0_takeOut_X0_hasPlace : GoodIn wsX0_takeOut (wsV RX0 19 RX0 yX0_hasPlace wsX0_hasPlace) := goodIn_app (goodIn_r _ [4, 5, 6, 7] rfl (by decide +kernel)) ggX0_takeOut_X0_hasPlace
def dt_cX0_takeOut_0 : List (Nat × Nat × Nat × Nat) := [(0, 42, 0, 0), (1, 27, 0, 0), (2, 182, 2, 19), (5, 154, 2, 6), (11, 42, 0, 0), (12, 180, 2, 9), (15, 27, 0, 0), (16, 46, 0, 0), (17, 61, 0, 0), (18, 27, 0, 0), (19, 62, 0, 0), (20, 29, 0, 0), (21, 42, 0, 0), (22, 180, 2, 15), (25, 4, 0, 0), (26, 100, 0, 0), (27, 162, 2, 23), (30, 42, 0, 0), (31, 180, 2, 9), (34, 29, 0, 0)]
theorem da_cX0_takeOut_0 : fw dt_cX0_takeOut_0 0 cX0_takeOut.data.toList = true := by decide +kernel
theorem dX0_takeOut_0 : decode cX0_takeOut 0 = .ok (.aload_n 0, 1) := fo_42 (fw_get da_cX0_takeOut_0 0 rfl)
theorem dX0_takeOut_1 : decode cX0_takeOut 1 = .ok (.iload_n 1, 1) := fo_27 (fw_get da_cX0_takeOut_0 1 rfl)
theorem dX0_takeOut_2 : decode cX0_takeOut 2 = .ok (.invokevirtual 19, 3) := fo_182 (fw_get da_cX0_takeOut_0 2 rfl)
theorem dX0_takeOut_5 : decode cX0_takeOut 5 = .ok (.ifCond .ne 6, 3) := fo_154 (fw_get da_cX0_takeOut_0 3 rfl) (by decide +kernel)
theorem dX0_takeOut_11 : decode cX0_takeOut 11 = .ok (.aload_n 0, 1) := fo_42 (fw_get da_cX0_takeOut_0 4 rfl)
theorem dX0_takeOut_12 : decode cX0_takeOut 12 = .ok (.getfield 9, 3) := fo_180 (fw_get da_cX0_takeOut_0 5 rfl)
theorem dX0_takeOut_15 : decode cX0_takeOut 15 = .ok (.iload_n 1, 1) := fo_27 (fw_get da_cX0_takeOut_0 6 rfl)
theorem dX0_takeOut_16 : decode cX0_takeOut 16 = .ok (.iaload, 1) := fo_46 (fw_get da_cX0_takeOut_0 7 rfl)
theorem dX0_takeOut_17 : decode cX0_takeOut 17 = .ok (.istore_n 2, 1) := fo_61 (fw_get da_cX0_takeOut_0 8 rfl)
theorem dX0_takeOut_18 : decode cX0_takeOut 18 = .ok (.iload_n 1, 1) := fo_27 (fw_get da_cX0_takeOut_0 9 rfl)
theorem dX0_takeOut_19 : decode cX0_takeOut 19 = .ok (.istore_n 3, 1) := fo_62 (fw_get da_cX0_takeOut_0 10 rfl)
theorem dX0_takeOut_20 : decode cX0_takeOut 20 = .ok (.iload_n 3, 1) := fo_29 (fw_get da_cX0_takeOut_0 11 rfl)
theorem dX0_takeOut_21 : decode cX0_takeOut 21 = .ok (.aload_n 0, 1) := fo_42 (fw_get da_cX0_takeOut_0 12 rfl)
theorem dX0_takeOut_22 : decode cX0_takeOut 22 = .ok (.getfield 15, 3) := fo_180 (fw_get da_cX0_takeOut_0 13 rfl)
theorem dX0_takeOut_25 : decode cX0_takeOut 25 = .ok (.iconst 1, 1) := fo_4 (fw_get da_cX0_takeOut_0 14 rfl)
theorem dX0_takeOut_26 : decode cX0_takeOut 26 = .ok (.isub, 1) := fo_100 (fw_get da_cX0_takeOut_0 15 rfl)
theorem dX0_takeOut_27 : decode cX0_takeOut 27 = .ok (.if_icmp .ge 23, 3) := fo_162 (fw_get da_cX0_takeOut_0 16 rfl) (by decide +kernel)
theorem dX0_takeOut_30 : decode cX0_takeOut 30 = .ok (.aload_n 0, 1) := fo_42 (fw_get da_cX0_takeOut_0 17 rfl)
theorem dX0_takeOut_31 : decode cX0_takeOut 31 = .ok (.getfield 9, 3) := fo_180 (fw_get da_cX0_takeOut_0 18 rfl)
theorem dX0_takeOut_34 : decode cX0_takeOut 34 = .ok (.iload_n 3, 1) := fo_29 (fw_get da_cX0_takeOut_0 19 rfl)
def dt_cX0_takeOut_1 : List (Nat × Nat × Nat × Nat) := [(35, 42, 0, 0), (36, 180, 2, 9), (39, 29, 0, 0), (40, 4, 0, 0), (41, 96, 0, 0), (42, 46, 0, 0), (43, 79, 0, 0), (44, 132, 2, 769), (47, 167, 2, 65509), (50, 42, 0, 0), (51, 89, 0, 0), (52, 180, 2, 15), (55, 4, 0, 0), (56, 100, 0, 0), (57, 181, 2, 15), (60, 28, 0, 0), (61, 172, 0, 0)]
theorem da_cX0_takeOut_1 : fw dt_cX0_takeOut_1 0 cX0_takeOut.data.toList = true := by decide +kernel
theorem dX0_takeOut_35 : decode cX0_takeOut 35 = .ok (.aload_n 0, 1) := fo_42 (fw_get da_cX0_takeOut_1 0 rfl)
theorem dX0_takeOut_36 : decode cX0_takeOut 36 = .ok (.getfield 9, 3) := fo_180 (fw_get da_cX0_takeOut_1 1 rfl)
theorem dX0_takeOut_39 : decode cX0_takeOut 39 = .ok (.iload_n 3, 1) := fo_29 (fw_get da_cX0_takeOut_1 2 rfl)
theorem dX0_takeOut_40 : decode cX0_takeOut 40 = .ok (.iconst 1, 1) := fo_4 (fw_get da_cX0_takeOut_1 3 rfl)
theorem dX0_takeOut_41 : decode cX0_takeOut 41 = .ok (.iadd, 1) := fo_96 (fw_get da_cX0_takeOut_1 4 rfl)
theorem dX0_takeOut_42 : decode cX0_takeOut 42 = .ok (.iaload, 1) := fo_46 (fw_get da_cX0_takeOut_1 5 rfl)
theorem dX0_takeOut_43 : decode cX0_takeOut 43 = .ok (.iastore, 1) := fo_79 (fw_get da_cX0_takeOut_1 6 rfl)
theorem dX0_takeOut_44 : decode cX0_takeOut 44 = .ok (.iinc 3 1, 3) := fo_132 (fw_get da_cX0_takeOut_1 7 rfl) rfl (by decide +kernel)
theorem dX0_takeOut_47 : decode cX0_takeOut 47 = .ok (.goto (-27), 3) := fo_167 (fw_get da_cX0_takeOut_1 8 rfl) (by decide +kernel)
theorem dX0_takeOut_50 : decode cX0_takeOut 50 = .ok (.aload_n 0, 1) := fo_42 (fw_get da_cX0_takeOut_1 9 rfl)
theorem dX0_takeOut_51 : decode cX0_takeOut 51 = .ok (.dup, 1) := fo_89 (fw_get da_cX0_takeOut_1 10 rfl)
theorem dX0_takeOut_52 : decode cX0_takeOut 52 = .ok (.getfield 15, 3) := fo_180 (fw_get da_cX0_takeOut_1 11 rfl)
theorem dX0_takeOut_55 : decode cX0_takeOut 55 = .ok (.iconst 1, 1) := fo_4 (fw_get da_cX0_takeOut_1 12 rfl)
theorem dX0_takeOut_56 : decode cX0_takeOut 56 = .ok (.isub, 1) := fo_100 (fw_get da_cX0_takeOut_1 13 rfl)
theorem dX0_takeOut_57 : decode cX0_takeOut 57 = .ok (.putfield 15, 3) := fo_181 (fw_get da_cX0_takeOut_1 14 rfl)
theorem dX0_takeOut_60 : decode cX0_takeOut 60 = .ok (.iload_n 2, 1) := fo_28 (fw_get da_cX0_takeOut_1 15 rfl)
theorem dX0_takeOut_61 : decode cX0_takeOut 61 = .ok (.ireturn, 1) := fo_172 (fw_get da_cX0_takeOut_1 16 rfl)
def dt_cX0_exchange_0 : List (Nat × Nat × Nat × Nat) := [(0, 42, 0, 0), (1, 180, 2, 9), (4, 27, 0, 0), (5, 46, 0, 0), (6, 62, 0, 0), (7, 42, 0, 0), (8, 180, 2, 9), (11, 27, 0, 0), (12, 42, 0, 0), (13, 180, 2, 9), (16, 28, 0, 0), (17, 46, 0, 0), (18, 79, 0, 0), (19, 42, 0, 0), (20, 180, 2, 9), (23, 28, 0, 0), (24, 29, 0, 0), (25, 79, 0, 0), (26, 177, 0, 0)]
theorem da_cX0_exchange_0 : fw dt_cX0_exchange_0 0 cX0_exchange.data.toList = true := by decide +kernel
theorem dX0_exchange_0 : decode cX0_exchange 0 = .ok (.aload_n 0, 1) := fo_42 (fw_get da_cX0_exchange_0 0 rfl)
theorem dX0_exchange_1 : decode cX0_exchange 1 = .ok (.getfield 9, 3) := fo_180 (fw_get da_cX0_exchange_0 1 rfl)
theorem dX0_exchange_4 : decode cX0_exchange 4 = .ok (.iload_n 1, 1) := fo_27 (fw_get da_cX0_exchange_0 2 rfl)
theorem dX0_exchange_5 : decode cX0_exchange 5 = .ok (.iaload, 1) := fo_46 (fw_get da_cX0_exchange_0 3 rfl)
theorem dX0_exchange_6 : decode cX0_exchange 6 = .ok (.istore_n 3, 1) := fo_62 (fw_get da_cX0_exchange_0 4 rfl)
theorem dX0_exchange_7 : decode cX0_exchange 7 = .ok (.aload_n 0, 1) := fo_42 (fw_get da_cX0_exchange_0 5 rfl)
theorem dX0_exchange_8 : decode cX0_exchange 8 = .ok (.getfield 9, 3) := fo_180 (fw_get da_cX0_exchange_0 6 rfl)
theorem dX0_exchange_11 : decode cX0_exchange 11 = .ok (.iload_n 1, 1) := fo_27 (fw_get da_cX0_exchange_0 7 rfl)
theorem dX0_exchange_12 : decode cX0_exchange 12 = .ok (.aload_n 0, 1) := fo_42 (fw_get da_cX0_exchange_0 8 rfl)
theorem dX0_exchange_13 : decode cX0_exchange 13 = .ok (.getfield 9, 3) := fo_180 (fw_get da_cX0_exchange_0 9 rfl)
theorem dX0_exchange_16 : decode cX0_exchange 16 = .ok (.iload_n 2, 1) := fo_28 (fw_get da_cX0_exchange_0 10 rfl)
theorem dX0_exchange_17 : decode cX0_exchange 17 = .ok (.iaload, 1) := fo_46 (fw_get da_cX0_exchange_0 11 rfl)
theorem dX0_exchange_18 : decode cX0_exchange 18 = .ok (.iastore, 1) := fo_79 (fw_get da_cX0_exchange_0 12 rfl)
theorem dX0_exchange_19 : decode cX0_exchange 19 = .ok (.aload_n 0, 1) := fo_42 (fw_get da_cX0_exchange_0 13 rfl)
theorem dX0_exchange_20 : decode cX0_exchange 20 = .ok (.getfield 9, 3) := fo_180 (fw_get da_cX0_exchange_0 14 rfl)
theorem dX0_exchange_23 : decode cX0_exchange 23 = .ok (.iload_n 2, 1) := fo_28 (fw_get da_cX0_exchange_0 15 rfl)
theorem dX0_exchange_24 : decode cX0_exchange 24 = .ok (.iload_n 3, 1) := fo_29 (fw_get da_cX0_exchange_0 16 rfl)
theorem dX0_exchange_25 : decode cX0_exchange 25 = .ok (.iastore, 1) := fo_79 (fw_get da_cX0_exchange_0 17 rfl)
theorem dX0_exchange_26 : decode cX0_exchange 26 = .ok (.return_, 1) := fo_177 (fw_get da_cX0_exchange_0 18 rfl)
def dt_cX0_firstLike_0 : List (Nat × Nat × Nat × Nat) := [(0, 3, 0, 0), (1, 61, 0, 0), (2, 28, 0, 0), (3, 27, 0, 0), (4, 162, 2, 26), (7, 42, 0, 0), (8, 180, 2, 9), (11, 28, 0, 0), (12, 46, 0, 0), (13, 42, 0, 0), (14, 180, 2, 9), (17, 27, 0, 0), (18, 46, 0, 0), (19, 160, 2, 5), (22, 28, 0, 0), (23, 172, 0, 0), (24, 132, 2, 513), (27, 167, 2, 65511), (30, 27, 0, 0), (31, 172, 0, 0)]
theorem da_cX0_firstLike_0 : fw dt_cX0_firstLike_0 0 cX0_firstLike.data.toList = true := by decide +kernel
theorem dX0_firstLike_0 : decode cX0_firstLike 0 = .ok (.iconst 0, 1) := fo_3 (fw_get da_cX0_firstLike_0 0 rfl)
theorem dX0_firstLike_1 : decode cX0_firstLike 1 = .ok (.istore_n 2, 1) := fo_61 (fw_get da_cX0_firstLike_0 1 rfl)
theorem dX0_firstLike_2 : decode cX0_firstLike 2 = .ok (.iload_n 2, 1) := fo_28 (fw_get da_cX0_firstLike_0 2 rfl)
theorem dX0_firstLike_3 : decode cX0_firstLike 3 = .ok (.iload_n 1, 1) := fo_27 (fw_get da_cX0_firstLike_0 3 rfl)
theorem dX0_firstLike_4 : decode cX0_firstLike 4 = .ok (.if_icmp .ge 26, 3) := fo_162 (fw_get da_cX0_firstLike_0 4 rfl) (by decide +kernel)
theorem dX0_firstLike_7 : decode cX0_firstLike 7 = .ok (.aload_n 0, 1) := fo_42 (fw_get da_cX0_firstLike_0 5 rfl)
theorem dX0_firstLike_8 : decode cX0_firstLike 8 = .ok (.getfield 9, 3) := fo_180 (fw_get da_cX0_firstLike_0 6 rfl)
theorem dX0_firstLike_11 : decode cX0_firstLike 11 = .ok (.iload_n 2, 1) := fo_28 (fw_get da_cX0_firstLike_0 7 rfl)
theorem dX0_firstLike_12 : decode cX0_firstLike 12 = .ok (.iaload, 1) := fo_46 (fw_get da_cX0_firstLike_0 8 rfl)
theorem dX0_firstLike_13 : decode cX0_firstLike 13 = .ok (.aload_n 0, 1) := fo_42 (fw_get da_cX0_firstLike_0 9 rfl)
theorem dX0_firstLike_14 : decode cX0_firstLike 14 = .ok (.getfield 9, 3) := fo_180 (fw_get da_cX0_firstLike_0 10 rfl)
theorem dX0_firstLike_17 : decode cX0_firstLike 17 = .ok (.iload_n 1, 1) := fo_27 (fw_get da_cX0_firstLike_0 11 rfl)
theorem dX0_firstLike_18 : decode cX0_firstLike 18 = .ok (.iaload, 1) := fo_46 (fw_get da_cX0_firstLike_0 12 rfl)
theorem dX0_firstLike_19 : decode cX0_firstLike 19 = .ok (.if_icmp .ne 5, 3) := fo_160 (fw_get da_cX0_firstLike_0 13 rfl) (by decide +kernel)
theorem dX0_firstLike_22 : decode cX0_firstLike 22 = .ok (.iload_n 2, 1) := fo_28 (fw_get da_cX0_firstLike_0 14 rfl)
theorem dX0_firstLike_23 : decode cX0_firstLike 23 = .ok (.ireturn, 1) := fo_172 (fw_get da_cX0_firstLike_0 15 rfl)
theorem dX0_firstLike_24 : decode cX0_firstLike 24 = .ok (.iinc 2 1, 3) := fo_132 (fw_get da_cX0_firstLike_0 16 rfl) rfl (by decide +kernel)
theorem dX0_firstLike_27 : decode cX0_firstLike 27 = .ok (.goto (-25), 3) := fo_167 (fw_get da_cX0_firstLike_0 17 rfl) (by decide +kernel)
theorem dX0_firstLike_30 : decode cX0_firstLike 30 = .ok (.iload_n 1, 1) := fo_27 (fw_get da_cX0_firstLike_0 18 rfl)
theorem dX0_firstLike_31 : decode cX0_firstLike 31 = .ok (.ireturn, 1) := fo_172 (fw_get da_cX0_firstLike_0 19 rfl)
set_option maxRecDepth 20000 in
theorem ggX0_leader_X0_oftenIn : GoodIn wsX0_leader wsX0_oftenIn := goodIn_r _ [7, 2, 11, 12] rfl (by decide +kernel)
set_option maxRecDepth 20000 in
theorem gX0_leader_X0_oftenIn : GoodIn wsX0_leader (wsV RX0 24 RX0 yX0_oftenIn wsX0_oftenIn) := goodIn_app (goodIn_r _ [3, 4, 5, 6] rfl (by decide +kernel)) ggX0_leader_X0_oftenIn
set_option maxRecDepth 20000 in
theorem ggX0_leader_X4_isHeavy : GoodIn wsX0_leader wsX4_isHeavy := goodIn_r _ [10] rfl (by decide +kernel)
def dt_cX0_leader_0 : List (Nat × Nat × Nat × Nat) := [(0, 18, 1, 23), (2, 62, 0, 0), (3, 3, 0, 0), (4, 54, 1, 4), (6, 27, 0, 0), (7, 54, 1, 5), (9, 21, 1, 5), (11, 28, 0, 0), (12, 162, 2, 49), (15, 21, 1, 4), (17, 154, 2, 17), (20, 42, 0, 0), (21, 180, 2, 9), (24, 21, 1, 5), (26, 46, 0, 0), (27, 62, 0, 0), (28, 4, 0, 0), (29, 54, 1, 4), (31, 167, 2, 24), (34, 21, 1, 4)]
theorem da_cX0_leader_0 : fw dt_cX0_leader_0 0 cX0_leader.data.toList = true := by decide +kernel
theorem dX0_leader_0 : decode cX0_leader 0 = .ok (.ldc 23, 2) := fo_18 (fw_get da_cX0_leader_0 0 rfl)
theorem dX0_leader_2 : decode cX0_leader 2 = .ok (.istore_n 3, 1) := fo_62 (fw_get da_cX0_leader_0 1 rfl)
theorem dX0_leader_3 : decode cX0_leader 3 = .ok (.iconst 0, 1) := fo_3 (fw_get da_cX0_leader_0 2 rfl)
theorem dX0_leader_4 : decode cX0_leader 4 = .ok (.istore 4, 2) := fo_54 (fw_get da_cX0_leader_0 3 rfl)
theorem dX0_leader_6 : decode cX0_leader 6 = .ok (.iload_n 1, 1) := fo_27 (fw_get da_cX0_leader_0 4 rfl)
theorem dX0_leader_7 : decode cX0_leader 7 = .ok (.istore 5, 2) := fo_54 (fw_get da_cX0_leader_0 5 rfl)
theorem dX0_leader_9 : decode cX0_leader 9 = .ok (.iload 5, 2) := fo_21 (fw_get da_cX0_leader_0 6 rfl)
theorem dX0_leader_11 : decode cX0_leader 11 = .ok (.iload_n 2, 1) := fo_28 (fw_get da_cX0_leader_0 7 rfl)
theorem dX0_leader_12 : decode cX0_leader 12 = .ok (.if_icmp .ge 49, 3) := fo_162 (fw_get da_cX0_leader_0 8 rfl) (by decide +kernel)
theorem dX0_leader_15 : decode cX0_leader 15 = .ok (.iload 4, 2) := fo_21 (fw_get da_cX0_leader_0 9 rfl)
theorem dX0_leader_17 : decode cX0_leader 17 = .ok (.ifCond .ne 17, 3) := fo_154 (fw_get da_cX0_leader_0 10 rfl) (by decide +kernel)
theorem dX0_leader_20 : decode cX0_leader 20 = .ok (.aload_n 0, 1) := fo_42 (fw_get da_cX0_leader_0 11 rfl)
theorem dX0_leader_21 : decode cX0_leader 21 = .ok (.getfield 9, 3) := fo_180 (fw_get da_cX0_leader_0 12 rfl)
theorem dX0_leader_24 : decode cX0_leader 24 = .ok (.iload 5, 2) := fo_21 (fw_get da_cX0_leader_0 13 rfl)
theorem dX0_leader_26 : decode cX0_leader 26 = .ok (.iaload, 1) := fo_46 (fw_get da_cX0_leader_0 14 rfl)
theorem dX0_leader_27 : decode cX0_leader 27 = .ok (.istore_n 3, 1) := fo_62 (fw_get da_cX0_leader_0 15 rfl)
theorem dX0_leader_28 : decode cX0_leader 28 = .ok (.iconst 1, 1) := fo_4 (fw_get da_cX0_leader_0 16 rfl)
theorem dX0_leader_29 : decode cX0_leader 29 = .ok (.istore 4, 2) := fo_54 (fw_get da_cX0_leader_0 17 rfl)
theorem dX0_leader_31 : decode cX0_leader 31 = .ok (.goto 24, 3) := fo_167 (fw_get da_cX0_leader_0 18 rfl) (by decide +kernel)
theorem dX0_leader_34 : decode cX0_leader 34 = .ok (.iload 4, 2) := fo_21 (fw_get da_cX0_leader_0 19 rfl)
def dt_cX0_leader_1 : List (Nat × Nat × Nat × Nat) := [(36, 42, 0, 0), (37, 180, 2, 9), (40, 21, 1, 5), (42, 46, 0, 0), (43, 29, 0, 0), (44, 160, 2, 7), (47, 4, 0, 0), (48, 167, 2, 4), (51, 2, 0, 0), (52, 96, 0, 0), (53, 54, 1, 4), (55, 132, 2, 1281), (58, 167, 2, 65487), (61, 42, 0, 0), (62, 29, 0, 0), (63, 27, 0, 0), (64, 28, 0, 0), (65, 182, 2, 24), (68, 28, 0, 0), (69, 27, 0, 0)]
theorem da_cX0_leader_1 : fw dt_cX0_leader_1 0 cX0_leader.data.toList = true := by decide +kernel
theorem dX0_leader_36 : decode cX0_leader 36 = .ok (.aload_n 0, 1) := fo_42 (fw_get da_cX0_leader_1 0 rfl)
theorem dX0_leader_37 : decode cX0_leader 37 = .ok (.getfield 9, 3) := fo_180 (fw_get da_cX0_leader_1 1 rfl)
theorem dX0_leader_40 : decode cX0_leader 40 = .ok (.iload 5, 2) := fo_21 (fw_get da_cX0_leader_1 2 rfl)
theorem dX0_leader_42 : decode cX0_leader 42 = .ok (.iaload, 1) := fo_46 (fw_get da_cX0_leader_1 3 rfl)
theorem dX0_leader_43 : decode cX0_leader 43 = .ok (.iload_n 3, 1) := fo_29 (fw_get da_cX0_leader_1 4 rfl)
theorem dX0_leader_44 : decode cX0_leader 44 = .ok (.if_icmp .ne 7, 3) := fo_160 (fw_get da_cX0_leader_1 5 rfl) (by decide +kernel)
theorem dX0_leader_47 : decode cX0_leader 47 = .ok (.iconst 1, 1) := fo_4 (fw_get da_cX0_leader_1 6 rfl)
theorem dX0_leader_48 : decode cX0_leader 48 = .ok (.goto 4, 3) := fo_167 (fw_get da_cX0_leader_1 7 rfl) (by decide +kernel)
theorem dX0_leader_51 : decode cX0_leader 51 = .ok (.iconst (-1), 1) := fo_2 (fw_get da_cX0_leader_1 8 rfl)
theorem dX0_leader_52 : decode cX0_leader 52 = .ok (.iadd, 1) := fo_96 (fw_get da_cX0_leader_1 9 rfl)
theorem dX0_leader_53 : decode cX0_leader 53 = .ok (.istore 4, 2) := fo_54 (fw_get da_cX0_leader_1 10 rfl)
theorem dX0_leader_55 : decode cX0_leader 55 = .ok (.iinc 5 1, 3) := fo_132 (fw_get da_cX0_leader_1 11 rfl) rfl (by decide +kernel)
theorem dX0_leader_58 : decode cX0_leader 58 = .ok (.goto (-49), 3) := fo_167 (fw_get da_cX0_leader_1 12 rfl) (by decide +kernel)
theorem dX0_leader_61 : decode cX0_leader 61 = .ok (.aload_n 0, 1) := fo_42 (fw_get da_cX0_leader_1 13 rfl)
theorem dX0_leader_62 : decode cX0_leader 62 = .ok (.iload_n 3, 1) := fo_29 (fw_get da_cX0_leader_1 14 rfl)
theorem dX0_leader_63 : decode cX0_leader 63 = .ok (.iload_n 1, 1) := fo_27 (fw_get da_cX0_leader_1 15 rfl)
theorem dX0_leader_64 : decode cX0_leader 64 = .ok (.iload_n 2, 1) := fo_28 (fw_get da_cX0_leader_1 16 rfl)
theorem dX0_leader_65 : decode cX0_leader 65 = .ok (.invokevirtual 24, 3) := fo_182 (fw_get da_cX0_leader_1 17 rfl)
theorem dX0_leader_68 : decode cX0_leader 68 = .ok (.iload_n 2, 1) := fo_28 (fw_get da_cX0_leader_1 18 rfl)
theorem dX0_leader_69 : decode cX0_leader 69 = .ok (.iload_n 1, 1) := fo_27 (fw_get da_cX0_leader_1 19 rfl)
def dt_cX0_leader_2 : List (Nat × Nat × Nat × Nat) := [(70, 100, 0, 0), (71, 4, 0, 0), (72, 5, 0, 0), (73, 184, 2, 28), (76, 153, 2, 7), (79, 29, 0, 0), (80, 167, 2, 5), (83, 18, 1, 23), (85, 172, 0, 0)]
theorem da_cX0_leader_2 : fw dt_cX0_leader_2 0 cX0_leader.data.toList = true := by decide +kernel
theorem dX0_leader_70 : decode cX0_leader 70 = .ok (.isub, 1) := fo_100 (fw_get da_cX0_leader_2 0 rfl)
theorem dX0_leader_71 : decode cX0_leader 71 = .ok (.iconst 1, 1) := fo_4 (fw_get da_cX0_leader_2 1 rfl)
theorem dX0_leader_72 : decode cX0_leader 72 = .ok (.iconst 2, 1) := fo_5 (fw_get da_cX0_leader_2 2 rfl)
theorem dX0_leader_73 : decode cX0_leader 73 = .ok (.invokestatic 28, 3) := fo_184 (fw_get da_cX0_leader_2 3 rfl)
theorem dX0_leader_76 : decode cX0_leader 76 = .ok (.ifCond .eq 7, 3) := fo_153 (fw_get da_cX0_leader_2 4 rfl) (by decide +kernel)
theorem dX0_leader_79 : decode cX0_leader 79 = .ok (.iload_n 3, 1) := fo_29 (fw_get da_cX0_leader_2 5 rfl)
theorem dX0_leader_80 : decode cX0_leader 80 = .ok (.goto 5, 3) := fo_167 (fw_get da_cX0_leader_2 6 rfl) (by decide +kernel)
theorem dX0_leader_83 : decode cX0_leader 83 = .ok (.ldc 23, 2) := fo_18 (fw_get da_cX0_leader_2 7 rfl)
theorem dX0_leader_85 : decode cX0_leader 85 = .ok (.ireturn, 1) := fo_172 (fw_get da_cX0_leader_2 8 rfl)


set_option maxHeartbeats 4000000 in
set_option maxRecDepth 100000 in
theorem c_X0_leader (l : Launch) (dC : Nat → ClassId) (dI : Nat → Nat → Nat) (h0 : Nat) (h1 : Nat) (cyI : ClassId) (len : Int32) (f : Nat → Int32) (p0 : Int32) (p1 : Int32) (b0 : 0 ≤ p0.toInt) (b1 : p1.toInt ≤ 160) : Met l yX0_leader wsX0_leader ({ frames := 1, cells := 0, slots := 0, locals := 45 }) (va_Pc [.ref h0, .int p0, .int p1] (fun U => va_P (dC, dI) vwCl [kx_0 h0 h1 len, kx_a h1 cyI 160 f] U.heap ∧ va_K (dC, dI) vwCl [(cyI, .int)] U ∧ va_Nw (.methodLinkNest RX0 28 yX4_isHeavy RX4) U)) (vp_Si (fun r : Int32 => True)) 0 0 (fun _ => False) := by
  refine Met.ofW (cc := cX0_leader) (maxL := 6) (ret := (some .int)) (by decide) rfl ?_
  intro p e s m args below meth c s₁ B hml hv
  obtain ⟨rfl, hP, hK, hN0⟩ := hv
  have hx := B.exec
  have hb := B.bytes
  have hr := B.returns
  have hts := atoms_spec (ws := wsX0_leader) B.pre
  have hown : s.vm.findClass RX0 = some m.cls := findClass_of_methodNamed B.named
  have hlocks := B.notSynchronized
  have hP : va_P (dC, dI) vwCl [kx_0 h0 h1 len, kx_a h1 cyI 160 f] s.heap := hP
  have hl := lv_entry ([.ref h0, .int p0, .int p1]) (n := 6) (Nat.le_of_ble_eq_true rfl)
  rw [lg_entry_eq]
  generalize (lg_sl ([.ref h0, .int p0, .int p1]) ++ List.replicate (6 - (lg_sl ([.ref h0, .int p0, .int p1])).length) Slot.unset).toArray = ls at hl ⊢
  have hl : lv_has ls 6 [(0, .ref h0), (1, .int p0), (2, .int p1)] := hl
  have hk_23 := hts (.constant RX0 23 (-40000)) (List.mem_of_getElem? (i := 1) rfl)
  have hz_RX4 := hts (.initialized RX4) (List.mem_of_getElem? (i := 9) rfl)
  have ht_X4_isHeavy := hts (.static yX4_isHeavy) (List.mem_of_getElem? (i := 8) rfl)
  have hf_9 := hts (.fieldLink RX0 9 "MajorityIndex$Row" "cell" "[I") (List.mem_of_getElem? (i := 2) rfl)
  have hi_0 : ∀ w ∈ u_ws RX0 TX0 2, w ∈ wsX0_leader := fun w h => List.mem_cons_of_mem _ (List.mem_append_right _ h)
  refine lv_ldc (v := (-40000)) hx hb hown hk_23 dX0_leader_0 ?_
  refine lv_istore_n (lv' := [(3, .int (-40000)), (0, .ref h0), (1, .int p0), (2, .int p1)]) hx hb dX0_leader_2 rfl hl (by decide) rfl (fun ls hl => ?_)
  refine lv_iconst (v := 0) hx hb dX0_leader_3 (by decide) ?_
  refine lv_istore (lv' := [(4, .int 0), (3, .int (-40000)), (0, .ref h0), (1, .int p0), (2, .int p1)]) hx hb dX0_leader_4 hl (by decide) rfl (fun ls hl => ?_)
  refine lv_iload_n hx hb dX0_leader_6 rfl (lv_at hl 3 rfl) ?_
  refine lv_istore (lv' := [(5, .int p0), (4, .int 0), (3, .int (-40000)), (0, .ref h0), (1, .int p0), (2, .int p1)]) hx hb dX0_leader_7 hl (by decide) rfl (fun ls hl => ?_)
  have LP1 : ∀ (n : Nat) (i : Int32) (left : Int32) (lead : Int32), (p0.toInt ≤ i.toInt) → (p1.toInt - i.toInt).toNat < n → ∀ (ls : Array Slot), lv_has ls 6 [(5, .int i), (4, .int lead), (3, .int left), (0, .ref h0), (1, .int p0), (2, .int p1)] → W p l e (headSpec wsX0_leader ({ frames := 1, cells := 0, slots := 0, locals := 45 })).room s m ([.ref h0, .int p0, .int p1] : List Value).toArray below meth c s.heap [] 0 0 (MQ below (vp_Si (fun r : Int32 => True)) ([.ref h0, .int p0, .int p1] : List Value).toArray s 0 0 (fun _ => False)) (F0 m 9 ls []) := by
    intro n
    induction n with
    | zero => intro i left lead LP1_h0 hn; exact absurd hn (Nat.not_lt_zero _)
    | succ n ih1 =>
      intro i left lead LP1_h0 hn1 ls hl
      refine lv_iload hx hb dX0_leader_9 (lv_at hl 0 rfl) ?_
      refine lv_iload_n hx hb dX0_leader_11 rfl (lv_at hl 5 rfl) ?_
      refine lv_icmp_ge (tgt := 61) hx hb dX0_leader_12 (by decide) (fun c_1 => ?_) (fun c_1 => ?_)
      · have i_1 : p1.toInt ≤ i.toInt := kc_le c_1
        refine lv_aload_n hx hb dX0_leader_61 rfl (lv_at hl 3 rfl) ?_
        refine lv_iload_n hx hb dX0_leader_62 rfl (lv_at hl 2 rfl) ?_
        refine lv_iload_n hx hb dX0_leader_63 rfl (lv_at hl 4 rfl) ?_
        refine lv_iload_n hx hb dX0_leader_64 rfl (lv_at hl 5 rfl) ?_
        have hPc := hP
        have hKc := hK
        refine vp_callSi (W.runV (As := [.int left, .int p0, .int p1]) (rest := []) ⟨hx, hb, hml, hown, hts⟩ (c_X0_oftenIn l dC dI h0 h1 cyI len f left p0 p1 b0 b1) (cwV 3 hts gX0_leader_X0_oftenIn rfl rfl rfl (by decide +kernel) ⟨Nat.le_of_ble_eq_true rfl, Nat.le_of_ble_eq_true rfl⟩) ⟨fun a U g mk q => by obtain ⟨q0, qP, qK⟩ := q; exact ⟨q0, qP, va_K.moved (u := U) (U := U.calling g mk a) (Vm.Alike.refl U.vm) qK⟩, kx_rc0 hKc hPc (q0 := 0) rfl, fun U hU hW => ⟨rfl, by rw [hU]; exact hPc, va_K.moved hW.alike hKc⟩⟩ rfl rfl hl.1 rfl (lv_room (Nat.le_of_ble_eq_true rfl)) dX0_leader_65 ⟨Nat.le_of_ble_eq_true rfl, Nat.le_of_ble_eq_true rfl⟩) (fun r_2 w_2 => ?_)
        have w_2 : r_2.toInt = (cnt f left p0.toNatClampNeg (p1.toInt - p0.toInt).toNat : Int) := w_2
        refine lv_iload_n hx hb dX0_leader_68 rfl (lv_at hl 5 rfl) ?_
        refine lv_iload_n hx hb dX0_leader_69 rfl (lv_at hl 4 rfl) ?_
        refine lv_isub hx hb dX0_leader_70 ?_
        refine lv_topi (fun y_3 ey_3 => ?_)
        refine lv_iconst (v := 1) hx hb dX0_leader_71 (by decide) ?_
        refine lv_iconst (v := 2) hx hb dX0_leader_72 (by decide) ?_
        have hPc := hP.sub (ws' := []) [] rfl
        have hKc := hK.sub (tys' := []) [] rfl
        refine vp_callSi (ki_ofRun (va_runSN (As := [.int r_2, .int y_3, .int 1, .int 2]) (rest := []) ⟨hx, hb, hml, hown, hts⟩ (c_X4_isHeavy l dC dI r_2 y_3 1 2) ⟨(va_cnB 4 hts ggX0_leader_X4_isHeavy rfl rfl rfl hN0 hz_RX4 (by decide +kernel) ⟨Nat.le_of_ble_eq_true rfl, Nat.le_of_ble_eq_true rfl⟩), ht_X4_isHeavy, trivial⟩ ⟨fun a U g mk q => by obtain ⟨q0, qP, qK⟩ := q; exact ⟨q0, qP, va_K.moved (u := U) (U := U.calling g mk a) (Vm.Alike.refl U.vm) qK⟩, fun U hU hW => ⟨rfl, by rw [hU]; exact hPc, va_K.moved hW.alike hKc⟩⟩ rfl rfl hl.1 rfl (lv_room (Nat.le_of_ble_eq_true rfl)) dX0_leader_73 ⟨Nat.le_of_ble_eq_true rfl, Nat.le_of_ble_eq_true rfl⟩)) (fun r_4 w_4 => ?_)
        rcases w_4 with ⟨rfl, w_4⟩ | ⟨rfl, w_4⟩
        · have w_4 : (0 : Int) ≤ 1 := w_4
          refine lv_if_eq (tgt := 83) hx hb dX0_leader_76 (by decide) (fun c_5 => ?_) (fun c_5 => ?_)
          · exact absurd c_5 (by decide)
          · refine lv_iload_n hx hb dX0_leader_79 rfl (lv_at hl 2 rfl) ?_
            refine lv_goto (tgt := 85) hx hb dX0_leader_80 (by decide) ?_
            exact W.iret (v := left) hx hb hr (hlocks := hlocks) (fun t ht hW => ⟨left, rfl, trivial, ht⟩) (fun q hq => by cases hq) dX0_leader_85
        · have w_4 : (0 : Int) ≤ 1 := w_4
          refine lv_if_eq (tgt := 83) hx hb dX0_leader_76 (by decide) (fun c_6 => ?_) (fun c_6 => ?_)
          · refine lv_ldc (v := (-40000)) hx hb hown hk_23 dX0_leader_83 ?_
            exact W.iret (v := (-40000)) hx hb hr (hlocks := hlocks) (fun t ht hW => ⟨(-40000), rfl, trivial, ht⟩) (fun q hq => by cases hq) dX0_leader_85
          · exact absurd c_6 (by decide)
      · have i_1 : i.toInt < p1.toInt := kc_nle c_1
        refine lv_iload hx hb dX0_leader_15 (lv_at hl 1 rfl) ?_
        refine lv_if_ne (tgt := 34) hx hb dX0_leader_17 (by decide) (fun c_7 => ?_) (fun c_7 => ?_)
        · have i_7 : ¬ lead.toInt = 0 := kc_ne c_7
          refine lv_iload hx hb dX0_leader_34 (lv_at hl 1 rfl) ?_
          refine lv_aload_n hx hb dX0_leader_36 rfl (lv_at hl 3 rfl) ?_
          refine va_get (D := (dC, dI)) (ci := 0) (v := .ref h1) (C := RX0) (T := TX0) (N := 2) hx hb hts hi_0 hown hK hP 0 rfl rfl 0 (by decide) hf_9 (fun _ h9 => h9) rfl dX0_leader_37 ?_
          refine lv_iload hx hb dX0_leader_40 (lv_at hl 0 rfl) ?_
          refine va_iald hx hb hK hP 1 0 rfl rfl (ki_in (om_0 b0 LP1_h0) (om_1 b1 i_1)) dX0_leader_42 ?_
          refine lv_topi (fun y_8 ey_8 => ?_)
          have j_8 : y_8.toInt = (f i.toNatClampNeg).toInt := congrArg Int32.toInt ey_8
          refine lv_iload_n hx hb dX0_leader_43 rfl (lv_at hl 2 rfl) ?_
          refine lv_icmp_ne (tgt := 51) hx hb dX0_leader_44 (by decide) (fun c_9 => ?_) (fun c_9 => ?_)
          · have i_9 : ¬ y_8.toInt = left.toInt := kc_ne c_9
            refine lv_iconst (v := (-1)) hx hb dX0_leader_51 (by decide) ?_
            refine lv_iadd hx hb dX0_leader_52 ?_
            refine lv_topi (fun y_10 ey_10 => ?_)
            refine lv_istore (lv' := [(4, .int y_10), (5, .int i), (3, .int left), (0, .ref h0), (1, .int p0), (2, .int p1)]) hx hb dX0_leader_53 hl (by decide) rfl (fun ls hl => ?_)
            obtain ⟨x_11, ex_11⟩ : ∃ y : Int32, y = i + 1 := ⟨_, rfl⟩
            have i_11 : x_11.toInt = i.toInt + 1 := ki_add ex_11 rfl rfl (om_2 b0 LP1_h0) (om_3 b1 i_1)
            refine lv_iinc (v := x_11) (lv' := [(5, .int x_11), (4, .int y_10), (3, .int left), (0, .ref h0), (1, .int p0), (2, .int p1)]) hx hb dX0_leader_55 hl (k := 1) rfl (by rw [ex_11]; rfl) (by decide) rfl (fun ls hl => ?_)
            refine lv_goto (tgt := 9) hx hb dX0_leader_58 (by decide) ?_
            exact ih1 x_11 left y_10 (om_4 LP1_h0 i_11) (om_mu hn1 (om_5 i_11) (om_6 i_1)) ls (lv_sub hl [0, 1, 2, 3, 4, 5] rfl)
          · have i_9 : y_8.toInt = left.toInt := kc_eq c_9
            refine lv_iconst (v := 1) hx hb dX0_leader_47 (by decide) ?_
            refine lv_goto (tgt := 52) hx hb dX0_leader_48 (by decide) ?_
            refine lv_iadd hx hb dX0_leader_52 ?_
            refine lv_topi (fun y_12 ey_12 => ?_)
            refine lv_istore (lv' := [(4, .int y_12), (5, .int i), (3, .int left), (0, .ref h0), (1, .int p0), (2, .int p1)]) hx hb dX0_leader_53 hl (by decide) rfl (fun ls hl => ?_)
            obtain ⟨x_13, ex_13⟩ : ∃ y : Int32, y = i + 1 := ⟨_, rfl⟩
            have i_13 : x_13.toInt = i.toInt + 1 := ki_add ex_13 rfl rfl (om_2 b0 LP1_h0) (om_3 b1 i_1)
            refine lv_iinc (v := x_13) (lv' := [(5, .int x_13), (4, .int y_12), (3, .int left), (0, .ref h0), (1, .int p0), (2, .int p1)]) hx hb dX0_leader_55 hl (k := 1) rfl (by rw [ex_13]; rfl) (by decide) rfl (fun ls hl => ?_)
            refine lv_goto (tgt := 9) hx hb dX0_leader_58 (by decide) ?_
            exact ih1 x_13 left y_12 (om_4 LP1_h0 i_13) (om_mu hn1 (om_5 i_13) (om_6 i_1)) ls (lv_sub hl [0, 1, 2, 3, 4, 5] rfl)
        · have i_7 : lead.toInt = 0 := kc_eq c_7
          refine lv_aload_n hx hb dX0_leader_20 rfl (lv_at hl 3 rfl) ?_
          refine va_get (D := (dC, dI)) (ci := 0) (v := .ref h1) (C := RX0) (T := TX0) (N := 2) hx hb hts hi_0 hown hK hP 0 rfl rfl 0 (by decide) hf_9 (fun _ h9 => h9) rfl dX0_leader_21 ?_
          refine lv_iload hx hb dX0_leader_24 (lv_at hl 0 rfl) ?_
          refine va_iald hx hb hK hP 1 0 rfl rfl (ki_in (om_0 b0 LP1_h0) (om_1 b1 i_1)) dX0_leader_26 ?_
          refine lv_topi (fun y_14 ey_14 => ?_)
          have j_14 : y_14.toInt = (f i.toNatClampNeg).toInt := congrArg Int32.toInt ey_14
          refine lv_istore_n (lv' := [(3, .int y_14), (5, .int i), (4, .int lead), (0, .ref h0), (1, .int p0), (2, .int p1)]) hx hb dX0_leader_27 rfl hl (by decide) rfl (fun ls hl => ?_)
          refine lv_iconst (v := 1) hx hb dX0_leader_28 (by decide) ?_
          refine lv_istore (lv' := [(4, .int 1), (3, .int y_14), (5, .int i), (0, .ref h0), (1, .int p0), (2, .int p1)]) hx hb dX0_leader_29 hl (by decide) rfl (fun ls hl => ?_)
          refine lv_goto (tgt := 55) hx hb dX0_leader_31 (by decide) ?_
          obtain ⟨x_15, ex_15⟩ : ∃ y : Int32, y = i + 1 := ⟨_, rfl⟩
          have i_15 : x_15.toInt = i.toInt + 1 := ki_add ex_15 rfl rfl (om_2 b0 LP1_h0) (om_3 b1 i_1)
          refine lv_iinc (v := x_15) (lv' := [(5, .int x_15), (4, .int 1), (3, .int y_14), (0, .ref h0), (1, .int p0), (2, .int p1)]) hx hb dX0_leader_55 hl (k := 2) rfl (by rw [ex_15]; rfl) (by decide) rfl (fun ls hl => ?_)
          refine lv_goto (tgt := 9) hx hb dX0_leader_58 (by decide) ?_
          have k_16 : (1 : Int32).toInt = 1 := rfl
          exact ih1 x_15 y_14 1 (om_4 LP1_h0 i_15) (om_mu hn1 (om_5 i_15) (om_6 i_1)) ls (lv_sub hl [0, 1, 2, 3, 4, 5] rfl)
  have k_17 : ((-40000) : Int32).toInt = -40000 := rfl
  have k_18 : (0 : Int32).toInt = 0 := rfl
  exact LP1 ((p1.toInt - p0.toInt : Int).toNat + 1) p0 (-40000) 0 om_7 (Nat.lt_succ_self _) ls (lv_sub hl [0, 1, 2, 3, 4, 5] rfl)

set_option maxHeartbeats 4000000 in
set_option maxRecDepth 100000 in
theorem c_X0_firstLike (l : Launch) (dC : Nat → ClassId) (dI : Nat → Nat → Nat) (h0 : Nat) (h1 : Nat) (cyI : ClassId) (len : Int32) (f : Nat → Int32) (p0 : Int32) (b0 : 0 ≤ p0.toInt) (b1 : p0.toInt < 160) : Met l yX0_firstLike wsX0_firstLike ({ frames := 0, cells := 0, slots := 0, locals := 0 }) (va_Pc [.ref h0, .int p0] (fun U => va_P (dC, dI) vwCl [kx_0 h0 h1 len, kx_a h1 cyI 160 f] U.heap ∧ va_K (dC, dI) vwCl [(cyI, .int)] U)) (vp_Si (fun r : Int32 => 0 ≤ r.toInt ∧ r.toInt ≤ p0.toInt)) 0 0 (fun _ => False) := by
  refine kx_stS (ws := wsX0_firstLike) (cc := cX0_firstLike) (maxL := 3) (ret := (some .int)) (by decide) rfl (Nat.le_of_ble_eq_true rfl) ?_
  intro p e s m below meth c ls hx hb hr hlocks hts hown hml hP hK hl
  have hown : s.vm.findClass RX0 = some m.cls := hown
  have hl : lv_has ls 3 [(0, .ref h0), (1, .int p0)] := hl
  have hf_9 := hts (.fieldLink RX0 9 "MajorityIndex$Row" "cell" "[I") (List.mem_of_getElem? (i := 1) rfl)
  have hi_0 : ∀ w ∈ u_ws RX0 TX0 2, w ∈ wsX0_firstLike := fun w h => List.mem_cons_of_mem _ (List.mem_append_right _ h)
  refine lv_iconst (v := 0) hx hb dX0_firstLike_0 (by decide) ?_
  refine lv_istore_n (lv' := [(2, .int 0), (0, .ref h0), (1, .int p0)]) hx hb dX0_firstLike_1 rfl hl (by decide) rfl (fun ls hl => ?_)
  have LP1 : ∀ (n : Nat) (i : Int32), (0 ≤ i.toInt) → (p0.toInt - i.toInt).toNat < n → ∀ (ls : Array Slot), lv_has ls 3 [(2, .int i), (0, .ref h0), (1, .int p0)] → W p l e (headSpec wsX0_firstLike ({ frames := 0, cells := 0, slots := 0, locals := 0 })).room s m ([.ref h0, .int p0] : List Value).toArray below meth c s.heap [] 0 0 (MQ below (vp_Si (fun r : Int32 => 0 ≤ r.toInt ∧ r.toInt ≤ p0.toInt)) ([.ref h0, .int p0] : List Value).toArray s 0 0 (fun _ => False)) (F0 m 2 ls []) := by
    intro n
    induction n with
    | zero => intro i LP1_h0 hn; exact absurd hn (Nat.not_lt_zero _)
    | succ n ih1 =>
      intro i LP1_h0 hn1 ls hl
      refine lv_iload_n hx hb dX0_firstLike_2 rfl (lv_at hl 0 rfl) ?_
      refine lv_iload_n hx hb dX0_firstLike_3 rfl (lv_at hl 2 rfl) ?_
      refine lv_icmp_ge (tgt := 30) hx hb dX0_firstLike_4 (by decide) (fun c_1 => ?_) (fun c_1 => ?_)
      · have i_1 : p0.toInt ≤ i.toInt := kc_le c_1
        refine lv_iload_n hx hb dX0_firstLike_30 rfl (lv_at hl 2 rfl) ?_
        exact W.iret (v := p0) hx hb hr (hlocks := hlocks) (fun t ht hW => ⟨p0, rfl, (by (try dsimp only); omega), ht⟩) (fun q hq => by cases hq) dX0_firstLike_31
      · have i_1 : i.toInt < p0.toInt := kc_nle c_1
        refine lv_aload_n hx hb dX0_firstLike_7 rfl (lv_at hl 1 rfl) ?_
        refine va_get (D := (dC, dI)) (ci := 0) (v := .ref h1) (C := RX0) (T := TX0) (N := 2) hx hb hts hi_0 hown hK hP 0 rfl rfl 0 (by decide) hf_9 (fun _ h9 => h9) rfl dX0_firstLike_8 ?_
        refine lv_iload_n hx hb dX0_firstLike_11 rfl (lv_at hl 0 rfl) ?_
        refine va_iald hx hb hK hP 1 0 rfl rfl (ki_in (om_10 LP1_h0) (om_83 b1 i_1)) dX0_firstLike_12 ?_
        refine lv_topi (fun y_2 ey_2 => ?_)
        have j_2 : y_2.toInt = (f i.toNatClampNeg).toInt := congrArg Int32.toInt ey_2
        refine lv_aload_n hx hb dX0_firstLike_13 rfl (lv_at hl 1 rfl) ?_
        refine va_get (D := (dC, dI)) (ci := 0) (v := .ref h1) (C := RX0) (T := TX0) (N := 2) hx hb hts hi_0 hown hK hP 0 rfl rfl 0 (by decide) hf_9 (fun _ h9 => h9) rfl dX0_firstLike_14 ?_
        refine lv_iload_n hx hb dX0_firstLike_17 rfl (lv_at hl 2 rfl) ?_
        refine va_iald hx hb hK hP 1 0 rfl rfl (ki_in (om_10 b0) (om_12 b1)) dX0_firstLike_18 ?_
        refine lv_topi (fun y_3 ey_3 => ?_)
        have j_3 : y_3.toInt = (f p0.toNatClampNeg).toInt := congrArg Int32.toInt ey_3
        refine lv_icmp_ne (tgt := 24) hx hb dX0_firstLike_19 (by decide) (fun c_4 => ?_) (fun c_4 => ?_)
        · have i_4 : ¬ y_2.toInt = y_3.toInt := kc_ne c_4
          obtain ⟨x_5, ex_5⟩ : ∃ y : Int32, y = i + 1 := ⟨_, rfl⟩
          have i_5 : x_5.toInt = i.toInt + 1 := ki_add ex_5 rfl rfl (om_13 LP1_h0) (om_84 b1 i_1)
          refine lv_iinc (v := x_5) (lv' := [(2, .int x_5), (0, .ref h0), (1, .int p0)]) hx hb dX0_firstLike_24 hl (k := 0) rfl (by rw [ex_5]; rfl) (by decide) rfl (fun ls hl => ?_)
          refine lv_goto (tgt := 2) hx hb dX0_firstLike_27 (by decide) ?_
          exact ih1 x_5 (om_34 LP1_h0 i_5) (om_mu hn1 (om_5 i_5) (om_6 i_1)) ls (lv_sub hl [0, 1, 2] rfl)
        · have i_4 : y_2.toInt = y_3.toInt := kc_eq c_4
          refine lv_iload_n hx hb dX0_firstLike_22 rfl (lv_at hl 0 rfl) ?_
          exact W.iret (v := i) hx hb hr (hlocks := hlocks) (fun t ht hW => ⟨i, rfl, (by (try dsimp only); omega), ht⟩) (fun q hq => by cases hq) dX0_firstLike_23
  have k_6 : (0 : Int32).toInt = 0 := rfl
  exact LP1 ((p0.toInt - 0 : Int).toNat + 1) 0 om_35 (Nat.lt_succ_self _) ls (lv_sub hl [0, 1, 2] rfl)

set_option maxHeartbeats 4000000 in
set_option maxRecDepth 100000 in
theorem c_X0_takeOut (l : Launch) (dC : Nat → ClassId) (dI : Nat → Nat → Nat) (h0 : Nat) (h1 : Nat) (cyI : ClassId) (len : Int32) (f : Nat → Int32) (p0 : Int32) (sz : Nat) (a0 : 0 ≤ p0.toInt) (a1 : p0.toInt < len.toInt) (a2 : len.toInt ≤ 160) : kx_MQ l (dC, dI) yX0_takeOut wsX0_takeOut ({ frames := 1, cells := 0, slots := 0, locals := 45 }) [.ref h0, .int p0] [kx_0 h0 h1 len, kx_a h1 cyI 160 f] [(cyI, .int)] sz (fun A => va_Qi (fun (r : Int32) (u : Int32 × (Nat → Int32)) => u.1.toInt = len.toInt - 1 ∧ u.2 = shL f p0.toNatClampNeg u.1.toNatClampNeg ∧ r = f p0.toNatClampNeg) (fun (u : Int32 × (Nat → Int32)) (t : State) => va_P (dC, dI) vwCl [kx_0 h0 h1 u.1, kx_a h1 cyI 160 u.2] t.heap ∧ va_K (dC, dI) vwCl [(cyI, .int)] t ∧ va_D A [kx_0 h0 h1 u.1, kx_a h1 cyI 160 u.2]) A) := by
  refine kx_stQ (ws := wsX0_takeOut) (cc := cX0_takeOut) (maxL := 4) (ret := (some .int)) (by decide) rfl (Nat.le_of_ble_eq_true rfl) ?_
  intro p e s m below meth c A ls hx hb hr hlocks hts hown hml hA hS hP hK hD hl
  have hown : s.vm.findClass RX0 = some m.cls := hown
  have hl : lv_has ls 4 [(0, .ref h0), (1, .int p0)] := hl
  have hf_9 := hts (.fieldLink RX0 9 "MajorityIndex$Row" "cell" "[I") (List.mem_of_getElem? (i := 2) rfl)
  have hi_0 : ∀ w ∈ u_ws RX0 TX0 2, w ∈ wsX0_takeOut := fun w h => List.mem_cons_of_mem _ (List.mem_append_right _ h)
  have hf_15 := hts (.fieldLink RX0 15 "MajorityIndex$Row" "length" "I") (List.mem_of_getElem? (i := 3) rfl)
  refine lv_aload_n hx hb dX0_takeOut_0 rfl (lv_at hl 0 rfl) ?_
  refine lv_iload_n hx hb dX0_takeOut_1 rfl (lv_at hl 1 rfl) ?_
  have hPc := hP.sub (ws' := [kx_0 h0 h1 len]) [0] rfl
  have hKc := hK.sub (tys' := []) [] rfl
  refine vp_callSi (W.runV (As := [.int p0]) (rest := []) ⟨hx, hb, hml, hown, hts⟩ (c_X0_hasPlace l dC dI h0 h1 len p0) (cwV 1 hts gX0_takeOut_X0_hasPlace rfl rfl rfl (by decide +kernel) ⟨Nat.le_of_ble_eq_true rfl, Nat.le_of_ble_eq_true rfl⟩) ⟨fun a U g mk q => by obtain ⟨q0, qP, qK⟩ := q; exact ⟨q0, qP, va_K.moved (u := U) (U := U.calling g mk a) (Vm.Alike.refl U.vm) qK⟩, kx_rc0 hKc hPc (q0 := 0) rfl, fun U hU hW => ⟨rfl, by rw [hU]; exact hPc, va_K.moved hW.alike hKc⟩⟩ rfl rfl hl.1 rfl (lv_room (Nat.le_of_ble_eq_true rfl)) dX0_takeOut_2 ⟨Nat.le_of_ble_eq_true rfl, Nat.le_of_ble_eq_true rfl⟩) (fun r_1 w_1 => ?_)
  rcases w_1 with ⟨rfl, w_1⟩ | ⟨rfl, w_1⟩
  · have w_1 : (0 ≤ p0.toInt ∧ p0.toInt < len.toInt) := w_1
    refine lv_if_ne (tgt := 11) hx hb dX0_takeOut_5 (by decide) (fun c_2 => ?_) (fun c_2 => ?_)
    · refine lv_aload_n hx hb dX0_takeOut_11 rfl (lv_at hl 0 rfl) ?_
      refine va_get (D := (dC, dI)) (ci := 0) (v := .ref h1) (C := RX0) (T := TX0) (N := 2) hx hb hts hi_0 hown hK hP 0 rfl rfl 0 (by decide) hf_9 (fun _ h9 => h9) rfl dX0_takeOut_12 ?_
      refine lv_iload_n hx hb dX0_takeOut_15 rfl (lv_at hl 1 rfl) ?_
      refine va_iald hx hb hK hP 1 0 rfl rfl (ki_in (om_10 a0) (om_85 a1 a2)) dX0_takeOut_16 ?_
      refine lv_topi (fun y_3 ey_3 => ?_)
      have j_3 : y_3.toInt = (f p0.toNatClampNeg).toInt := congrArg Int32.toInt ey_3
      refine lv_istore_n (lv' := [(2, .int y_3), (0, .ref h0), (1, .int p0)]) hx hb dX0_takeOut_17 rfl hl (by decide) rfl (fun ls hl => ?_)
      refine lv_iload_n hx hb dX0_takeOut_18 rfl (lv_at hl 2 rfl) ?_
      refine lv_istore_n (lv' := [(3, .int p0), (2, .int y_3), (0, .ref h0), (1, .int p0)]) hx hb dX0_takeOut_19 rfl hl (by decide) rfl (fun ls hl => ?_)
      have LP1 : ∀ (n : Nat) (i : Int32) (fc : Nat → Int32), (p0.toInt ≤ i.toInt) → (i.toInt ≤ len.toInt - 1) → (fc = shL f p0.toNatClampNeg i.toNatClampNeg) → (len.toInt - i.toInt).toNat < n → ∀ (H : Heap) (locs : List Loc), va_P (dC, dI) vwCl [kx_0 h0 h1 len, kx_a h1 cyI 160 fc] H → va_D A [kx_0 h0 h1 len, kx_a h1 cyI 160 fc] → va_S A s.heap H locs → ∀ (ls : Array Slot), lv_has ls 4 [(3, .int i), (2, .int y_3), (0, .ref h0), (1, .int p0)] → W p l e (headSpec wsX0_takeOut ({ frames := 1, cells := 0, slots := 0, locals := 45 })).room s m ([.ref h0, .int p0] : List Value).toArray below meth c H locs 0 0 (MQ below (va_Qi (fun (r : Int32) (u : Int32 × (Nat → Int32)) => u.1.toInt = len.toInt - 1 ∧ u.2 = shL f p0.toNatClampNeg u.1.toNatClampNeg ∧ r = f p0.toNatClampNeg) (fun (u : Int32 × (Nat → Int32)) (t : State) => va_P (dC, dI) vwCl [kx_0 h0 h1 u.1, kx_a h1 cyI 160 u.2] t.heap ∧ va_K (dC, dI) vwCl [(cyI, .int)] t ∧ va_D A [kx_0 h0 h1 u.1, kx_a h1 cyI 160 u.2]) A) ([.ref h0, .int p0] : List Value).toArray s 0 0 A) (F0 m 20 ls []) := by
        intro n
        induction n with
        | zero => intro i fc LP1_h0 LP1_h1 LP1_h2 hn; exact absurd hn (Nat.not_lt_zero _)
        | succ n ih1 =>
          intro i fc LP1_h0 LP1_h1 LP1_h2 hn1 H locs hP hD hS ls hl
          have n_i := ki_nat i rfl (by omega)
          have n_p := ki_nat p0 rfl (by omega)
          refine lv_iload_n hx hb dX0_takeOut_20 rfl (lv_at hl 0 rfl) ?_
          refine lv_aload_n hx hb dX0_takeOut_21 rfl (lv_at hl 2 rfl) ?_
          refine va_get (D := (dC, dI)) (ci := 0) (v := .int len) (C := RX0) (T := TX0) (N := 2) hx hb hts hi_0 hown hK hP 0 rfl rfl 1 (by decide) hf_15 (fun _ h9 => h9) rfl dX0_takeOut_22 ?_
          refine lv_iconst (v := 1) hx hb dX0_takeOut_25 (by decide) ?_
          refine lv_isub hx hb dX0_takeOut_26 ?_
          refine lv_topi (fun y_4 ey_4 => ?_)
          have i_4 : y_4.toInt = len.toInt - 1 := ki_sub ey_4 rfl rfl (om_86 a1 w_1.1) (om_87 a2)
          refine lv_icmp_ge (tgt := 50) hx hb dX0_takeOut_27 (by decide) (fun c_5 => ?_) (fun c_5 => ?_)
          · have i_5 : y_4.toInt ≤ i.toInt := kc_le c_5
            refine lv_aload_n hx hb dX0_takeOut_50 rfl (lv_at hl 2 rfl) ?_
            refine lv_dup hx hb dX0_takeOut_51 rfl ?_
            refine va_get (D := (dC, dI)) (ci := 0) (v := .int len) (C := RX0) (T := TX0) (N := 2) hx hb hts hi_0 hown hK hP 0 rfl rfl 1 (by decide) hf_15 (fun _ h9 => h9) rfl dX0_takeOut_52 ?_
            refine lv_iconst (v := 1) hx hb dX0_takeOut_55 (by decide) ?_
            refine lv_isub hx hb dX0_takeOut_56 ?_
            refine lv_topi (fun y_6 ey_6 => ?_)
            have i_6 : y_6.toInt = len.toInt - 1 := ki_sub ey_6 rfl rfl (om_86 a1 w_1.1) (om_87 a2)
            refine va_put (D := (dC, dI)) (ci := 0) (v := .int y_6) (ty := .int) (C := RX0) (T := TX0) (N := 2) hx hb hts hi_0 tyX0 tyX0_ok nmX0 hown hK hP hD hS 0 rfl rfl 1 (by decide) hf_15 (fun _ h9 => h9) rfl (by decide +kernel) rfl rfl (Nat.le_of_ble_eq_true rfl) dX0_takeOut_57 (fun H locs hP hD hS => ?_)
            obtain ⟨hP, hD⟩ := kx_re (w2 := [kx_0 h0 h1 y_6, kx_a h1 cyI 160 fc]) hP hD rfl
            refine lv_iload_n hx hb dX0_takeOut_60 rfl (lv_at hl 1 rfl) ?_
            have hP9 := hP
            have hD9 := hD
            have hK9 := hK
            have n_l := ki_nat y_6 rfl (by omega)
            exact W.iret (v := y_3) hx hb hr (hlocks := hlocks) (fun t ht hW => ⟨⟨y_3, (y_6, fc), rfl, ⟨(by (try dsimp only); omega), (by (try dsimp only); rw [LP1_h2, show i.toNatClampNeg = y_6.toNatClampNeg by omega]), ey_3⟩, by rw [ht]; exact hP9, va_K.moved hW.alike hK9, hD9⟩, hS.F ht⟩) hS.2.2 dX0_takeOut_61
          · have i_5 : i.toInt < y_4.toInt := kc_nle c_5
            refine lv_aload_n hx hb dX0_takeOut_30 rfl (lv_at hl 2 rfl) ?_
            refine va_get (D := (dC, dI)) (ci := 0) (v := .ref h1) (C := RX0) (T := TX0) (N := 2) hx hb hts hi_0 hown hK hP 0 rfl rfl 0 (by decide) hf_9 (fun _ h9 => h9) rfl dX0_takeOut_31 ?_
            refine lv_iload_n hx hb dX0_takeOut_34 rfl (lv_at hl 0 rfl) ?_
            refine lv_aload_n hx hb dX0_takeOut_35 rfl (lv_at hl 2 rfl) ?_
            refine va_get (D := (dC, dI)) (ci := 0) (v := .ref h1) (C := RX0) (T := TX0) (N := 2) hx hb hts hi_0 hown hK hP 0 rfl rfl 0 (by decide) hf_9 (fun _ h9 => h9) rfl dX0_takeOut_36 ?_
            refine lv_iload_n hx hb dX0_takeOut_39 rfl (lv_at hl 0 rfl) ?_
            refine lv_iconst (v := 1) hx hb dX0_takeOut_40 (by decide) ?_
            refine lv_iadd hx hb dX0_takeOut_41 ?_
            refine lv_topi (fun y_7 ey_7 => ?_)
            have i_7 : y_7.toInt = i.toInt + 1 := ki_add ey_7 rfl rfl (om_2 a0 LP1_h0) (om_88 a2 LP1_h1)
            refine va_iald hx hb hK hP 1 0 rfl rfl (ki_in (om_89 a0 LP1_h0 i_7) (om_90 a2 i_4 i_5 i_7)) dX0_takeOut_42 ?_
            refine lv_topi (fun y_8 ey_8 => ?_)
            have j_8 : y_8.toInt = (fc y_7.toNatClampNeg).toInt := congrArg Int32.toInt ey_8
            refine va_iast hx hb hK hP hD hS 1 0 rfl rfl (ki_in (om_0 a0 LP1_h0) (om_91 a2 LP1_h1)) dX0_takeOut_43 (fun H locs hP hD hS => ?_)
            obtain ⟨hP, hD⟩ := kx_re (w2 := [kx_0 h0 h1 len, kx_a h1 cyI 160 (upd fc i.toNatClampNeg y_8)]) hP hD rfl
            obtain ⟨x_9, ex_9⟩ : ∃ y : Int32, y = i + 1 := ⟨_, rfl⟩
            have i_9 : x_9.toInt = i.toInt + 1 := ki_add ex_9 rfl rfl (om_2 a0 LP1_h0) (om_88 a2 LP1_h1)
            refine lv_iinc (v := x_9) (lv' := [(3, .int x_9), (2, .int y_3), (0, .ref h0), (1, .int p0)]) hx hb dX0_takeOut_44 hl (k := 0) rfl (by rw [ex_9]; rfl) (by decide) rfl (fun ls hl => ?_)
            refine lv_goto (tgt := 20) hx hb dX0_takeOut_47 (by decide) ?_
            have n_y := ki_nat y_7 rfl (by omega)
            have n_x := ki_nat x_9 rfl (by omega)
            exact ih1 x_9 (upd fc i.toNatClampNeg y_8) (om_4 LP1_h0 i_9) (om_92 i_4 i_5 i_9) (by rw [ey_8, LP1_h2]; rw [show y_7.toNatClampNeg = x_9.toNatClampNeg by omega]; exact shL_step (by omega) (by omega)) (om_mu hn1 (om_5 i_9) (om_93 LP1_h1)) _ _ hP hD hS ls (lv_sub hl [0, 1, 2, 3] rfl)
      exact LP1 ((len.toInt - p0.toInt : Int).toNat + 1) p0 f om_7 (om_94 a1) (shL_self _ _).symm (Nat.lt_succ_self _) _ _ hP hD hS ls (lv_sub hl [0, 1, 2, 3] rfl)
    · exact absurd c_2 (by decide)
  · have w_1 : (p0.toInt < 0 ∨ len.toInt ≤ p0.toInt) := w_1
    exfalso; omega

set_option maxHeartbeats 4000000 in
set_option maxRecDepth 100000 in
theorem c_X0_exchange (l : Launch) (dC : Nat → ClassId) (dI : Nat → Nat → Nat) (h0 : Nat) (h1 : Nat) (cyI : ClassId) (len : Int32) (f : Nat → Int32) (p0 : Int32) (p1 : Int32) (sz : Nat) (b0 : 0 ≤ p0.toInt) (b1 : p0.toInt < 160) (b2 : 0 ≤ p1.toInt) (b3 : p1.toInt < 160) : kx_MQ l (dC, dI) yX0_exchange wsX0_exchange ({ frames := 0, cells := 0, slots := 0, locals := 0 }) [.ref h0, .int p0, .int p1] [kx_0 h0 h1 len, kx_a h1 cyI 160 f] [(cyI, .int)] sz (fun A => va_Qv (fun u : (Nat → Int32) => u = upd (upd f p0.toNatClampNeg (f p1.toNatClampNeg)) p1.toNatClampNeg (f p0.toNatClampNeg)) (fun (u : (Nat → Int32)) (t : State) => va_P (dC, dI) vwCl [kx_0 h0 h1 len, kx_a h1 cyI 160 u] t.heap ∧ va_K (dC, dI) vwCl [(cyI, .int)] t ∧ va_D A [kx_0 h0 h1 len, kx_a h1 cyI 160 u]) A) := by
  refine kx_stQ (ws := wsX0_exchange) (cc := cX0_exchange) (maxL := 4) (ret := none) (by decide) rfl (Nat.le_of_ble_eq_true rfl) ?_
  intro p e s m below meth c A ls hx hb hr hlocks hts hown hml hA hS hP hK hD hl
  have hown : s.vm.findClass RX0 = some m.cls := hown
  have hl : lv_has ls 4 [(0, .ref h0), (1, .int p0), (2, .int p1)] := hl
  have hf_9 := hts (.fieldLink RX0 9 "MajorityIndex$Row" "cell" "[I") (List.mem_of_getElem? (i := 1) rfl)
  have hi_0 : ∀ w ∈ u_ws RX0 TX0 2, w ∈ wsX0_exchange := fun w h => List.mem_cons_of_mem _ (List.mem_append_right _ h)
  refine lv_aload_n hx hb dX0_exchange_0 rfl (lv_at hl 0 rfl) ?_
  refine va_get (D := (dC, dI)) (ci := 0) (v := .ref h1) (C := RX0) (T := TX0) (N := 2) hx hb hts hi_0 hown hK hP 0 rfl rfl 0 (by decide) hf_9 (fun _ h9 => h9) rfl dX0_exchange_1 ?_
  refine lv_iload_n hx hb dX0_exchange_4 rfl (lv_at hl 1 rfl) ?_
  refine va_iald hx hb hK hP 1 0 rfl rfl (ki_in (om_10 b0) (om_12 b1)) dX0_exchange_5 ?_
  refine lv_topi (fun y_1 ey_1 => ?_)
  have j_1 : y_1.toInt = (f p0.toNatClampNeg).toInt := congrArg Int32.toInt ey_1
  refine lv_istore_n (lv' := [(3, .int y_1), (0, .ref h0), (1, .int p0), (2, .int p1)]) hx hb dX0_exchange_6 rfl hl (by decide) rfl (fun ls hl => ?_)
  refine lv_aload_n hx hb dX0_exchange_7 rfl (lv_at hl 1 rfl) ?_
  refine va_get (D := (dC, dI)) (ci := 0) (v := .ref h1) (C := RX0) (T := TX0) (N := 2) hx hb hts hi_0 hown hK hP 0 rfl rfl 0 (by decide) hf_9 (fun _ h9 => h9) rfl dX0_exchange_8 ?_
  refine lv_iload_n hx hb dX0_exchange_11 rfl (lv_at hl 2 rfl) ?_
  refine lv_aload_n hx hb dX0_exchange_12 rfl (lv_at hl 1 rfl) ?_
  refine va_get (D := (dC, dI)) (ci := 0) (v := .ref h1) (C := RX0) (T := TX0) (N := 2) hx hb hts hi_0 hown hK hP 0 rfl rfl 0 (by decide) hf_9 (fun _ h9 => h9) rfl dX0_exchange_13 ?_
  refine lv_iload_n hx hb dX0_exchange_16 rfl (lv_at hl 3 rfl) ?_
  refine va_iald hx hb hK hP 1 0 rfl rfl (ki_in (om_10 b2) (om_12 b3)) dX0_exchange_17 ?_
  refine lv_topi (fun y_2 ey_2 => ?_)
  have j_2 : y_2.toInt = (f p1.toNatClampNeg).toInt := congrArg Int32.toInt ey_2
  refine va_iast hx hb hK hP hD hS 1 0 rfl rfl (ki_in (om_10 b0) (om_12 b1)) dX0_exchange_18 (fun H locs hP hD hS => ?_)
  obtain ⟨hP, hD⟩ := kx_re (w2 := [kx_0 h0 h1 len, kx_a h1 cyI 160 (upd f p0.toNatClampNeg y_2)]) hP hD rfl
  refine lv_aload_n hx hb dX0_exchange_19 rfl (lv_at hl 1 rfl) ?_
  refine va_get (D := (dC, dI)) (ci := 0) (v := .ref h1) (C := RX0) (T := TX0) (N := 2) hx hb hts hi_0 hown hK hP 0 rfl rfl 0 (by decide) hf_9 (fun _ h9 => h9) rfl dX0_exchange_20 ?_
  refine lv_iload_n hx hb dX0_exchange_23 rfl (lv_at hl 3 rfl) ?_
  refine lv_iload_n hx hb dX0_exchange_24 rfl (lv_at hl 0 rfl) ?_
  refine va_iast hx hb hK hP hD hS 1 0 rfl rfl (ki_in (om_10 b2) (om_12 b3)) dX0_exchange_25 (fun H locs hP hD hS => ?_)
  obtain ⟨hP, hD⟩ := kx_re (w2 := [kx_0 h0 h1 len, kx_a h1 cyI 160 (upd (upd f p0.toNatClampNeg y_2) p1.toNatClampNeg y_1)]) hP hD rfl
  have hP9 := hP
  have hD9 := hD
  have hK9 := hK
  exact W.vret hx hb hr (hlocks := hlocks) (fun t ht hW => ⟨⟨((upd (upd f p0.toNatClampNeg y_2) p1.toNatClampNeg y_1)), rfl, (by (try dsimp only); rw [ey_2, ey_1]), by rw [ht]; exact hP9, va_K.moved hW.alike hK9, hD9⟩, hS.F ht⟩) hS.2.2 dX0_exchange_26



abbrev cX2_renew : ByteArray := prog_4_method_5_code
def yX2_renew : MethodName := ⟨RX2, "renew", "(II)I"⟩
abbrev cX2_putTogether : ByteArray := prog_4_method_6_code
def yX2_putTogether : MethodName := ⟨RX2, "putTogether", "(I)V"⟩
abbrev cX2_joinNode : ByteArray := prog_4_method_7_code
def yX2_joinNode : MethodName := ⟨RX2, "joinNode", "(LMajorityIndex$Votes;I)V"⟩
abbrev cX2_isJoined : ByteArray := prog_4_method_8_code
def yX2_isJoined : MethodName := ⟨RX2, "isJoined", "(I)Z"⟩
abbrev cX2_keepJoined : ByteArray := prog_4_method_9_code
def yX2_keepJoined : MethodName := ⟨RX2, "keepJoined", "(I)V"⟩
abbrev cX2_copyTo : ByteArray := prog_4_method_10_code
def yX2_copyTo : MethodName := ⟨RX2, "copyTo", "(LMajorityIndex$Votes;I)V"⟩
abbrev cX2_find : ByteArray := prog_4_method_11_code
def yX2_find : MethodName := ⟨RX2, "find", "(II)I"⟩
abbrev cX2_isPart : ByteArray := prog_4_method_12_code
def yX2_isPart : MethodName := ⟨RX2, "isPart", "(III)Z"⟩
abbrev cX2_gather : ByteArray := prog_4_method_13_code
def yX2_gather : MethodName := ⟨RX2, "gather", "(LMajorityIndex$Votes;II)V"⟩
abbrev cX2_hasPlace : ByteArray := prog_4_method_14_code
def yX2_hasPlace : MethodName := ⟨RX2, "hasPlace", "(II)Z"⟩
abbrev cX2_depthAt : ByteArray := prog_4_method_15_code
def yX2_depthAt : MethodName := ⟨RX2, "depthAt", "(I)I"⟩
abbrev cX2_onPath : ByteArray := prog_4_method_16_code
def yX2_onPath : MethodName := ⟨RX2, "onPath", "(II)I"⟩
abbrev cX2_numberIn : ByteArray := prog_4_method_17_code
def yX2_numberIn : MethodName := ⟨RX2, "numberIn", "(II)I"⟩
abbrev cX2_holding : ByteArray := prog_4_method_18_code
def yX2_holding : MethodName := ⟨RX2, "holding", "(I)I"⟩
abbrev cX2_nodesWithMajority : ByteArray := prog_4_method_19_code
def yX2_nodesWithMajority : MethodName := ⟨RX2, "nodesWithMajority", "()I"⟩
abbrev cX2_deepest : ByteArray := prog_4_method_20_code
def yX2_deepest : MethodName := ⟨RX2, "deepest", "()I"⟩
abbrev cX2_allLosses : ByteArray := prog_4_method_21_code
def yX2_allLosses : MethodName := ⟨RX2, "allLosses", "()I"⟩
def wsX2_joinNode : List Cond := .code yX2_joinNode cX2_joinNode 5 none :: ([.fieldLink RX2 25 "MajorityIndex$Tree" "size" "[I", .fieldLink RX2 34 "MajorityIndex$Tree" "value" "[I", .fieldLink RX2 37 "MajorityIndex$Tree" "number" "[I", .fieldLink RX2 91 "MajorityIndex$Votes" "lost" "I", .fieldLink RX2 28 "MajorityIndex$Tree" "lossOf" "[I", .methodLink RX2 77 yX3_add, .instanceMethod yX3_add, .selects RX3 yX3_add yX3_add, .initialized RX3, .code yX3_add cX3_add 4 none, .fieldLink RX3 18 "MajorityIndex$Votes" "size" "I", .fieldLink RX3 9 "MajorityIndex$Votes" "value" "[I", .fieldLink RX3 15 "MajorityIndex$Votes" "number" "[I"] ++ wsX20 ++ wsX30)
def wsX2_putTogether_r1 : List Cond := [Cond.fieldLink RX2 12 "MajorityIndex$Tree" "joined" "LMajorityIndex$Votes;", Cond.fieldLink RX2 22 "MajorityIndex$Tree" "to" "[I", Cond.fieldLink RX2 18 "MajorityIndex$Tree" "from" "[I", Cond.fieldLink RX2 40 "MajorityIndex$Tree" "row" "LMajorityIndex$Row;", Cond.fieldLink RX2 74 "MajorityIndex$Row" "cell" "[I", Cond.fieldLink RX2 85 "MajorityIndex$Tree" "slotsHere" "I", Cond.methodLink RX2 71 yX3_clear, Cond.instanceMethod yX3_clear, Cond.selects RX3 yX3_clear yX3_clear, Cond.initialized RX3, Cond.code yX3_clear cX3_clear 1 none, Cond.fieldLink RX3 18 "MajorityIndex$Votes" "size" "I", Cond.fieldLink RX3 22 "MajorityIndex$Votes" "lost" "I", Cond.fieldLink RX3 25 "MajorityIndex$Votes" "lessBy" "I", Cond.methodLink RX2 77 yX3_add, Cond.instanceMethod yX3_add, Cond.selects RX3 yX3_add yX3_add, Cond.code yX3_add cX3_add 4 none, Cond.fieldLink RX3 9 "MajorityIndex$Votes" "value" "[I", Cond.fieldLink RX3 15 "MajorityIndex$Votes" "number" "[I", Cond.methodLink RX2 81 yX2_joinNode, Cond.instanceMethod yX2_joinNode, Cond.selects RX2 yX2_joinNode yX2_joinNode, Cond.initialized RX2]
def wsX2_putTogether_r2 : List Cond := [Cond.code yX2_joinNode cX2_joinNode 5 none, Cond.fieldLink RX2 25 "MajorityIndex$Tree" "size" "[I", Cond.fieldLink RX2 34 "MajorityIndex$Tree" "value" "[I", Cond.fieldLink RX2 37 "MajorityIndex$Tree" "number" "[I", Cond.fieldLink RX2 91 "MajorityIndex$Votes" "lost" "I", Cond.fieldLink RX2 28 "MajorityIndex$Tree" "lossOf" "[I", Cond.methodLink RX2 57 yX2_rightBelow, Cond.instanceMethod yX2_rightBelow, Cond.selects RX2 yX2_rightBelow yX2_rightBelow, Cond.code yX2_rightBelow cX2_rightBelow 3 (some .int), Cond.methodLink RX2 88 yX3_cancel, Cond.instanceMethod yX3_cancel, Cond.selects RX3 yX3_cancel yX3_cancel, Cond.code yX3_cancel cX3_cancel 4 none, Cond.methodLink RX3 32 yX3_order, Cond.instanceMethod yX3_order, Cond.selects RX3 yX3_order yX3_order, Cond.code yX3_order cX3_order 3 none, Cond.methodLink RX3 35 yX3_isAhead, Cond.instanceMethod yX3_isAhead, Cond.selects RX3 yX3_isAhead yX3_isAhead, Cond.code yX3_isAhead cX3_isAhead 3 (some .boolean), Cond.methodLink RX3 39 yX3_exchange, Cond.instanceMethod yX3_exchange]
def wsX2_putTogether_r3 : List Cond := [Cond.selects RX3 yX3_exchange yX3_exchange, Cond.code yX3_exchange cX3_exchange 5 none]
def wsX2_putTogether : List Cond := .code yX2_putTogether cX2_putTogether 2 none :: ((wsX2_putTogether_r1 ++ (wsX2_putTogether_r2 ++ wsX2_putTogether_r3)) ++ wsX20 ++ wsX00 ++ wsX30)
def wsX2_isJoined : List Cond := .code yX2_isJoined cX2_isJoined 4 (some .boolean) :: ([.fieldLink RX2 25 "MajorityIndex$Tree" "size" "[I", .fieldLink RX2 12 "MajorityIndex$Tree" "joined" "LMajorityIndex$Votes;", .fieldLink RX2 94 "MajorityIndex$Votes" "size" "I", .fieldLink RX2 28 "MajorityIndex$Tree" "lossOf" "[I", .fieldLink RX2 91 "MajorityIndex$Votes" "lost" "I", .fieldLink RX2 34 "MajorityIndex$Tree" "value" "[I", .fieldLink RX2 96 "MajorityIndex$Votes" "value" "[I", .fieldLink RX2 37 "MajorityIndex$Tree" "number" "[I", .fieldLink RX2 97 "MajorityIndex$Votes" "number" "[I"] ++ wsX20 ++ wsX30)
def wsX2_keepJoined : List Cond := .code yX2_keepJoined cX2_keepJoined 4 none :: ([.fieldLink RX2 12 "MajorityIndex$Tree" "joined" "LMajorityIndex$Votes;", .fieldLink RX2 94 "MajorityIndex$Votes" "size" "I", .fieldLink RX2 34 "MajorityIndex$Tree" "value" "[I", .fieldLink RX2 96 "MajorityIndex$Votes" "value" "[I", .fieldLink RX2 37 "MajorityIndex$Tree" "number" "[I", .fieldLink RX2 97 "MajorityIndex$Votes" "number" "[I", .fieldLink RX2 25 "MajorityIndex$Tree" "size" "[I", .methodLink RX2 98 Lib.Math.min.name, .static Lib.Math.min.name, .initialized "java/lang/Math", .code Lib.Math.min.name Lib.Math.min.code 2 (some .int), .fieldLink RX2 28 "MajorityIndex$Tree" "lossOf" "[I", .fieldLink RX2 91 "MajorityIndex$Votes" "lost" "I", .fieldLink RX2 31 "MajorityIndex$Tree" "lessBy" "[I", .fieldLink RX2 104 "MajorityIndex$Votes" "lessBy" "I"] ++ wsX20 ++ wsX30)
def wsX2_renew_r1 : List Cond := [Cond.fieldLink RX2 50 "MajorityIndex$Tree" "nodes" "I", Cond.fieldLink RX2 18 "MajorityIndex$Tree" "from" "[I", Cond.fieldLink RX2 22 "MajorityIndex$Tree" "to" "[I", Cond.methodLink RX2 61 yX2_putTogether, Cond.instanceMethod yX2_putTogether, Cond.selects RX2 yX2_putTogether yX2_putTogether, Cond.initialized RX2, Cond.code yX2_putTogether cX2_putTogether 2 none, Cond.fieldLink RX2 12 "MajorityIndex$Tree" "joined" "LMajorityIndex$Votes;", Cond.fieldLink RX2 40 "MajorityIndex$Tree" "row" "LMajorityIndex$Row;", Cond.fieldLink RX2 74 "MajorityIndex$Row" "cell" "[I", Cond.fieldLink RX2 85 "MajorityIndex$Tree" "slotsHere" "I", Cond.methodLink RX2 71 yX3_clear, Cond.instanceMethod yX3_clear, Cond.selects RX3 yX3_clear yX3_clear, Cond.initialized RX3, Cond.code yX3_clear cX3_clear 1 none, Cond.fieldLink RX3 18 "MajorityIndex$Votes" "size" "I", Cond.fieldLink RX3 22 "MajorityIndex$Votes" "lost" "I", Cond.fieldLink RX3 25 "MajorityIndex$Votes" "lessBy" "I", Cond.methodLink RX2 77 yX3_add, Cond.instanceMethod yX3_add, Cond.selects RX3 yX3_add yX3_add, Cond.code yX3_add cX3_add 4 none]
def wsX2_renew_r2 : List Cond := [Cond.fieldLink RX3 9 "MajorityIndex$Votes" "value" "[I", Cond.fieldLink RX3 15 "MajorityIndex$Votes" "number" "[I", Cond.methodLink RX2 81 yX2_joinNode, Cond.instanceMethod yX2_joinNode, Cond.selects RX2 yX2_joinNode yX2_joinNode, Cond.code yX2_joinNode cX2_joinNode 5 none, Cond.fieldLink RX2 25 "MajorityIndex$Tree" "size" "[I", Cond.fieldLink RX2 34 "MajorityIndex$Tree" "value" "[I", Cond.fieldLink RX2 37 "MajorityIndex$Tree" "number" "[I", Cond.fieldLink RX2 91 "MajorityIndex$Votes" "lost" "I", Cond.fieldLink RX2 28 "MajorityIndex$Tree" "lossOf" "[I", Cond.methodLink RX2 57 yX2_rightBelow, Cond.instanceMethod yX2_rightBelow, Cond.selects RX2 yX2_rightBelow yX2_rightBelow, Cond.code yX2_rightBelow cX2_rightBelow 3 (some .int), Cond.methodLink RX2 88 yX3_cancel, Cond.instanceMethod yX3_cancel, Cond.selects RX3 yX3_cancel yX3_cancel, Cond.code yX3_cancel cX3_cancel 4 none, Cond.methodLink RX3 32 yX3_order, Cond.instanceMethod yX3_order, Cond.selects RX3 yX3_order yX3_order, Cond.code yX3_order cX3_order 3 none, Cond.methodLink RX3 35 yX3_isAhead]
def wsX2_renew_r3 : List Cond := [Cond.instanceMethod yX3_isAhead, Cond.selects RX3 yX3_isAhead yX3_isAhead, Cond.code yX3_isAhead cX3_isAhead 3 (some .boolean), Cond.methodLink RX3 39 yX3_exchange, Cond.instanceMethod yX3_exchange, Cond.selects RX3 yX3_exchange yX3_exchange, Cond.code yX3_exchange cX3_exchange 5 none, Cond.methodLink RX2 64 yX2_isJoined, Cond.instanceMethod yX2_isJoined, Cond.selects RX2 yX2_isJoined yX2_isJoined, Cond.code yX2_isJoined cX2_isJoined 4 (some .boolean), Cond.fieldLink RX2 94 "MajorityIndex$Votes" "size" "I", Cond.fieldLink RX2 96 "MajorityIndex$Votes" "value" "[I", Cond.fieldLink RX2 97 "MajorityIndex$Votes" "number" "[I", Cond.methodLink RX2 68 yX2_keepJoined, Cond.instanceMethod yX2_keepJoined, Cond.selects RX2 yX2_keepJoined yX2_keepJoined, Cond.code yX2_keepJoined cX2_keepJoined 4 none, Cond.methodLink RX2 98 Lib.Math.min.name, Cond.static Lib.Math.min.name, Cond.initialized "java/lang/Math", Cond.code Lib.Math.min.name Lib.Math.min.code 2 (some .int), Cond.fieldLink RX2 31 "MajorityIndex$Tree" "lessBy" "[I", Cond.fieldLink RX2 104 "MajorityIndex$Votes" "lessBy" "I"]
def wsX2_renew : List Cond := .code yX2_renew cX2_renew 5 (some .int) :: ((wsX2_renew_r1 ++ (wsX2_renew_r2 ++ wsX2_renew_r3)) ++ wsX20 ++ wsX00 ++ wsX30)
def wsX2_copyTo : List Cond := .code yX2_copyTo cX2_copyTo 3 none :: ([.methodLink RX2 71 yX3_clear, .instanceMethod yX3_clear, .selects RX3 yX3_clear yX3_clear, .initialized RX3, .code yX3_clear cX3_clear 1 none, .fieldLink RX3 18 "MajorityIndex$Votes" "size" "I", .fieldLink RX3 22 "MajorityIndex$Votes" "lost" "I", .fieldLink RX3 25 "MajorityIndex$Votes" "lessBy" "I", .methodLink RX2 81 yX2_joinNode, .instanceMethod yX2_joinNode, .selects RX2 yX2_joinNode yX2_joinNode, .initialized RX2, .code yX2_joinNode cX2_joinNode 5 none, .fieldLink RX2 25 "MajorityIndex$Tree" "size" "[I", .fieldLink RX2 34 "MajorityIndex$Tree" "value" "[I", .fieldLink RX2 37 "MajorityIndex$Tree" "number" "[I", .fieldLink RX2 91 "MajorityIndex$Votes" "lost" "I", .fieldLink RX2 28 "MajorityIndex$Tree" "lossOf" "[I", .methodLink RX2 77 yX3_add, .instanceMethod yX3_add, .selects RX3 yX3_add yX3_add, .code yX3_add cX3_add 4 none, .fieldLink RX3 9 "MajorityIndex$Votes" "value" "[I", .fieldLink RX3 15 "MajorityIndex$Votes" "number" "[I"] ++ wsX30 ++ wsX20)
def wsX2_find : List Cond := .code yX2_find cX2_find 4 (some .int) :: ([.fieldLink RX2 50 "MajorityIndex$Tree" "nodes" "I", .fieldLink RX2 18 "MajorityIndex$Tree" "from" "[I", .fieldLink RX2 22 "MajorityIndex$Tree" "to" "[I"] ++ wsX20)
def wsX2_isPart : List Cond := .code yX2_isPart cX2_isPart 4 (some .boolean) :: ([.fieldLink RX2 18 "MajorityIndex$Tree" "from" "[I", .fieldLink RX2 22 "MajorityIndex$Tree" "to" "[I"] ++ wsX20)
def wsX2_gather_r1 : List Cond := [Cond.fieldLink RX2 50 "MajorityIndex$Tree" "nodes" "I", Cond.fieldLink RX2 22 "MajorityIndex$Tree" "to" "[I", Cond.fieldLink RX2 85 "MajorityIndex$Tree" "slotsHere" "I", Cond.methodLink RX2 71 yX3_clear, Cond.instanceMethod yX3_clear, Cond.selects RX3 yX3_clear yX3_clear, Cond.initialized RX3, Cond.code yX3_clear cX3_clear 1 none, Cond.fieldLink RX3 18 "MajorityIndex$Votes" "size" "I", Cond.fieldLink RX3 22 "MajorityIndex$Votes" "lost" "I", Cond.fieldLink RX3 25 "MajorityIndex$Votes" "lessBy" "I", Cond.methodLink RX2 106 yX2_isPart, Cond.instanceMethod yX2_isPart, Cond.selects RX2 yX2_isPart yX2_isPart, Cond.initialized RX2, Cond.code yX2_isPart cX2_isPart 4 (some .boolean), Cond.fieldLink RX2 18 "MajorityIndex$Tree" "from" "[I", Cond.methodLink RX2 81 yX2_joinNode, Cond.instanceMethod yX2_joinNode, Cond.selects RX2 yX2_joinNode yX2_joinNode, Cond.code yX2_joinNode cX2_joinNode 5 none, Cond.fieldLink RX2 25 "MajorityIndex$Tree" "size" "[I", Cond.fieldLink RX2 34 "MajorityIndex$Tree" "value" "[I", Cond.fieldLink RX2 37 "MajorityIndex$Tree" "number" "[I"]
def wsX2_gather_r2 : List Cond := [Cond.fieldLink RX2 91 "MajorityIndex$Votes" "lost" "I", Cond.fieldLink RX2 28 "MajorityIndex$Tree" "lossOf" "[I", Cond.methodLink RX2 77 yX3_add, Cond.instanceMethod yX3_add, Cond.selects RX3 yX3_add yX3_add, Cond.code yX3_add cX3_add 4 none, Cond.fieldLink RX3 9 "MajorityIndex$Votes" "value" "[I", Cond.fieldLink RX3 15 "MajorityIndex$Votes" "number" "[I", Cond.methodLink RX2 88 yX3_cancel, Cond.instanceMethod yX3_cancel, Cond.selects RX3 yX3_cancel yX3_cancel, Cond.code yX3_cancel cX3_cancel 4 none, Cond.methodLink RX3 32 yX3_order, Cond.instanceMethod yX3_order, Cond.selects RX3 yX3_order yX3_order, Cond.code yX3_order cX3_order 3 none, Cond.methodLink RX3 35 yX3_isAhead, Cond.instanceMethod yX3_isAhead, Cond.selects RX3 yX3_isAhead yX3_isAhead, Cond.code yX3_isAhead cX3_isAhead 3 (some .boolean), Cond.methodLink RX3 39 yX3_exchange, Cond.instanceMethod yX3_exchange, Cond.selects RX3 yX3_exchange yX3_exchange, Cond.code yX3_exchange cX3_exchange 5 none]
def wsX2_gather : List Cond := .code yX2_gather cX2_gather 6 none :: ((wsX2_gather_r1 ++ wsX2_gather_r2) ++ wsX20 ++ wsX30)
def wsX2_hasPlace : List Cond := .code yX2_hasPlace cX2_hasPlace 3 (some .boolean) :: ([.fieldLink RX2 18 "MajorityIndex$Tree" "from" "[I", .fieldLink RX2 22 "MajorityIndex$Tree" "to" "[I"] ++ wsX20)
def wsX2_depthAt : List Cond := .code yX2_depthAt cX2_depthAt 4 (some .int) :: ([.fieldLink RX2 50 "MajorityIndex$Tree" "nodes" "I", .methodLink RX2 110 yX2_hasPlace, .instanceMethod yX2_hasPlace, .selects RX2 yX2_hasPlace yX2_hasPlace, .initialized RX2, .code yX2_hasPlace cX2_hasPlace 3 (some .boolean), .fieldLink RX2 18 "MajorityIndex$Tree" "from" "[I", .fieldLink RX2 22 "MajorityIndex$Tree" "to" "[I"] ++ wsX20)
def wsX2_onPath : List Cond := .code yX2_onPath cX2_onPath 5 (some .int) :: ([.fieldLink RX2 50 "MajorityIndex$Tree" "nodes" "I", .methodLink RX2 110 yX2_hasPlace, .instanceMethod yX2_hasPlace, .selects RX2 yX2_hasPlace yX2_hasPlace, .initialized RX2, .code yX2_hasPlace cX2_hasPlace 3 (some .boolean), .fieldLink RX2 18 "MajorityIndex$Tree" "from" "[I", .fieldLink RX2 22 "MajorityIndex$Tree" "to" "[I"] ++ wsX20)
def wsX2_numberIn : List Cond := .code yX2_numberIn cX2_numberIn 5 (some .int) :: ([.fieldLink RX2 25 "MajorityIndex$Tree" "size" "[I", .fieldLink RX2 34 "MajorityIndex$Tree" "value" "[I", .fieldLink RX2 37 "MajorityIndex$Tree" "number" "[I"] ++ wsX20)
def wsX2_holding : List Cond := .code yX2_holding cX2_holding 4 (some .int) :: ([.fieldLink RX2 50 "MajorityIndex$Tree" "nodes" "I", .fieldLink RX2 40 "MajorityIndex$Tree" "row" "LMajorityIndex$Row;", .fieldLink RX2 74 "MajorityIndex$Row" "cell" "[I", .methodLink RX2 110 yX2_hasPlace, .instanceMethod yX2_hasPlace, .selects RX2 yX2_hasPlace yX2_hasPlace, .initialized RX2, .code yX2_hasPlace cX2_hasPlace 3 (some .boolean), .fieldLink RX2 18 "MajorityIndex$Tree" "from" "[I", .fieldLink RX2 22 "MajorityIndex$Tree" "to" "[I", .methodLink RX2 114 yX2_numberIn, .instanceMethod yX2_numberIn, .selects RX2 yX2_numberIn yX2_numberIn, .code yX2_numberIn cX2_numberIn 5 (some .int), .fieldLink RX2 25 "MajorityIndex$Tree" "size" "[I", .fieldLink RX2 34 "MajorityIndex$Tree" "value" "[I", .fieldLink RX2 37 "MajorityIndex$Tree" "number" "[I"] ++ wsX20 ++ wsX00)
def wsX2_nodesWithMajority : List Cond := .code yX2_nodesWithMajority cX2_nodesWithMajority 3 (some .int) :: ([.fieldLink RX2 50 "MajorityIndex$Tree" "nodes" "I", .fieldLink RX2 40 "MajorityIndex$Tree" "row" "LMajorityIndex$Row;", .fieldLink RX2 18 "MajorityIndex$Tree" "from" "[I", .fieldLink RX2 22 "MajorityIndex$Tree" "to" "[I", .constant RX2 120 (-40000), .methodLink RX2 117 yX0_leader, .instanceMethod yX0_leader, .selects RX0 yX0_leader yX0_leader, .initialized RX0, .code yX0_leader cX0_leader 6 (some .int), .constant RX0 23 (-40000), .fieldLink RX0 9 "MajorityIndex$Row" "cell" "[I", .methodLink RX0 24 yX0_oftenIn, .instanceMethod yX0_oftenIn, .selects RX0 yX0_oftenIn yX0_oftenIn, .code yX0_oftenIn cX0_oftenIn 6 (some .int), .static yX4_isHeavy, .initialized RX4, .code yX4_isHeavy cX4_isHeavy 4 (some .boolean)] ++ wsX20 ++ wsX00)
def wsX2_deepest : List Cond := .code yX2_deepest cX2_deepest 3 (some .int) :: ([.fieldLink RX2 50 "MajorityIndex$Tree" "nodes" "I", .fieldLink RX2 40 "MajorityIndex$Tree" "row" "LMajorityIndex$Row;", .fieldLink RX2 44 "MajorityIndex$Row" "length" "I"] ++ wsX20 ++ wsX00)
def wsX2_allLosses : List Cond := .code yX2_allLosses cX2_allLosses 3 (some .int) :: ([.fieldLink RX2 50 "MajorityIndex$Tree" "nodes" "I", .fieldLink RX2 28 "MajorityIndex$Tree" "lossOf" "[I"] ++ wsX20)
theorem mi_wsX2_renew_wsX2_renew_r1 : ∀ w ∈ wsX2_renew_r1, w ∈ wsX2_renew := fun _ h => (List.mem_cons_of_mem _ (List.mem_append_left _ (List.mem_append_left _ (List.mem_append_left _ (List.mem_append_left _ h)))))
theorem mi_wsX2_renew_wsX2_renew_r2 : ∀ w ∈ wsX2_renew_r2, w ∈ wsX2_renew := fun _ h => (List.mem_cons_of_mem _ (List.mem_append_left _ (List.mem_append_left _ (List.mem_append_left _ (List.mem_append_right _ (List.mem_append_left _ h))))))
theorem mi_wsX2_renew_wsX2_renew_r3 : ∀ w ∈ wsX2_renew_r3, w ∈ wsX2_renew := fun _ h => (List.mem_cons_of_mem _ (List.mem_append_left _ (List.mem_append_left _ (List.mem_append_left _ (List.mem_append_right _ (List.mem_append_right _ h))))))
theorem mi_wsX2_renew_wsX20 : ∀ w ∈ wsX20, w ∈ wsX2_renew := fun _ h => (List.mem_cons_of_mem _ (List.mem_append_left _ (List.mem_append_left _ (List.mem_append_right _ h))))
theorem mi_wsX2_renew_wsX00 : ∀ w ∈ wsX00, w ∈ wsX2_renew := fun _ h => (List.mem_cons_of_mem _ (List.mem_append_left _ (List.mem_append_right _ h)))
theorem mi_wsX2_renew_wsX30 : ∀ w ∈ wsX30, w ∈ wsX2_renew := fun _ h => (List.mem_cons_of_mem _ (List.mem_append_right _ h))
set_option maxRecDepth 20000 in
theorem ggX2_renew_X2_putTogether : GoodIn wsX2_renew wsX2_putTogether := goodIn_m _ [(wsX2_renew_r1, [false, false, false, false, false, false, false, true, true]), (wsX2_renew_r1, [false, false, true]), (wsX2_renew_r1, [false, true, false, false, false, false, false, false, false, true, true, true, true, true, true, true, true, true, true, true, true, true, true, true]), (wsX2_renew_r2, [true, true, true, true, true]), (wsX2_renew_r1, [false, false, false, false, false, false, true]), (wsX2_renew_r2, [false, false, false, false, false, true, true, true, true, true, true, true, true, true, true, true, true, true, true, true, true, true, true, true]), (wsX2_renew_r3, [true, true, true, true, true, true, true]), (wsX20, [true, true, true, true, true, true, true, true, true, true, true]), (wsX00, [true, true]), (wsX30, [true, true, true, true, true])] (gm_c mi_wsX2_renew_wsX2_renew_r1 (gm_c mi_wsX2_renew_wsX2_renew_r1 (gm_c mi_wsX2_renew_wsX2_renew_r1 (gm_c mi_wsX2_renew_wsX2_renew_r2 (gm_c mi_wsX2_renew_wsX2_renew_r1 (gm_c mi_wsX2_renew_wsX2_renew_r2 (gm_c mi_wsX2_renew_wsX2_renew_r3 (gm_c mi_wsX2_renew_wsX20 (gm_c mi_wsX2_renew_wsX00 (gm_c mi_wsX2_renew_wsX30 gm_n)))))))))) rfl (by decide +kernel)
set_option maxRecDepth 20000 in
theorem gX2_renew_X2_putTogether : GoodIn wsX2_renew (wsV RX2 61 RX2 yX2_putTogether wsX2_putTogether) := goodIn_app (goodIn_m _ [(wsX2_renew_r1, [false, false, false, true, true, true, true])] (gm_c mi_wsX2_renew_wsX2_renew_r1 gm_n) rfl (by decide +kernel)) ggX2_renew_X2_putTogether
set_option maxRecDepth 20000 in
theorem ggX2_renew_X2_isJoined : GoodIn wsX2_renew wsX2_isJoined := goodIn_m _ [(wsX2_renew_r3, [false, false, false, false, false, false, false, false, false, false, true]), (wsX2_renew_r2, [false, false, false, false, false, false, true]), (wsX2_renew_r1, [false, false, false, false, false, false, false, false, true]), (wsX2_renew_r3, [false, false, false, false, false, false, false, false, false, false, false, true]), (wsX2_renew_r2, [false, false, false, false, false, false, false, false, false, false, true]), (wsX2_renew_r2, [false, false, false, false, false, false, false, false, false, true]), (wsX2_renew_r2, [false, false, false, false, false, false, false, true]), (wsX2_renew_r3, [false, false, false, false, false, false, false, false, false, false, false, false, true]), (wsX2_renew_r2, [false, false, false, false, false, false, false, false, true]), (wsX2_renew_r3, [false, false, false, false, false, false, false, false, false, false, false, false, false, true]), (wsX20, [true, true, true, true, true, true, true, true, true, true, true]), (wsX30, [true, true, true, true, true])] (gm_c mi_wsX2_renew_wsX2_renew_r3 (gm_c mi_wsX2_renew_wsX2_renew_r2 (gm_c mi_wsX2_renew_wsX2_renew_r1 (gm_c mi_wsX2_renew_wsX2_renew_r3 (gm_c mi_wsX2_renew_wsX2_renew_r2 (gm_c mi_wsX2_renew_wsX2_renew_r2 (gm_c mi_wsX2_renew_wsX2_renew_r2 (gm_c mi_wsX2_renew_wsX2_renew_r3 (gm_c mi_wsX2_renew_wsX2_renew_r2 (gm_c mi_wsX2_renew_wsX2_renew_r3 (gm_c mi_wsX2_renew_wsX20 (gm_c mi_wsX2_renew_wsX30 gm_n)))))))))))) rfl (by decide +kernel)
set_option maxRecDepth 20000 in
theorem gX2_renew_X2_isJoined : GoodIn wsX2_renew (wsV RX2 64 RX2 yX2_isJoined wsX2_isJoined) := goodIn_app (goodIn_m _ [(wsX2_renew_r3, [false, false, false, false, false, false, false, true, true, true]), (wsX2_renew_r1, [false, false, false, false, false, false, true])] (gm_c mi_wsX2_renew_wsX2_renew_r3 (gm_c mi_wsX2_renew_wsX2_renew_r1 gm_n)) rfl (by decide +kernel)) ggX2_renew_X2_isJoined
set_option maxRecDepth 20000 in
theorem ggX2_renew_X2_keepJoined : GoodIn wsX2_renew wsX2_keepJoined := goodIn_m _ [(wsX2_renew_r3, [false, false, false, false, false, false, false, false, false, false, false, false, false, false, false, false, false, true]), (wsX2_renew_r1, [false, false, false, false, false, false, false, false, true]), (wsX2_renew_r3, [false, false, false, false, false, false, false, false, false, false, false, true]), (wsX2_renew_r2, [false, false, false, false, false, false, false, true]), (wsX2_renew_r3, [false, false, false, false, false, false, false, false, false, false, false, false, true]), (wsX2_renew_r2, [false, false, false, false, false, false, false, false, true]), (wsX2_renew_r3, [false, false, false, false, false, false, false, false, false, false, false, false, false, true]), (wsX2_renew_r2, [false, false, false, false, false, false, true]), (wsX2_renew_r3, [false, false, false, false, false, false, false, false, false, false, false, false, false, false, false, false, false, false, true, true, true, true]), (wsX2_renew_r2, [false, false, false, false, false, false, false, false, false, false, true]), (wsX2_renew_r2, [false, false, false, false, false, false, false, false, false, true]), (wsX2_renew_r3, [false, false, false, false, false, false, false, false, false, false, false, false, false, false, false, false, false, false, false, false, false, false, true, true]), (wsX20, [true, true, true, true, true, true, true, true, true, true, true]), (wsX30, [true, true, true, true, true])] (gm_c mi_wsX2_renew_wsX2_renew_r3 (gm_c mi_wsX2_renew_wsX2_renew_r1 (gm_c mi_wsX2_renew_wsX2_renew_r3 (gm_c mi_wsX2_renew_wsX2_renew_r2 (gm_c mi_wsX2_renew_wsX2_renew_r3 (gm_c mi_wsX2_renew_wsX2_renew_r2 (gm_c mi_wsX2_renew_wsX2_renew_r3 (gm_c mi_wsX2_renew_wsX2_renew_r2 (gm_c mi_wsX2_renew_wsX2_renew_r3 (gm_c mi_wsX2_renew_wsX2_renew_r2 (gm_c mi_wsX2_renew_wsX2_renew_r2 (gm_c mi_wsX2_renew_wsX2_renew_r3 (gm_c mi_wsX2_renew_wsX20 (gm_c mi_wsX2_renew_wsX30 gm_n)))))))))))))) rfl (by decide +kernel)
set_option maxRecDepth 20000 in
theorem gX2_renew_X2_keepJoined : GoodIn wsX2_renew (wsV RX2 68 RX2 yX2_keepJoined wsX2_keepJoined) := goodIn_app (goodIn_m _ [(wsX2_renew_r3, [false, false, false, false, false, false, false, false, false, false, false, false, false, false, true, true, true]), (wsX2_renew_r1, [false, false, false, false, false, false, true])] (gm_c mi_wsX2_renew_wsX2_renew_r3 (gm_c mi_wsX2_renew_wsX2_renew_r1 gm_n)) rfl (by decide +kernel)) ggX2_renew_X2_keepJoined
def dt_cX2_renew_0 : List (Nat × Nat × Nat × Nat) := [(0, 3, 0, 0), (1, 62, 0, 0), (2, 42, 0, 0), (3, 180, 2, 50), (6, 4, 0, 0), (7, 100, 0, 0), (8, 54, 1, 4), (10, 21, 1, 4), (12, 155, 2, 55), (15, 42, 0, 0), (16, 180, 2, 18), (19, 21, 1, 4), (21, 46, 0, 0), (22, 28, 0, 0), (23, 162, 2, 38), (26, 27, 0, 0), (27, 42, 0, 0), (28, 180, 2, 22), (31, 21, 1, 4), (33, 46, 0, 0)]
theorem da_cX2_renew_0 : fw dt_cX2_renew_0 0 cX2_renew.data.toList = true := by decide +kernel
theorem dX2_renew_0 : decode cX2_renew 0 = .ok (.iconst 0, 1) := fo_3 (fw_get da_cX2_renew_0 0 rfl)
theorem dX2_renew_1 : decode cX2_renew 1 = .ok (.istore_n 3, 1) := fo_62 (fw_get da_cX2_renew_0 1 rfl)
theorem dX2_renew_2 : decode cX2_renew 2 = .ok (.aload_n 0, 1) := fo_42 (fw_get da_cX2_renew_0 2 rfl)
theorem dX2_renew_3 : decode cX2_renew 3 = .ok (.getfield 50, 3) := fo_180 (fw_get da_cX2_renew_0 3 rfl)
theorem dX2_renew_6 : decode cX2_renew 6 = .ok (.iconst 1, 1) := fo_4 (fw_get da_cX2_renew_0 4 rfl)
theorem dX2_renew_7 : decode cX2_renew 7 = .ok (.isub, 1) := fo_100 (fw_get da_cX2_renew_0 5 rfl)
theorem dX2_renew_8 : decode cX2_renew 8 = .ok (.istore 4, 2) := fo_54 (fw_get da_cX2_renew_0 6 rfl)
theorem dX2_renew_10 : decode cX2_renew 10 = .ok (.iload 4, 2) := fo_21 (fw_get da_cX2_renew_0 7 rfl)
theorem dX2_renew_12 : decode cX2_renew 12 = .ok (.ifCond .lt 55, 3) := fo_155 (fw_get da_cX2_renew_0 8 rfl) (by decide +kernel)
theorem dX2_renew_15 : decode cX2_renew 15 = .ok (.aload_n 0, 1) := fo_42 (fw_get da_cX2_renew_0 9 rfl)
theorem dX2_renew_16 : decode cX2_renew 16 = .ok (.getfield 18, 3) := fo_180 (fw_get da_cX2_renew_0 10 rfl)
theorem dX2_renew_19 : decode cX2_renew 19 = .ok (.iload 4, 2) := fo_21 (fw_get da_cX2_renew_0 11 rfl)
theorem dX2_renew_21 : decode cX2_renew 21 = .ok (.iaload, 1) := fo_46 (fw_get da_cX2_renew_0 12 rfl)
theorem dX2_renew_22 : decode cX2_renew 22 = .ok (.iload_n 2, 1) := fo_28 (fw_get da_cX2_renew_0 13 rfl)
theorem dX2_renew_23 : decode cX2_renew 23 = .ok (.if_icmp .ge 38, 3) := fo_162 (fw_get da_cX2_renew_0 14 rfl) (by decide +kernel)
theorem dX2_renew_26 : decode cX2_renew 26 = .ok (.iload_n 1, 1) := fo_27 (fw_get da_cX2_renew_0 15 rfl)
theorem dX2_renew_27 : decode cX2_renew 27 = .ok (.aload_n 0, 1) := fo_42 (fw_get da_cX2_renew_0 16 rfl)
theorem dX2_renew_28 : decode cX2_renew 28 = .ok (.getfield 22, 3) := fo_180 (fw_get da_cX2_renew_0 17 rfl)
theorem dX2_renew_31 : decode cX2_renew 31 = .ok (.iload 4, 2) := fo_21 (fw_get da_cX2_renew_0 18 rfl)
theorem dX2_renew_33 : decode cX2_renew 33 = .ok (.iaload, 1) := fo_46 (fw_get da_cX2_renew_0 19 rfl)
def dt_cX2_renew_1 : List (Nat × Nat × Nat × Nat) := [(34, 162, 2, 27), (37, 42, 0, 0), (38, 21, 1, 4), (40, 182, 2, 61), (43, 42, 0, 0), (44, 21, 1, 4), (46, 182, 2, 64), (49, 154, 2, 6), (52, 132, 2, 769), (55, 42, 0, 0), (56, 21, 1, 4), (58, 182, 2, 68), (61, 132, 2, 1279), (64, 167, 2, 65482), (67, 29, 0, 0), (68, 172, 0, 0)]
theorem da_cX2_renew_1 : fw dt_cX2_renew_1 0 cX2_renew.data.toList = true := by decide +kernel
theorem dX2_renew_34 : decode cX2_renew 34 = .ok (.if_icmp .ge 27, 3) := fo_162 (fw_get da_cX2_renew_1 0 rfl) (by decide +kernel)
theorem dX2_renew_37 : decode cX2_renew 37 = .ok (.aload_n 0, 1) := fo_42 (fw_get da_cX2_renew_1 1 rfl)
theorem dX2_renew_38 : decode cX2_renew 38 = .ok (.iload 4, 2) := fo_21 (fw_get da_cX2_renew_1 2 rfl)
theorem dX2_renew_40 : decode cX2_renew 40 = .ok (.invokevirtual 61, 3) := fo_182 (fw_get da_cX2_renew_1 3 rfl)
theorem dX2_renew_43 : decode cX2_renew 43 = .ok (.aload_n 0, 1) := fo_42 (fw_get da_cX2_renew_1 4 rfl)
theorem dX2_renew_44 : decode cX2_renew 44 = .ok (.iload 4, 2) := fo_21 (fw_get da_cX2_renew_1 5 rfl)
theorem dX2_renew_46 : decode cX2_renew 46 = .ok (.invokevirtual 64, 3) := fo_182 (fw_get da_cX2_renew_1 6 rfl)
theorem dX2_renew_49 : decode cX2_renew 49 = .ok (.ifCond .ne 6, 3) := fo_154 (fw_get da_cX2_renew_1 7 rfl) (by decide +kernel)
theorem dX2_renew_52 : decode cX2_renew 52 = .ok (.iinc 3 1, 3) := fo_132 (fw_get da_cX2_renew_1 8 rfl) rfl (by decide +kernel)
theorem dX2_renew_55 : decode cX2_renew 55 = .ok (.aload_n 0, 1) := fo_42 (fw_get da_cX2_renew_1 9 rfl)
theorem dX2_renew_56 : decode cX2_renew 56 = .ok (.iload 4, 2) := fo_21 (fw_get da_cX2_renew_1 10 rfl)
theorem dX2_renew_58 : decode cX2_renew 58 = .ok (.invokevirtual 68, 3) := fo_182 (fw_get da_cX2_renew_1 11 rfl)
theorem dX2_renew_61 : decode cX2_renew 61 = .ok (.iinc 4 (-1), 3) := fo_132 (fw_get da_cX2_renew_1 12 rfl) rfl (by decide +kernel)
theorem dX2_renew_64 : decode cX2_renew 64 = .ok (.goto (-54), 3) := fo_167 (fw_get da_cX2_renew_1 13 rfl) (by decide +kernel)
theorem dX2_renew_67 : decode cX2_renew 67 = .ok (.iload_n 3, 1) := fo_29 (fw_get da_cX2_renew_1 14 rfl)
theorem dX2_renew_68 : decode cX2_renew 68 = .ok (.ireturn, 1) := fo_172 (fw_get da_cX2_renew_1 15 rfl)
theorem mi_wsX2_putTogether_wsX2_putTogether_r1 : ∀ w ∈ wsX2_putTogether_r1, w ∈ wsX2_putTogether := fun _ h => (List.mem_cons_of_mem _ (List.mem_append_left _ (List.mem_append_left _ (List.mem_append_left _ (List.mem_append_left _ h)))))
theorem mi_wsX2_putTogether_wsX30 : ∀ w ∈ wsX30, w ∈ wsX2_putTogether := fun _ h => (List.mem_cons_of_mem _ (List.mem_append_right _ h))
set_option maxRecDepth 20000 in
theorem ggX2_putTogether_X3_clear : GoodIn wsX2_putTogether wsX3_clear := goodIn_m _ [(wsX2_putTogether_r1, [false, false, false, false, false, false, false, false, false, false, true, true, true, true]), (wsX30, [true, true, true, true, true])] (gm_c mi_wsX2_putTogether_wsX2_putTogether_r1 (gm_c mi_wsX2_putTogether_wsX30 gm_n)) rfl (by decide +kernel)
set_option maxRecDepth 20000 in
theorem gX2_putTogether_X3_clear : GoodIn wsX2_putTogether (wsV RX2 71 RX3 yX3_clear wsX3_clear) := goodIn_app (goodIn_m _ [(wsX2_putTogether_r1, [false, false, false, false, false, false, true, true, true, true])] (gm_c mi_wsX2_putTogether_wsX2_putTogether_r1 gm_n) rfl (by decide +kernel)) ggX2_putTogether_X3_clear
set_option maxRecDepth 20000 in
theorem ggX2_putTogether_X3_add : GoodIn wsX2_putTogether wsX3_add := goodIn_m _ [(wsX2_putTogether_r1, [false, false, false, false, false, false, false, false, false, false, false, false, false, false, false, false, false, true]), (wsX2_putTogether_r1, [false, false, false, false, false, false, false, false, false, false, false, true, false, false, false, false, false, false, true, true]), (wsX30, [true, true, true, true, true])] (gm_c mi_wsX2_putTogether_wsX2_putTogether_r1 (gm_c mi_wsX2_putTogether_wsX2_putTogether_r1 (gm_c mi_wsX2_putTogether_wsX30 gm_n))) rfl (by decide +kernel)
set_option maxRecDepth 20000 in
theorem gX2_putTogether_X3_add : GoodIn wsX2_putTogether (wsV RX2 77 RX3 yX3_add wsX3_add) := goodIn_app (goodIn_m _ [(wsX2_putTogether_r1, [false, false, false, false, false, false, false, false, false, false, false, false, false, false, true, true, true]), (wsX2_putTogether_r1, [false, false, false, false, false, false, false, false, false, true])] (gm_c mi_wsX2_putTogether_wsX2_putTogether_r1 (gm_c mi_wsX2_putTogether_wsX2_putTogether_r1 gm_n)) rfl (by decide +kernel)) ggX2_putTogether_X3_add
theorem mi_wsX2_putTogether_wsX2_putTogether_r2 : ∀ w ∈ wsX2_putTogether_r2, w ∈ wsX2_putTogether := fun _ h => (List.mem_cons_of_mem _ (List.mem_append_left _ (List.mem_append_left _ (List.mem_append_left _ (List.mem_append_right _ (List.mem_append_left _ h))))))
theorem mi_wsX2_putTogether_wsX20 : ∀ w ∈ wsX20, w ∈ wsX2_putTogether := fun _ h => (List.mem_cons_of_mem _ (List.mem_append_left _ (List.mem_append_left _ (List.mem_append_right _ h))))
set_option maxRecDepth 20000 in
theorem ggX2_putTogether_X2_joinNode : GoodIn wsX2_putTogether wsX2_joinNode := goodIn_m _ [(wsX2_putTogether_r2, [true, true, true, true, true, true]), (wsX2_putTogether_r1, [false, false, false, false, false, false, false, false, false, false, false, false, false, false, true, true, true]), (wsX2_putTogether_r1, [false, false, false, false, false, false, false, false, false, true, false, false, false, false, false, false, false, true]), (wsX2_putTogether_r1, [false, false, false, false, false, false, false, false, false, false, false, true, false, false, false, false, false, false, true, true]), (wsX20, [true, true, true, true, true, true, true, true, true, true, true]), (wsX30, [true, true, true, true, true])] (gm_c mi_wsX2_putTogether_wsX2_putTogether_r2 (gm_c mi_wsX2_putTogether_wsX2_putTogether_r1 (gm_c mi_wsX2_putTogether_wsX2_putTogether_r1 (gm_c mi_wsX2_putTogether_wsX2_putTogether_r1 (gm_c mi_wsX2_putTogether_wsX20 (gm_c mi_wsX2_putTogether_wsX30 gm_n)))))) rfl (by decide +kernel)
set_option maxRecDepth 20000 in
theorem gX2_putTogether_X2_joinNode : GoodIn wsX2_putTogether (wsV RX2 81 RX2 yX2_joinNode wsX2_joinNode) := goodIn_app (goodIn_m _ [(wsX2_putTogether_r1, [false, false, false, false, false, false, false, false, false, false, false, false, false, false, false, false, false, false, false, false, true, true, true, true])] (gm_c mi_wsX2_putTogether_wsX2_putTogether_r1 gm_n) rfl (by decide +kernel)) ggX2_putTogether_X2_joinNode
set_option maxRecDepth 20000 in
theorem ggX2_putTogether_X2_rightBelow : GoodIn wsX2_putTogether wsX2_rightBelow := goodIn_m _ [(wsX2_putTogether_r2, [false, false, false, false, false, false, false, false, false, true]), (wsX2_putTogether_r1, [false, false, true]), (wsX2_putTogether_r1, [false, true]), (wsX20, [true, true, true, true, true, true, true, true, true, true, true])] (gm_c mi_wsX2_putTogether_wsX2_putTogether_r2 (gm_c mi_wsX2_putTogether_wsX2_putTogether_r1 (gm_c mi_wsX2_putTogether_wsX2_putTogether_r1 (gm_c mi_wsX2_putTogether_wsX20 gm_n)))) rfl (by decide +kernel)
set_option maxRecDepth 20000 in
theorem gX2_putTogether_X2_rightBelow : GoodIn wsX2_putTogether (wsV RX2 57 RX2 yX2_rightBelow wsX2_rightBelow) := goodIn_app (goodIn_m _ [(wsX2_putTogether_r2, [false, false, false, false, false, false, true, true, true]), (wsX2_putTogether_r1, [false, false, false, false, false, false, false, false, false, false, false, false, false, false, false, false, false, false, false, false, false, false, false, true])] (gm_c mi_wsX2_putTogether_wsX2_putTogether_r2 (gm_c mi_wsX2_putTogether_wsX2_putTogether_r1 gm_n)) rfl (by decide +kernel)) ggX2_putTogether_X2_rightBelow
theorem mi_wsX2_putTogether_wsX2_putTogether_r3 : ∀ w ∈ wsX2_putTogether_r3, w ∈ wsX2_putTogether := fun _ h => (List.mem_cons_of_mem _ (List.mem_append_left _ (List.mem_append_left _ (List.mem_append_left _ (List.mem_append_right _ (List.mem_append_right _ h))))))
set_option maxRecDepth 20000 in
theorem ggX2_putTogether_X3_cancel : GoodIn wsX2_putTogether wsX3_cancel := goodIn_m _ [(wsX2_putTogether_r2, [false, false, false, false, false, false, false, false, false, false, false, false, false, true]), (wsX2_putTogether_r1, [false, false, false, false, false, false, false, false, false, false, false, true, false, false, false, false, false, false, false, true]), (wsX2_putTogether_r1, [false, false, false, false, false, false, false, false, false, false, false, false, false, true]), (wsX2_putTogether_r1, [false, false, false, false, false, false, false, false, false, false, false, false, true]), (wsX2_putTogether_r2, [false, false, false, false, false, false, false, false, false, false, false, false, false, false, true, true, true]), (wsX2_putTogether_r1, [false, false, false, false, false, false, false, false, false, true]), (wsX2_putTogether_r2, [false, false, false, false, false, false, false, false, false, false, false, false, false, false, false, false, false, true, true, true, true, true]), (wsX2_putTogether_r1, [false, false, false, false, false, false, false, false, false, false, false, false, false, false, false, false, false, false, true]), (wsX2_putTogether_r2, [false, false, false, false, false, false, false, false, false, false, false, false, false, false, false, false, false, false, false, false, false, false, true, true]), (wsX2_putTogether_r3, [true, true]), (wsX30, [true, true, true, true, true])] (gm_c mi_wsX2_putTogether_wsX2_putTogether_r2 (gm_c mi_wsX2_putTogether_wsX2_putTogether_r1 (gm_c mi_wsX2_putTogether_wsX2_putTogether_r1 (gm_c mi_wsX2_putTogether_wsX2_putTogether_r1 (gm_c mi_wsX2_putTogether_wsX2_putTogether_r2 (gm_c mi_wsX2_putTogether_wsX2_putTogether_r1 (gm_c mi_wsX2_putTogether_wsX2_putTogether_r2 (gm_c mi_wsX2_putTogether_wsX2_putTogether_r1 (gm_c mi_wsX2_putTogether_wsX2_putTogether_r2 (gm_c mi_wsX2_putTogether_wsX2_putTogether_r3 (gm_c mi_wsX2_putTogether_wsX30 gm_n))))))))))) rfl (by decide +kernel)
set_option maxRecDepth 20000 in
theorem gX2_putTogether_X3_cancel : GoodIn wsX2_putTogether (wsV RX2 88 RX3 yX3_cancel wsX3_cancel) := goodIn_app (goodIn_m _ [(wsX2_putTogether_r2, [false, false, false, false, false, false, false, false, false, false, true, true, true]), (wsX2_putTogether_r1, [false, false, false, false, false, false, false, false, false, true])] (gm_c mi_wsX2_putTogether_wsX2_putTogether_r2 (gm_c mi_wsX2_putTogether_wsX2_putTogether_r1 gm_n)) rfl (by decide +kernel)) ggX2_putTogether_X3_cancel
def dt_cX2_putTogether_0 : List (Nat × Nat × Nat × Nat) := [(0, 42, 0, 0), (1, 180, 2, 12), (4, 182, 2, 71), (7, 42, 0, 0), (8, 180, 2, 22), (11, 27, 0, 0), (12, 46, 0, 0), (13, 42, 0, 0), (14, 180, 2, 18), (17, 27, 0, 0), (18, 46, 0, 0), (19, 100, 0, 0), (20, 4, 0, 0), (21, 160, 2, 28), (24, 42, 0, 0), (25, 180, 2, 12), (28, 42, 0, 0), (29, 180, 2, 40), (32, 180, 2, 74), (35, 42, 0, 0)]
theorem da_cX2_putTogether_0 : fw dt_cX2_putTogether_0 0 cX2_putTogether.data.toList = true := by decide +kernel
theorem dX2_putTogether_0 : decode cX2_putTogether 0 = .ok (.aload_n 0, 1) := fo_42 (fw_get da_cX2_putTogether_0 0 rfl)
theorem dX2_putTogether_1 : decode cX2_putTogether 1 = .ok (.getfield 12, 3) := fo_180 (fw_get da_cX2_putTogether_0 1 rfl)
theorem dX2_putTogether_4 : decode cX2_putTogether 4 = .ok (.invokevirtual 71, 3) := fo_182 (fw_get da_cX2_putTogether_0 2 rfl)
theorem dX2_putTogether_7 : decode cX2_putTogether 7 = .ok (.aload_n 0, 1) := fo_42 (fw_get da_cX2_putTogether_0 3 rfl)
theorem dX2_putTogether_8 : decode cX2_putTogether 8 = .ok (.getfield 22, 3) := fo_180 (fw_get da_cX2_putTogether_0 4 rfl)
theorem dX2_putTogether_11 : decode cX2_putTogether 11 = .ok (.iload_n 1, 1) := fo_27 (fw_get da_cX2_putTogether_0 5 rfl)
theorem dX2_putTogether_12 : decode cX2_putTogether 12 = .ok (.iaload, 1) := fo_46 (fw_get da_cX2_putTogether_0 6 rfl)
theorem dX2_putTogether_13 : decode cX2_putTogether 13 = .ok (.aload_n 0, 1) := fo_42 (fw_get da_cX2_putTogether_0 7 rfl)
theorem dX2_putTogether_14 : decode cX2_putTogether 14 = .ok (.getfield 18, 3) := fo_180 (fw_get da_cX2_putTogether_0 8 rfl)
theorem dX2_putTogether_17 : decode cX2_putTogether 17 = .ok (.iload_n 1, 1) := fo_27 (fw_get da_cX2_putTogether_0 9 rfl)
theorem dX2_putTogether_18 : decode cX2_putTogether 18 = .ok (.iaload, 1) := fo_46 (fw_get da_cX2_putTogether_0 10 rfl)
theorem dX2_putTogether_19 : decode cX2_putTogether 19 = .ok (.isub, 1) := fo_100 (fw_get da_cX2_putTogether_0 11 rfl)
theorem dX2_putTogether_20 : decode cX2_putTogether 20 = .ok (.iconst 1, 1) := fo_4 (fw_get da_cX2_putTogether_0 12 rfl)
theorem dX2_putTogether_21 : decode cX2_putTogether 21 = .ok (.if_icmp .ne 28, 3) := fo_160 (fw_get da_cX2_putTogether_0 13 rfl) (by decide +kernel)
theorem dX2_putTogether_24 : decode cX2_putTogether 24 = .ok (.aload_n 0, 1) := fo_42 (fw_get da_cX2_putTogether_0 14 rfl)
theorem dX2_putTogether_25 : decode cX2_putTogether 25 = .ok (.getfield 12, 3) := fo_180 (fw_get da_cX2_putTogether_0 15 rfl)
theorem dX2_putTogether_28 : decode cX2_putTogether 28 = .ok (.aload_n 0, 1) := fo_42 (fw_get da_cX2_putTogether_0 16 rfl)
theorem dX2_putTogether_29 : decode cX2_putTogether 29 = .ok (.getfield 40, 3) := fo_180 (fw_get da_cX2_putTogether_0 17 rfl)
theorem dX2_putTogether_32 : decode cX2_putTogether 32 = .ok (.getfield 74, 3) := fo_180 (fw_get da_cX2_putTogether_0 18 rfl)
theorem dX2_putTogether_35 : decode cX2_putTogether 35 = .ok (.aload_n 0, 1) := fo_42 (fw_get da_cX2_putTogether_0 19 rfl)
def dt_cX2_putTogether_1 : List (Nat × Nat × Nat × Nat) := [(36, 180, 2, 18), (39, 27, 0, 0), (40, 46, 0, 0), (41, 46, 0, 0), (42, 4, 0, 0), (43, 182, 2, 77), (46, 167, 2, 38), (49, 42, 0, 0), (50, 42, 0, 0), (51, 180, 2, 12), (54, 27, 0, 0), (55, 4, 0, 0), (56, 96, 0, 0), (57, 182, 2, 81), (60, 42, 0, 0), (61, 42, 0, 0), (62, 180, 2, 12), (65, 42, 0, 0), (66, 27, 0, 0), (67, 182, 2, 57)]
theorem da_cX2_putTogether_1 : fw dt_cX2_putTogether_1 0 cX2_putTogether.data.toList = true := by decide +kernel
theorem dX2_putTogether_36 : decode cX2_putTogether 36 = .ok (.getfield 18, 3) := fo_180 (fw_get da_cX2_putTogether_1 0 rfl)
theorem dX2_putTogether_39 : decode cX2_putTogether 39 = .ok (.iload_n 1, 1) := fo_27 (fw_get da_cX2_putTogether_1 1 rfl)
theorem dX2_putTogether_40 : decode cX2_putTogether 40 = .ok (.iaload, 1) := fo_46 (fw_get da_cX2_putTogether_1 2 rfl)
theorem dX2_putTogether_41 : decode cX2_putTogether 41 = .ok (.iaload, 1) := fo_46 (fw_get da_cX2_putTogether_1 3 rfl)
theorem dX2_putTogether_42 : decode cX2_putTogether 42 = .ok (.iconst 1, 1) := fo_4 (fw_get da_cX2_putTogether_1 4 rfl)
theorem dX2_putTogether_43 : decode cX2_putTogether 43 = .ok (.invokevirtual 77, 3) := fo_182 (fw_get da_cX2_putTogether_1 5 rfl)
theorem dX2_putTogether_46 : decode cX2_putTogether 46 = .ok (.goto 38, 3) := fo_167 (fw_get da_cX2_putTogether_1 6 rfl) (by decide +kernel)
theorem dX2_putTogether_49 : decode cX2_putTogether 49 = .ok (.aload_n 0, 1) := fo_42 (fw_get da_cX2_putTogether_1 7 rfl)
theorem dX2_putTogether_50 : decode cX2_putTogether 50 = .ok (.aload_n 0, 1) := fo_42 (fw_get da_cX2_putTogether_1 8 rfl)
theorem dX2_putTogether_51 : decode cX2_putTogether 51 = .ok (.getfield 12, 3) := fo_180 (fw_get da_cX2_putTogether_1 9 rfl)
theorem dX2_putTogether_54 : decode cX2_putTogether 54 = .ok (.iload_n 1, 1) := fo_27 (fw_get da_cX2_putTogether_1 10 rfl)
theorem dX2_putTogether_55 : decode cX2_putTogether 55 = .ok (.iconst 1, 1) := fo_4 (fw_get da_cX2_putTogether_1 11 rfl)
theorem dX2_putTogether_56 : decode cX2_putTogether 56 = .ok (.iadd, 1) := fo_96 (fw_get da_cX2_putTogether_1 12 rfl)
theorem dX2_putTogether_57 : decode cX2_putTogether 57 = .ok (.invokevirtual 81, 3) := fo_182 (fw_get da_cX2_putTogether_1 13 rfl)
theorem dX2_putTogether_60 : decode cX2_putTogether 60 = .ok (.aload_n 0, 1) := fo_42 (fw_get da_cX2_putTogether_1 14 rfl)
theorem dX2_putTogether_61 : decode cX2_putTogether 61 = .ok (.aload_n 0, 1) := fo_42 (fw_get da_cX2_putTogether_1 15 rfl)
theorem dX2_putTogether_62 : decode cX2_putTogether 62 = .ok (.getfield 12, 3) := fo_180 (fw_get da_cX2_putTogether_1 16 rfl)
theorem dX2_putTogether_65 : decode cX2_putTogether 65 = .ok (.aload_n 0, 1) := fo_42 (fw_get da_cX2_putTogether_1 17 rfl)
theorem dX2_putTogether_66 : decode cX2_putTogether 66 = .ok (.iload_n 1, 1) := fo_27 (fw_get da_cX2_putTogether_1 18 rfl)
theorem dX2_putTogether_67 : decode cX2_putTogether 67 = .ok (.invokevirtual 57, 3) := fo_182 (fw_get da_cX2_putTogether_1 19 rfl)
def dt_cX2_putTogether_2 : List (Nat × Nat × Nat × Nat) := [(70, 182, 2, 81), (73, 42, 0, 0), (74, 180, 2, 12), (77, 42, 0, 0), (78, 180, 2, 85), (81, 182, 2, 88), (84, 177, 0, 0)]
theorem da_cX2_putTogether_2 : fw dt_cX2_putTogether_2 0 cX2_putTogether.data.toList = true := by decide +kernel
theorem dX2_putTogether_70 : decode cX2_putTogether 70 = .ok (.invokevirtual 81, 3) := fo_182 (fw_get da_cX2_putTogether_2 0 rfl)
theorem dX2_putTogether_73 : decode cX2_putTogether 73 = .ok (.aload_n 0, 1) := fo_42 (fw_get da_cX2_putTogether_2 1 rfl)
theorem dX2_putTogether_74 : decode cX2_putTogether 74 = .ok (.getfield 12, 3) := fo_180 (fw_get da_cX2_putTogether_2 2 rfl)
theorem dX2_putTogether_77 : decode cX2_putTogether 77 = .ok (.aload_n 0, 1) := fo_42 (fw_get da_cX2_putTogether_2 3 rfl)
theorem dX2_putTogether_78 : decode cX2_putTogether 78 = .ok (.getfield 85, 3) := fo_180 (fw_get da_cX2_putTogether_2 4 rfl)
theorem dX2_putTogether_81 : decode cX2_putTogether 81 = .ok (.invokevirtual 88, 3) := fo_182 (fw_get da_cX2_putTogether_2 5 rfl)
theorem dX2_putTogether_84 : decode cX2_putTogether 84 = .ok (.return_, 1) := fo_177 (fw_get da_cX2_putTogether_2 6 rfl)
set_option maxRecDepth 20000 in
theorem ggX2_joinNode_X3_add : GoodIn wsX2_joinNode wsX3_add := goodIn_r _ [10, 11, 12, 13, 25, 26, 27, 28, 29] rfl (by decide +kernel)
set_option maxRecDepth 20000 in
theorem gX2_joinNode_X3_add : GoodIn wsX2_joinNode (wsV RX2 77 RX3 yX3_add wsX3_add) := goodIn_app (goodIn_r _ [6, 7, 8, 9] rfl (by decide +kernel)) ggX2_joinNode_X3_add
def dt_cX2_joinNode_0 : List (Nat × Nat × Nat × Nat) := [(0, 28, 0, 0), (1, 16, 1, 6), (3, 104, 0, 0), (4, 62, 0, 0), (5, 3, 0, 0), (6, 54, 1, 4), (8, 21, 1, 4), (10, 42, 0, 0), (11, 180, 2, 25), (14, 28, 0, 0), (15, 46, 0, 0), (16, 162, 2, 31), (19, 43, 0, 0), (20, 42, 0, 0), (21, 180, 2, 34), (24, 29, 0, 0), (25, 21, 1, 4), (27, 96, 0, 0), (28, 46, 0, 0), (29, 42, 0, 0)]
theorem da_cX2_joinNode_0 : fw dt_cX2_joinNode_0 0 cX2_joinNode.data.toList = true := by decide +kernel
theorem dX2_joinNode_0 : decode cX2_joinNode 0 = .ok (.iload_n 2, 1) := fo_28 (fw_get da_cX2_joinNode_0 0 rfl)
theorem dX2_joinNode_1 : decode cX2_joinNode 1 = .ok (.bipush 6, 2) := fo_16 (fw_get da_cX2_joinNode_0 1 rfl) (by decide +kernel)
theorem dX2_joinNode_3 : decode cX2_joinNode 3 = .ok (.imul, 1) := fo_104 (fw_get da_cX2_joinNode_0 2 rfl)
theorem dX2_joinNode_4 : decode cX2_joinNode 4 = .ok (.istore_n 3, 1) := fo_62 (fw_get da_cX2_joinNode_0 3 rfl)
theorem dX2_joinNode_5 : decode cX2_joinNode 5 = .ok (.iconst 0, 1) := fo_3 (fw_get da_cX2_joinNode_0 4 rfl)
theorem dX2_joinNode_6 : decode cX2_joinNode 6 = .ok (.istore 4, 2) := fo_54 (fw_get da_cX2_joinNode_0 5 rfl)
theorem dX2_joinNode_8 : decode cX2_joinNode 8 = .ok (.iload 4, 2) := fo_21 (fw_get da_cX2_joinNode_0 6 rfl)
theorem dX2_joinNode_10 : decode cX2_joinNode 10 = .ok (.aload_n 0, 1) := fo_42 (fw_get da_cX2_joinNode_0 7 rfl)
theorem dX2_joinNode_11 : decode cX2_joinNode 11 = .ok (.getfield 25, 3) := fo_180 (fw_get da_cX2_joinNode_0 8 rfl)
theorem dX2_joinNode_14 : decode cX2_joinNode 14 = .ok (.iload_n 2, 1) := fo_28 (fw_get da_cX2_joinNode_0 9 rfl)
theorem dX2_joinNode_15 : decode cX2_joinNode 15 = .ok (.iaload, 1) := fo_46 (fw_get da_cX2_joinNode_0 10 rfl)
theorem dX2_joinNode_16 : decode cX2_joinNode 16 = .ok (.if_icmp .ge 31, 3) := fo_162 (fw_get da_cX2_joinNode_0 11 rfl) (by decide +kernel)
theorem dX2_joinNode_19 : decode cX2_joinNode 19 = .ok (.aload_n 1, 1) := fo_43 (fw_get da_cX2_joinNode_0 12 rfl)
theorem dX2_joinNode_20 : decode cX2_joinNode 20 = .ok (.aload_n 0, 1) := fo_42 (fw_get da_cX2_joinNode_0 13 rfl)
theorem dX2_joinNode_21 : decode cX2_joinNode 21 = .ok (.getfield 34, 3) := fo_180 (fw_get da_cX2_joinNode_0 14 rfl)
theorem dX2_joinNode_24 : decode cX2_joinNode 24 = .ok (.iload_n 3, 1) := fo_29 (fw_get da_cX2_joinNode_0 15 rfl)
theorem dX2_joinNode_25 : decode cX2_joinNode 25 = .ok (.iload 4, 2) := fo_21 (fw_get da_cX2_joinNode_0 16 rfl)
theorem dX2_joinNode_27 : decode cX2_joinNode 27 = .ok (.iadd, 1) := fo_96 (fw_get da_cX2_joinNode_0 17 rfl)
theorem dX2_joinNode_28 : decode cX2_joinNode 28 = .ok (.iaload, 1) := fo_46 (fw_get da_cX2_joinNode_0 18 rfl)
theorem dX2_joinNode_29 : decode cX2_joinNode 29 = .ok (.aload_n 0, 1) := fo_42 (fw_get da_cX2_joinNode_0 19 rfl)
def dt_cX2_joinNode_1 : List (Nat × Nat × Nat × Nat) := [(30, 180, 2, 37), (33, 29, 0, 0), (34, 21, 1, 4), (36, 96, 0, 0), (37, 46, 0, 0), (38, 182, 2, 77), (41, 132, 2, 1025), (44, 167, 2, 65500), (47, 43, 0, 0), (48, 89, 0, 0), (49, 180, 2, 91), (52, 42, 0, 0), (53, 180, 2, 28), (56, 28, 0, 0), (57, 46, 0, 0), (58, 96, 0, 0), (59, 181, 2, 91), (62, 177, 0, 0)]
theorem da_cX2_joinNode_1 : fw dt_cX2_joinNode_1 0 cX2_joinNode.data.toList = true := by decide +kernel
theorem dX2_joinNode_30 : decode cX2_joinNode 30 = .ok (.getfield 37, 3) := fo_180 (fw_get da_cX2_joinNode_1 0 rfl)
theorem dX2_joinNode_33 : decode cX2_joinNode 33 = .ok (.iload_n 3, 1) := fo_29 (fw_get da_cX2_joinNode_1 1 rfl)
theorem dX2_joinNode_34 : decode cX2_joinNode 34 = .ok (.iload 4, 2) := fo_21 (fw_get da_cX2_joinNode_1 2 rfl)
theorem dX2_joinNode_36 : decode cX2_joinNode 36 = .ok (.iadd, 1) := fo_96 (fw_get da_cX2_joinNode_1 3 rfl)
theorem dX2_joinNode_37 : decode cX2_joinNode 37 = .ok (.iaload, 1) := fo_46 (fw_get da_cX2_joinNode_1 4 rfl)
theorem dX2_joinNode_38 : decode cX2_joinNode 38 = .ok (.invokevirtual 77, 3) := fo_182 (fw_get da_cX2_joinNode_1 5 rfl)
theorem dX2_joinNode_41 : decode cX2_joinNode 41 = .ok (.iinc 4 1, 3) := fo_132 (fw_get da_cX2_joinNode_1 6 rfl) rfl (by decide +kernel)
theorem dX2_joinNode_44 : decode cX2_joinNode 44 = .ok (.goto (-36), 3) := fo_167 (fw_get da_cX2_joinNode_1 7 rfl) (by decide +kernel)
theorem dX2_joinNode_47 : decode cX2_joinNode 47 = .ok (.aload_n 1, 1) := fo_43 (fw_get da_cX2_joinNode_1 8 rfl)
theorem dX2_joinNode_48 : decode cX2_joinNode 48 = .ok (.dup, 1) := fo_89 (fw_get da_cX2_joinNode_1 9 rfl)
theorem dX2_joinNode_49 : decode cX2_joinNode 49 = .ok (.getfield 91, 3) := fo_180 (fw_get da_cX2_joinNode_1 10 rfl)
theorem dX2_joinNode_52 : decode cX2_joinNode 52 = .ok (.aload_n 0, 1) := fo_42 (fw_get da_cX2_joinNode_1 11 rfl)
theorem dX2_joinNode_53 : decode cX2_joinNode 53 = .ok (.getfield 28, 3) := fo_180 (fw_get da_cX2_joinNode_1 12 rfl)
theorem dX2_joinNode_56 : decode cX2_joinNode 56 = .ok (.iload_n 2, 1) := fo_28 (fw_get da_cX2_joinNode_1 13 rfl)
theorem dX2_joinNode_57 : decode cX2_joinNode 57 = .ok (.iaload, 1) := fo_46 (fw_get da_cX2_joinNode_1 14 rfl)
theorem dX2_joinNode_58 : decode cX2_joinNode 58 = .ok (.iadd, 1) := fo_96 (fw_get da_cX2_joinNode_1 15 rfl)
theorem dX2_joinNode_59 : decode cX2_joinNode 59 = .ok (.putfield 91, 3) := fo_181 (fw_get da_cX2_joinNode_1 16 rfl)
theorem dX2_joinNode_62 : decode cX2_joinNode 62 = .ok (.return_, 1) := fo_177 (fw_get da_cX2_joinNode_1 17 rfl)
def dt_cX2_isJoined_0 : List (Nat × Nat × Nat × Nat) := [(0, 42, 0, 0), (1, 180, 2, 25), (4, 27, 0, 0), (5, 46, 0, 0), (6, 42, 0, 0), (7, 180, 2, 12), (10, 180, 2, 94), (13, 160, 2, 19), (16, 42, 0, 0), (17, 180, 2, 28), (20, 27, 0, 0), (21, 46, 0, 0), (22, 42, 0, 0), (23, 180, 2, 12), (26, 180, 2, 91), (29, 159, 2, 5), (32, 3, 0, 0), (33, 172, 0, 0), (34, 27, 0, 0), (35, 16, 1, 6)]
theorem da_cX2_isJoined_0 : fw dt_cX2_isJoined_0 0 cX2_isJoined.data.toList = true := by decide +kernel
theorem dX2_isJoined_0 : decode cX2_isJoined 0 = .ok (.aload_n 0, 1) := fo_42 (fw_get da_cX2_isJoined_0 0 rfl)
theorem dX2_isJoined_1 : decode cX2_isJoined 1 = .ok (.getfield 25, 3) := fo_180 (fw_get da_cX2_isJoined_0 1 rfl)
theorem dX2_isJoined_4 : decode cX2_isJoined 4 = .ok (.iload_n 1, 1) := fo_27 (fw_get da_cX2_isJoined_0 2 rfl)
theorem dX2_isJoined_5 : decode cX2_isJoined 5 = .ok (.iaload, 1) := fo_46 (fw_get da_cX2_isJoined_0 3 rfl)
theorem dX2_isJoined_6 : decode cX2_isJoined 6 = .ok (.aload_n 0, 1) := fo_42 (fw_get da_cX2_isJoined_0 4 rfl)
theorem dX2_isJoined_7 : decode cX2_isJoined 7 = .ok (.getfield 12, 3) := fo_180 (fw_get da_cX2_isJoined_0 5 rfl)
theorem dX2_isJoined_10 : decode cX2_isJoined 10 = .ok (.getfield 94, 3) := fo_180 (fw_get da_cX2_isJoined_0 6 rfl)
theorem dX2_isJoined_13 : decode cX2_isJoined 13 = .ok (.if_icmp .ne 19, 3) := fo_160 (fw_get da_cX2_isJoined_0 7 rfl) (by decide +kernel)
theorem dX2_isJoined_16 : decode cX2_isJoined 16 = .ok (.aload_n 0, 1) := fo_42 (fw_get da_cX2_isJoined_0 8 rfl)
theorem dX2_isJoined_17 : decode cX2_isJoined 17 = .ok (.getfield 28, 3) := fo_180 (fw_get da_cX2_isJoined_0 9 rfl)
theorem dX2_isJoined_20 : decode cX2_isJoined 20 = .ok (.iload_n 1, 1) := fo_27 (fw_get da_cX2_isJoined_0 10 rfl)
theorem dX2_isJoined_21 : decode cX2_isJoined 21 = .ok (.iaload, 1) := fo_46 (fw_get da_cX2_isJoined_0 11 rfl)
theorem dX2_isJoined_22 : decode cX2_isJoined 22 = .ok (.aload_n 0, 1) := fo_42 (fw_get da_cX2_isJoined_0 12 rfl)
theorem dX2_isJoined_23 : decode cX2_isJoined 23 = .ok (.getfield 12, 3) := fo_180 (fw_get da_cX2_isJoined_0 13 rfl)
theorem dX2_isJoined_26 : decode cX2_isJoined 26 = .ok (.getfield 91, 3) := fo_180 (fw_get da_cX2_isJoined_0 14 rfl)
theorem dX2_isJoined_29 : decode cX2_isJoined 29 = .ok (.if_icmp .eq 5, 3) := fo_159 (fw_get da_cX2_isJoined_0 15 rfl) (by decide +kernel)
theorem dX2_isJoined_32 : decode cX2_isJoined 32 = .ok (.iconst 0, 1) := fo_3 (fw_get da_cX2_isJoined_0 16 rfl)
theorem dX2_isJoined_33 : decode cX2_isJoined 33 = .ok (.ireturn, 1) := fo_172 (fw_get da_cX2_isJoined_0 17 rfl)
theorem dX2_isJoined_34 : decode cX2_isJoined 34 = .ok (.iload_n 1, 1) := fo_27 (fw_get da_cX2_isJoined_0 18 rfl)
theorem dX2_isJoined_35 : decode cX2_isJoined 35 = .ok (.bipush 6, 2) := fo_16 (fw_get da_cX2_isJoined_0 19 rfl) (by decide +kernel)
def dt_cX2_isJoined_1 : List (Nat × Nat × Nat × Nat) := [(37, 104, 0, 0), (38, 61, 0, 0), (39, 3, 0, 0), (40, 62, 0, 0), (41, 29, 0, 0), (42, 42, 0, 0), (43, 180, 2, 12), (46, 180, 2, 94), (49, 162, 2, 57), (52, 29, 0, 0), (53, 16, 1, 6), (55, 162, 2, 51), (58, 42, 0, 0), (59, 180, 2, 34), (62, 28, 0, 0), (63, 29, 0, 0), (64, 96, 0, 0), (65, 46, 0, 0), (66, 42, 0, 0), (67, 180, 2, 12)]
theorem da_cX2_isJoined_1 : fw dt_cX2_isJoined_1 0 cX2_isJoined.data.toList = true := by decide +kernel
theorem dX2_isJoined_37 : decode cX2_isJoined 37 = .ok (.imul, 1) := fo_104 (fw_get da_cX2_isJoined_1 0 rfl)
theorem dX2_isJoined_38 : decode cX2_isJoined 38 = .ok (.istore_n 2, 1) := fo_61 (fw_get da_cX2_isJoined_1 1 rfl)
theorem dX2_isJoined_39 : decode cX2_isJoined 39 = .ok (.iconst 0, 1) := fo_3 (fw_get da_cX2_isJoined_1 2 rfl)
theorem dX2_isJoined_40 : decode cX2_isJoined 40 = .ok (.istore_n 3, 1) := fo_62 (fw_get da_cX2_isJoined_1 3 rfl)
theorem dX2_isJoined_41 : decode cX2_isJoined 41 = .ok (.iload_n 3, 1) := fo_29 (fw_get da_cX2_isJoined_1 4 rfl)
theorem dX2_isJoined_42 : decode cX2_isJoined 42 = .ok (.aload_n 0, 1) := fo_42 (fw_get da_cX2_isJoined_1 5 rfl)
theorem dX2_isJoined_43 : decode cX2_isJoined 43 = .ok (.getfield 12, 3) := fo_180 (fw_get da_cX2_isJoined_1 6 rfl)
theorem dX2_isJoined_46 : decode cX2_isJoined 46 = .ok (.getfield 94, 3) := fo_180 (fw_get da_cX2_isJoined_1 7 rfl)
theorem dX2_isJoined_49 : decode cX2_isJoined 49 = .ok (.if_icmp .ge 57, 3) := fo_162 (fw_get da_cX2_isJoined_1 8 rfl) (by decide +kernel)
theorem dX2_isJoined_52 : decode cX2_isJoined 52 = .ok (.iload_n 3, 1) := fo_29 (fw_get da_cX2_isJoined_1 9 rfl)
theorem dX2_isJoined_53 : decode cX2_isJoined 53 = .ok (.bipush 6, 2) := fo_16 (fw_get da_cX2_isJoined_1 10 rfl) (by decide +kernel)
theorem dX2_isJoined_55 : decode cX2_isJoined 55 = .ok (.if_icmp .ge 51, 3) := fo_162 (fw_get da_cX2_isJoined_1 11 rfl) (by decide +kernel)
theorem dX2_isJoined_58 : decode cX2_isJoined 58 = .ok (.aload_n 0, 1) := fo_42 (fw_get da_cX2_isJoined_1 12 rfl)
theorem dX2_isJoined_59 : decode cX2_isJoined 59 = .ok (.getfield 34, 3) := fo_180 (fw_get da_cX2_isJoined_1 13 rfl)
theorem dX2_isJoined_62 : decode cX2_isJoined 62 = .ok (.iload_n 2, 1) := fo_28 (fw_get da_cX2_isJoined_1 14 rfl)
theorem dX2_isJoined_63 : decode cX2_isJoined 63 = .ok (.iload_n 3, 1) := fo_29 (fw_get da_cX2_isJoined_1 15 rfl)
theorem dX2_isJoined_64 : decode cX2_isJoined 64 = .ok (.iadd, 1) := fo_96 (fw_get da_cX2_isJoined_1 16 rfl)
theorem dX2_isJoined_65 : decode cX2_isJoined 65 = .ok (.iaload, 1) := fo_46 (fw_get da_cX2_isJoined_1 17 rfl)
theorem dX2_isJoined_66 : decode cX2_isJoined 66 = .ok (.aload_n 0, 1) := fo_42 (fw_get da_cX2_isJoined_1 18 rfl)
theorem dX2_isJoined_67 : decode cX2_isJoined 67 = .ok (.getfield 12, 3) := fo_180 (fw_get da_cX2_isJoined_1 19 rfl)
def dt_cX2_isJoined_2 : List (Nat × Nat × Nat × Nat) := [(70, 180, 2, 96), (73, 29, 0, 0), (74, 46, 0, 0), (75, 160, 2, 23), (78, 42, 0, 0), (79, 180, 2, 37), (82, 28, 0, 0), (83, 29, 0, 0), (84, 96, 0, 0), (85, 46, 0, 0), (86, 42, 0, 0), (87, 180, 2, 12), (90, 180, 2, 97), (93, 29, 0, 0), (94, 46, 0, 0), (95, 159, 2, 5), (98, 3, 0, 0), (99, 172, 0, 0), (100, 132, 2, 769), (103, 167, 2, 65474)]
theorem da_cX2_isJoined_2 : fw dt_cX2_isJoined_2 0 cX2_isJoined.data.toList = true := by decide +kernel
theorem dX2_isJoined_70 : decode cX2_isJoined 70 = .ok (.getfield 96, 3) := fo_180 (fw_get da_cX2_isJoined_2 0 rfl)
theorem dX2_isJoined_73 : decode cX2_isJoined 73 = .ok (.iload_n 3, 1) := fo_29 (fw_get da_cX2_isJoined_2 1 rfl)
theorem dX2_isJoined_74 : decode cX2_isJoined 74 = .ok (.iaload, 1) := fo_46 (fw_get da_cX2_isJoined_2 2 rfl)
theorem dX2_isJoined_75 : decode cX2_isJoined 75 = .ok (.if_icmp .ne 23, 3) := fo_160 (fw_get da_cX2_isJoined_2 3 rfl) (by decide +kernel)
theorem dX2_isJoined_78 : decode cX2_isJoined 78 = .ok (.aload_n 0, 1) := fo_42 (fw_get da_cX2_isJoined_2 4 rfl)
theorem dX2_isJoined_79 : decode cX2_isJoined 79 = .ok (.getfield 37, 3) := fo_180 (fw_get da_cX2_isJoined_2 5 rfl)
theorem dX2_isJoined_82 : decode cX2_isJoined 82 = .ok (.iload_n 2, 1) := fo_28 (fw_get da_cX2_isJoined_2 6 rfl)
theorem dX2_isJoined_83 : decode cX2_isJoined 83 = .ok (.iload_n 3, 1) := fo_29 (fw_get da_cX2_isJoined_2 7 rfl)
theorem dX2_isJoined_84 : decode cX2_isJoined 84 = .ok (.iadd, 1) := fo_96 (fw_get da_cX2_isJoined_2 8 rfl)
theorem dX2_isJoined_85 : decode cX2_isJoined 85 = .ok (.iaload, 1) := fo_46 (fw_get da_cX2_isJoined_2 9 rfl)
theorem dX2_isJoined_86 : decode cX2_isJoined 86 = .ok (.aload_n 0, 1) := fo_42 (fw_get da_cX2_isJoined_2 10 rfl)
theorem dX2_isJoined_87 : decode cX2_isJoined 87 = .ok (.getfield 12, 3) := fo_180 (fw_get da_cX2_isJoined_2 11 rfl)
theorem dX2_isJoined_90 : decode cX2_isJoined 90 = .ok (.getfield 97, 3) := fo_180 (fw_get da_cX2_isJoined_2 12 rfl)
theorem dX2_isJoined_93 : decode cX2_isJoined 93 = .ok (.iload_n 3, 1) := fo_29 (fw_get da_cX2_isJoined_2 13 rfl)
theorem dX2_isJoined_94 : decode cX2_isJoined 94 = .ok (.iaload, 1) := fo_46 (fw_get da_cX2_isJoined_2 14 rfl)
theorem dX2_isJoined_95 : decode cX2_isJoined 95 = .ok (.if_icmp .eq 5, 3) := fo_159 (fw_get da_cX2_isJoined_2 15 rfl) (by decide +kernel)
theorem dX2_isJoined_98 : decode cX2_isJoined 98 = .ok (.iconst 0, 1) := fo_3 (fw_get da_cX2_isJoined_2 16 rfl)
theorem dX2_isJoined_99 : decode cX2_isJoined 99 = .ok (.ireturn, 1) := fo_172 (fw_get da_cX2_isJoined_2 17 rfl)
theorem dX2_isJoined_100 : decode cX2_isJoined 100 = .ok (.iinc 3 1, 3) := fo_132 (fw_get da_cX2_isJoined_2 18 rfl) rfl (by decide +kernel)
theorem dX2_isJoined_103 : decode cX2_isJoined 103 = .ok (.goto (-62), 3) := fo_167 (fw_get da_cX2_isJoined_2 19 rfl) (by decide +kernel)
def dt_cX2_isJoined_3 : List (Nat × Nat × Nat × Nat) := [(106, 4, 0, 0), (107, 172, 0, 0)]
theorem da_cX2_isJoined_3 : fw dt_cX2_isJoined_3 0 cX2_isJoined.data.toList = true := by decide +kernel
theorem dX2_isJoined_106 : decode cX2_isJoined 106 = .ok (.iconst 1, 1) := fo_4 (fw_get da_cX2_isJoined_3 0 rfl)
theorem dX2_isJoined_107 : decode cX2_isJoined 107 = .ok (.ireturn, 1) := fo_172 (fw_get da_cX2_isJoined_3 1 rfl)
def dt_cX2_keepJoined_0 : List (Nat × Nat × Nat × Nat) := [(0, 27, 0, 0), (1, 16, 1, 6), (3, 104, 0, 0), (4, 61, 0, 0), (5, 3, 0, 0), (6, 62, 0, 0), (7, 29, 0, 0), (8, 42, 0, 0), (9, 180, 2, 12), (12, 180, 2, 94), (15, 162, 2, 49), (18, 29, 0, 0), (19, 16, 1, 6), (21, 162, 2, 43), (24, 42, 0, 0), (25, 180, 2, 34), (28, 28, 0, 0), (29, 29, 0, 0), (30, 96, 0, 0), (31, 42, 0, 0)]
theorem da_cX2_keepJoined_0 : fw dt_cX2_keepJoined_0 0 cX2_keepJoined.data.toList = true := by decide +kernel
theorem dX2_keepJoined_0 : decode cX2_keepJoined 0 = .ok (.iload_n 1, 1) := fo_27 (fw_get da_cX2_keepJoined_0 0 rfl)
theorem dX2_keepJoined_1 : decode cX2_keepJoined 1 = .ok (.bipush 6, 2) := fo_16 (fw_get da_cX2_keepJoined_0 1 rfl) (by decide +kernel)
theorem dX2_keepJoined_3 : decode cX2_keepJoined 3 = .ok (.imul, 1) := fo_104 (fw_get da_cX2_keepJoined_0 2 rfl)
theorem dX2_keepJoined_4 : decode cX2_keepJoined 4 = .ok (.istore_n 2, 1) := fo_61 (fw_get da_cX2_keepJoined_0 3 rfl)
theorem dX2_keepJoined_5 : decode cX2_keepJoined 5 = .ok (.iconst 0, 1) := fo_3 (fw_get da_cX2_keepJoined_0 4 rfl)
theorem dX2_keepJoined_6 : decode cX2_keepJoined 6 = .ok (.istore_n 3, 1) := fo_62 (fw_get da_cX2_keepJoined_0 5 rfl)
theorem dX2_keepJoined_7 : decode cX2_keepJoined 7 = .ok (.iload_n 3, 1) := fo_29 (fw_get da_cX2_keepJoined_0 6 rfl)
theorem dX2_keepJoined_8 : decode cX2_keepJoined 8 = .ok (.aload_n 0, 1) := fo_42 (fw_get da_cX2_keepJoined_0 7 rfl)
theorem dX2_keepJoined_9 : decode cX2_keepJoined 9 = .ok (.getfield 12, 3) := fo_180 (fw_get da_cX2_keepJoined_0 8 rfl)
theorem dX2_keepJoined_12 : decode cX2_keepJoined 12 = .ok (.getfield 94, 3) := fo_180 (fw_get da_cX2_keepJoined_0 9 rfl)
theorem dX2_keepJoined_15 : decode cX2_keepJoined 15 = .ok (.if_icmp .ge 49, 3) := fo_162 (fw_get da_cX2_keepJoined_0 10 rfl) (by decide +kernel)
theorem dX2_keepJoined_18 : decode cX2_keepJoined 18 = .ok (.iload_n 3, 1) := fo_29 (fw_get da_cX2_keepJoined_0 11 rfl)
theorem dX2_keepJoined_19 : decode cX2_keepJoined 19 = .ok (.bipush 6, 2) := fo_16 (fw_get da_cX2_keepJoined_0 12 rfl) (by decide +kernel)
theorem dX2_keepJoined_21 : decode cX2_keepJoined 21 = .ok (.if_icmp .ge 43, 3) := fo_162 (fw_get da_cX2_keepJoined_0 13 rfl) (by decide +kernel)
theorem dX2_keepJoined_24 : decode cX2_keepJoined 24 = .ok (.aload_n 0, 1) := fo_42 (fw_get da_cX2_keepJoined_0 14 rfl)
theorem dX2_keepJoined_25 : decode cX2_keepJoined 25 = .ok (.getfield 34, 3) := fo_180 (fw_get da_cX2_keepJoined_0 15 rfl)
theorem dX2_keepJoined_28 : decode cX2_keepJoined 28 = .ok (.iload_n 2, 1) := fo_28 (fw_get da_cX2_keepJoined_0 16 rfl)
theorem dX2_keepJoined_29 : decode cX2_keepJoined 29 = .ok (.iload_n 3, 1) := fo_29 (fw_get da_cX2_keepJoined_0 17 rfl)
theorem dX2_keepJoined_30 : decode cX2_keepJoined 30 = .ok (.iadd, 1) := fo_96 (fw_get da_cX2_keepJoined_0 18 rfl)
theorem dX2_keepJoined_31 : decode cX2_keepJoined 31 = .ok (.aload_n 0, 1) := fo_42 (fw_get da_cX2_keepJoined_0 19 rfl)
def dt_cX2_keepJoined_1 : List (Nat × Nat × Nat × Nat) := [(32, 180, 2, 12), (35, 180, 2, 96), (38, 29, 0, 0), (39, 46, 0, 0), (40, 79, 0, 0), (41, 42, 0, 0), (42, 180, 2, 37), (45, 28, 0, 0), (46, 29, 0, 0), (47, 96, 0, 0), (48, 42, 0, 0), (49, 180, 2, 12), (52, 180, 2, 97), (55, 29, 0, 0), (56, 46, 0, 0), (57, 79, 0, 0), (58, 132, 2, 769), (61, 167, 2, 65482), (64, 42, 0, 0), (65, 180, 2, 25)]
theorem da_cX2_keepJoined_1 : fw dt_cX2_keepJoined_1 0 cX2_keepJoined.data.toList = true := by decide +kernel
theorem dX2_keepJoined_32 : decode cX2_keepJoined 32 = .ok (.getfield 12, 3) := fo_180 (fw_get da_cX2_keepJoined_1 0 rfl)
theorem dX2_keepJoined_35 : decode cX2_keepJoined 35 = .ok (.getfield 96, 3) := fo_180 (fw_get da_cX2_keepJoined_1 1 rfl)
theorem dX2_keepJoined_38 : decode cX2_keepJoined 38 = .ok (.iload_n 3, 1) := fo_29 (fw_get da_cX2_keepJoined_1 2 rfl)
theorem dX2_keepJoined_39 : decode cX2_keepJoined 39 = .ok (.iaload, 1) := fo_46 (fw_get da_cX2_keepJoined_1 3 rfl)
theorem dX2_keepJoined_40 : decode cX2_keepJoined 40 = .ok (.iastore, 1) := fo_79 (fw_get da_cX2_keepJoined_1 4 rfl)
theorem dX2_keepJoined_41 : decode cX2_keepJoined 41 = .ok (.aload_n 0, 1) := fo_42 (fw_get da_cX2_keepJoined_1 5 rfl)
theorem dX2_keepJoined_42 : decode cX2_keepJoined 42 = .ok (.getfield 37, 3) := fo_180 (fw_get da_cX2_keepJoined_1 6 rfl)
theorem dX2_keepJoined_45 : decode cX2_keepJoined 45 = .ok (.iload_n 2, 1) := fo_28 (fw_get da_cX2_keepJoined_1 7 rfl)
theorem dX2_keepJoined_46 : decode cX2_keepJoined 46 = .ok (.iload_n 3, 1) := fo_29 (fw_get da_cX2_keepJoined_1 8 rfl)
theorem dX2_keepJoined_47 : decode cX2_keepJoined 47 = .ok (.iadd, 1) := fo_96 (fw_get da_cX2_keepJoined_1 9 rfl)
theorem dX2_keepJoined_48 : decode cX2_keepJoined 48 = .ok (.aload_n 0, 1) := fo_42 (fw_get da_cX2_keepJoined_1 10 rfl)
theorem dX2_keepJoined_49 : decode cX2_keepJoined 49 = .ok (.getfield 12, 3) := fo_180 (fw_get da_cX2_keepJoined_1 11 rfl)
theorem dX2_keepJoined_52 : decode cX2_keepJoined 52 = .ok (.getfield 97, 3) := fo_180 (fw_get da_cX2_keepJoined_1 12 rfl)
theorem dX2_keepJoined_55 : decode cX2_keepJoined 55 = .ok (.iload_n 3, 1) := fo_29 (fw_get da_cX2_keepJoined_1 13 rfl)
theorem dX2_keepJoined_56 : decode cX2_keepJoined 56 = .ok (.iaload, 1) := fo_46 (fw_get da_cX2_keepJoined_1 14 rfl)
theorem dX2_keepJoined_57 : decode cX2_keepJoined 57 = .ok (.iastore, 1) := fo_79 (fw_get da_cX2_keepJoined_1 15 rfl)
theorem dX2_keepJoined_58 : decode cX2_keepJoined 58 = .ok (.iinc 3 1, 3) := fo_132 (fw_get da_cX2_keepJoined_1 16 rfl) rfl (by decide +kernel)
theorem dX2_keepJoined_61 : decode cX2_keepJoined 61 = .ok (.goto (-54), 3) := fo_167 (fw_get da_cX2_keepJoined_1 17 rfl) (by decide +kernel)
theorem dX2_keepJoined_64 : decode cX2_keepJoined 64 = .ok (.aload_n 0, 1) := fo_42 (fw_get da_cX2_keepJoined_1 18 rfl)
theorem dX2_keepJoined_65 : decode cX2_keepJoined 65 = .ok (.getfield 25, 3) := fo_180 (fw_get da_cX2_keepJoined_1 19 rfl)
def dt_cX2_keepJoined_2 : List (Nat × Nat × Nat × Nat) := [(68, 27, 0, 0), (69, 42, 0, 0), (70, 180, 2, 12), (73, 180, 2, 94), (76, 16, 1, 6), (78, 184, 2, 98), (81, 79, 0, 0), (82, 42, 0, 0), (83, 180, 2, 28), (86, 27, 0, 0), (87, 42, 0, 0), (88, 180, 2, 12), (91, 180, 2, 91), (94, 79, 0, 0), (95, 42, 0, 0), (96, 180, 2, 31), (99, 27, 0, 0), (100, 42, 0, 0), (101, 180, 2, 12), (104, 180, 2, 104)]
theorem da_cX2_keepJoined_2 : fw dt_cX2_keepJoined_2 0 cX2_keepJoined.data.toList = true := by decide +kernel
theorem dX2_keepJoined_68 : decode cX2_keepJoined 68 = .ok (.iload_n 1, 1) := fo_27 (fw_get da_cX2_keepJoined_2 0 rfl)
theorem dX2_keepJoined_69 : decode cX2_keepJoined 69 = .ok (.aload_n 0, 1) := fo_42 (fw_get da_cX2_keepJoined_2 1 rfl)
theorem dX2_keepJoined_70 : decode cX2_keepJoined 70 = .ok (.getfield 12, 3) := fo_180 (fw_get da_cX2_keepJoined_2 2 rfl)
theorem dX2_keepJoined_73 : decode cX2_keepJoined 73 = .ok (.getfield 94, 3) := fo_180 (fw_get da_cX2_keepJoined_2 3 rfl)
theorem dX2_keepJoined_76 : decode cX2_keepJoined 76 = .ok (.bipush 6, 2) := fo_16 (fw_get da_cX2_keepJoined_2 4 rfl) (by decide +kernel)
theorem dX2_keepJoined_78 : decode cX2_keepJoined 78 = .ok (.invokestatic 98, 3) := fo_184 (fw_get da_cX2_keepJoined_2 5 rfl)
theorem dX2_keepJoined_81 : decode cX2_keepJoined 81 = .ok (.iastore, 1) := fo_79 (fw_get da_cX2_keepJoined_2 6 rfl)
theorem dX2_keepJoined_82 : decode cX2_keepJoined 82 = .ok (.aload_n 0, 1) := fo_42 (fw_get da_cX2_keepJoined_2 7 rfl)
theorem dX2_keepJoined_83 : decode cX2_keepJoined 83 = .ok (.getfield 28, 3) := fo_180 (fw_get da_cX2_keepJoined_2 8 rfl)
theorem dX2_keepJoined_86 : decode cX2_keepJoined 86 = .ok (.iload_n 1, 1) := fo_27 (fw_get da_cX2_keepJoined_2 9 rfl)
theorem dX2_keepJoined_87 : decode cX2_keepJoined 87 = .ok (.aload_n 0, 1) := fo_42 (fw_get da_cX2_keepJoined_2 10 rfl)
theorem dX2_keepJoined_88 : decode cX2_keepJoined 88 = .ok (.getfield 12, 3) := fo_180 (fw_get da_cX2_keepJoined_2 11 rfl)
theorem dX2_keepJoined_91 : decode cX2_keepJoined 91 = .ok (.getfield 91, 3) := fo_180 (fw_get da_cX2_keepJoined_2 12 rfl)
theorem dX2_keepJoined_94 : decode cX2_keepJoined 94 = .ok (.iastore, 1) := fo_79 (fw_get da_cX2_keepJoined_2 13 rfl)
theorem dX2_keepJoined_95 : decode cX2_keepJoined 95 = .ok (.aload_n 0, 1) := fo_42 (fw_get da_cX2_keepJoined_2 14 rfl)
theorem dX2_keepJoined_96 : decode cX2_keepJoined 96 = .ok (.getfield 31, 3) := fo_180 (fw_get da_cX2_keepJoined_2 15 rfl)
theorem dX2_keepJoined_99 : decode cX2_keepJoined 99 = .ok (.iload_n 1, 1) := fo_27 (fw_get da_cX2_keepJoined_2 16 rfl)
theorem dX2_keepJoined_100 : decode cX2_keepJoined 100 = .ok (.aload_n 0, 1) := fo_42 (fw_get da_cX2_keepJoined_2 17 rfl)
theorem dX2_keepJoined_101 : decode cX2_keepJoined 101 = .ok (.getfield 12, 3) := fo_180 (fw_get da_cX2_keepJoined_2 18 rfl)
theorem dX2_keepJoined_104 : decode cX2_keepJoined 104 = .ok (.getfield 104, 3) := fo_180 (fw_get da_cX2_keepJoined_2 19 rfl)
def dt_cX2_keepJoined_3 : List (Nat × Nat × Nat × Nat) := [(107, 79, 0, 0), (108, 177, 0, 0)]
theorem da_cX2_keepJoined_3 : fw dt_cX2_keepJoined_3 0 cX2_keepJoined.data.toList = true := by decide +kernel
theorem dX2_keepJoined_107 : decode cX2_keepJoined 107 = .ok (.iastore, 1) := fo_79 (fw_get da_cX2_keepJoined_3 0 rfl)
theorem dX2_keepJoined_108 : decode cX2_keepJoined 108 = .ok (.return_, 1) := fo_177 (fw_get da_cX2_keepJoined_3 1 rfl)
set_option maxRecDepth 20000 in
theorem ggX2_copyTo_X3_clear : GoodIn wsX2_copyTo wsX3_clear := goodIn_r _ [5, 6, 7, 8, 25, 26, 27, 28, 29] rfl (by decide +kernel)
set_option maxRecDepth 20000 in
theorem gX2_copyTo_X3_clear : GoodIn wsX2_copyTo (wsV RX2 71 RX3 yX3_clear wsX3_clear) := goodIn_app (goodIn_r _ [1, 2, 3, 4] rfl (by decide +kernel)) ggX2_copyTo_X3_clear
set_option maxRecDepth 20000 in
theorem ggX2_copyTo_X2_joinNode : GoodIn wsX2_copyTo wsX2_joinNode := goodIn_r _ [13, 14, 15, 16, 17, 18, 19, 20, 21, 4, 22, 6, 23, 24, 30, 31, 32, 33, 34, 35, 36, 37, 38, 39, 40, 25, 26, 27, 28, 29] rfl (by decide +kernel)
set_option maxRecDepth 20000 in
theorem gX2_copyTo_X2_joinNode : GoodIn wsX2_copyTo (wsV RX2 81 RX2 yX2_joinNode wsX2_joinNode) := goodIn_app (goodIn_r _ [9, 10, 11, 12] rfl (by decide +kernel)) ggX2_copyTo_X2_joinNode
def dt_cX2_copyTo_0 : List (Nat × Nat × Nat × Nat) := [(0, 43, 0, 0), (1, 182, 2, 71), (4, 42, 0, 0), (5, 43, 0, 0), (6, 28, 0, 0), (7, 182, 2, 81), (10, 177, 0, 0)]
theorem da_cX2_copyTo_0 : fw dt_cX2_copyTo_0 0 cX2_copyTo.data.toList = true := by decide +kernel
theorem dX2_copyTo_0 : decode cX2_copyTo 0 = .ok (.aload_n 1, 1) := fo_43 (fw_get da_cX2_copyTo_0 0 rfl)
theorem dX2_copyTo_1 : decode cX2_copyTo 1 = .ok (.invokevirtual 71, 3) := fo_182 (fw_get da_cX2_copyTo_0 1 rfl)
theorem dX2_copyTo_4 : decode cX2_copyTo 4 = .ok (.aload_n 0, 1) := fo_42 (fw_get da_cX2_copyTo_0 2 rfl)
theorem dX2_copyTo_5 : decode cX2_copyTo 5 = .ok (.aload_n 1, 1) := fo_43 (fw_get da_cX2_copyTo_0 3 rfl)
theorem dX2_copyTo_6 : decode cX2_copyTo 6 = .ok (.iload_n 2, 1) := fo_28 (fw_get da_cX2_copyTo_0 4 rfl)
theorem dX2_copyTo_7 : decode cX2_copyTo 7 = .ok (.invokevirtual 81, 3) := fo_182 (fw_get da_cX2_copyTo_0 5 rfl)
theorem dX2_copyTo_10 : decode cX2_copyTo 10 = .ok (.return_, 1) := fo_177 (fw_get da_cX2_copyTo_0 6 rfl)
def dt_cX2_find_0 : List (Nat × Nat × Nat × Nat) := [(0, 3, 0, 0), (1, 62, 0, 0), (2, 29, 0, 0), (3, 42, 0, 0), (4, 180, 2, 50), (7, 162, 2, 31), (10, 42, 0, 0), (11, 180, 2, 18), (14, 29, 0, 0), (15, 46, 0, 0), (16, 27, 0, 0), (17, 160, 2, 15), (20, 42, 0, 0), (21, 180, 2, 22), (24, 29, 0, 0), (25, 46, 0, 0), (26, 28, 0, 0), (27, 160, 2, 5), (30, 29, 0, 0), (31, 172, 0, 0)]
theorem da_cX2_find_0 : fw dt_cX2_find_0 0 cX2_find.data.toList = true := by decide +kernel
theorem dX2_find_0 : decode cX2_find 0 = .ok (.iconst 0, 1) := fo_3 (fw_get da_cX2_find_0 0 rfl)
theorem dX2_find_1 : decode cX2_find 1 = .ok (.istore_n 3, 1) := fo_62 (fw_get da_cX2_find_0 1 rfl)
theorem dX2_find_2 : decode cX2_find 2 = .ok (.iload_n 3, 1) := fo_29 (fw_get da_cX2_find_0 2 rfl)
theorem dX2_find_3 : decode cX2_find 3 = .ok (.aload_n 0, 1) := fo_42 (fw_get da_cX2_find_0 3 rfl)
theorem dX2_find_4 : decode cX2_find 4 = .ok (.getfield 50, 3) := fo_180 (fw_get da_cX2_find_0 4 rfl)
theorem dX2_find_7 : decode cX2_find 7 = .ok (.if_icmp .ge 31, 3) := fo_162 (fw_get da_cX2_find_0 5 rfl) (by decide +kernel)
theorem dX2_find_10 : decode cX2_find 10 = .ok (.aload_n 0, 1) := fo_42 (fw_get da_cX2_find_0 6 rfl)
theorem dX2_find_11 : decode cX2_find 11 = .ok (.getfield 18, 3) := fo_180 (fw_get da_cX2_find_0 7 rfl)
theorem dX2_find_14 : decode cX2_find 14 = .ok (.iload_n 3, 1) := fo_29 (fw_get da_cX2_find_0 8 rfl)
theorem dX2_find_15 : decode cX2_find 15 = .ok (.iaload, 1) := fo_46 (fw_get da_cX2_find_0 9 rfl)
theorem dX2_find_16 : decode cX2_find 16 = .ok (.iload_n 1, 1) := fo_27 (fw_get da_cX2_find_0 10 rfl)
theorem dX2_find_17 : decode cX2_find 17 = .ok (.if_icmp .ne 15, 3) := fo_160 (fw_get da_cX2_find_0 11 rfl) (by decide +kernel)
theorem dX2_find_20 : decode cX2_find 20 = .ok (.aload_n 0, 1) := fo_42 (fw_get da_cX2_find_0 12 rfl)
theorem dX2_find_21 : decode cX2_find 21 = .ok (.getfield 22, 3) := fo_180 (fw_get da_cX2_find_0 13 rfl)
theorem dX2_find_24 : decode cX2_find 24 = .ok (.iload_n 3, 1) := fo_29 (fw_get da_cX2_find_0 14 rfl)
theorem dX2_find_25 : decode cX2_find 25 = .ok (.iaload, 1) := fo_46 (fw_get da_cX2_find_0 15 rfl)
theorem dX2_find_26 : decode cX2_find 26 = .ok (.iload_n 2, 1) := fo_28 (fw_get da_cX2_find_0 16 rfl)
theorem dX2_find_27 : decode cX2_find 27 = .ok (.if_icmp .ne 5, 3) := fo_160 (fw_get da_cX2_find_0 17 rfl) (by decide +kernel)
theorem dX2_find_30 : decode cX2_find 30 = .ok (.iload_n 3, 1) := fo_29 (fw_get da_cX2_find_0 18 rfl)
theorem dX2_find_31 : decode cX2_find 31 = .ok (.ireturn, 1) := fo_172 (fw_get da_cX2_find_0 19 rfl)
def dt_cX2_find_1 : List (Nat × Nat × Nat × Nat) := [(32, 132, 2, 769), (35, 167, 2, 65503), (38, 2, 0, 0), (39, 172, 0, 0)]
theorem da_cX2_find_1 : fw dt_cX2_find_1 0 cX2_find.data.toList = true := by decide +kernel
theorem dX2_find_32 : decode cX2_find 32 = .ok (.iinc 3 1, 3) := fo_132 (fw_get da_cX2_find_1 0 rfl) rfl (by decide +kernel)
theorem dX2_find_35 : decode cX2_find 35 = .ok (.goto (-33), 3) := fo_167 (fw_get da_cX2_find_1 1 rfl) (by decide +kernel)
theorem dX2_find_38 : decode cX2_find 38 = .ok (.iconst (-1), 1) := fo_2 (fw_get da_cX2_find_1 2 rfl)
theorem dX2_find_39 : decode cX2_find 39 = .ok (.ireturn, 1) := fo_172 (fw_get da_cX2_find_1 3 rfl)
def dt_cX2_isPart_0 : List (Nat × Nat × Nat × Nat) := [(0, 42, 0, 0), (1, 180, 2, 18), (4, 27, 0, 0), (5, 46, 0, 0), (6, 28, 0, 0), (7, 160, 2, 17), (10, 42, 0, 0), (11, 180, 2, 22), (14, 27, 0, 0), (15, 46, 0, 0), (16, 29, 0, 0), (17, 163, 2, 7), (20, 4, 0, 0), (21, 167, 2, 4), (24, 3, 0, 0), (25, 172, 0, 0)]
theorem da_cX2_isPart_0 : fw dt_cX2_isPart_0 0 cX2_isPart.data.toList = true := by decide +kernel
theorem dX2_isPart_0 : decode cX2_isPart 0 = .ok (.aload_n 0, 1) := fo_42 (fw_get da_cX2_isPart_0 0 rfl)
theorem dX2_isPart_1 : decode cX2_isPart 1 = .ok (.getfield 18, 3) := fo_180 (fw_get da_cX2_isPart_0 1 rfl)
theorem dX2_isPart_4 : decode cX2_isPart 4 = .ok (.iload_n 1, 1) := fo_27 (fw_get da_cX2_isPart_0 2 rfl)
theorem dX2_isPart_5 : decode cX2_isPart 5 = .ok (.iaload, 1) := fo_46 (fw_get da_cX2_isPart_0 3 rfl)
theorem dX2_isPart_6 : decode cX2_isPart 6 = .ok (.iload_n 2, 1) := fo_28 (fw_get da_cX2_isPart_0 4 rfl)
theorem dX2_isPart_7 : decode cX2_isPart 7 = .ok (.if_icmp .ne 17, 3) := fo_160 (fw_get da_cX2_isPart_0 5 rfl) (by decide +kernel)
theorem dX2_isPart_10 : decode cX2_isPart 10 = .ok (.aload_n 0, 1) := fo_42 (fw_get da_cX2_isPart_0 6 rfl)
theorem dX2_isPart_11 : decode cX2_isPart 11 = .ok (.getfield 22, 3) := fo_180 (fw_get da_cX2_isPart_0 7 rfl)
theorem dX2_isPart_14 : decode cX2_isPart 14 = .ok (.iload_n 1, 1) := fo_27 (fw_get da_cX2_isPart_0 8 rfl)
theorem dX2_isPart_15 : decode cX2_isPart 15 = .ok (.iaload, 1) := fo_46 (fw_get da_cX2_isPart_0 9 rfl)
theorem dX2_isPart_16 : decode cX2_isPart 16 = .ok (.iload_n 3, 1) := fo_29 (fw_get da_cX2_isPart_0 10 rfl)
theorem dX2_isPart_17 : decode cX2_isPart 17 = .ok (.if_icmp .gt 7, 3) := fo_163 (fw_get da_cX2_isPart_0 11 rfl) (by decide +kernel)
theorem dX2_isPart_20 : decode cX2_isPart 20 = .ok (.iconst 1, 1) := fo_4 (fw_get da_cX2_isPart_0 12 rfl)
theorem dX2_isPart_21 : decode cX2_isPart 21 = .ok (.goto 4, 3) := fo_167 (fw_get da_cX2_isPart_0 13 rfl) (by decide +kernel)
theorem dX2_isPart_24 : decode cX2_isPart 24 = .ok (.iconst 0, 1) := fo_3 (fw_get da_cX2_isPart_0 14 rfl)
theorem dX2_isPart_25 : decode cX2_isPart 25 = .ok (.ireturn, 1) := fo_172 (fw_get da_cX2_isPart_0 15 rfl)
theorem mi_wsX2_gather_wsX2_gather_r1 : ∀ w ∈ wsX2_gather_r1, w ∈ wsX2_gather := fun _ h => (List.mem_cons_of_mem _ (List.mem_append_left _ (List.mem_append_left _ (List.mem_append_left _ h))))
theorem mi_wsX2_gather_wsX30 : ∀ w ∈ wsX30, w ∈ wsX2_gather := fun _ h => (List.mem_cons_of_mem _ (List.mem_append_right _ h))
set_option maxRecDepth 20000 in
theorem ggX2_gather_X3_clear : GoodIn wsX2_gather wsX3_clear := goodIn_m _ [(wsX2_gather_r1, [false, false, false, false, false, false, false, true, true, true, true]), (wsX30, [true, true, true, true, true])] (gm_c mi_wsX2_gather_wsX2_gather_r1 (gm_c mi_wsX2_gather_wsX30 gm_n)) rfl (by decide +kernel)
set_option maxRecDepth 20000 in
theorem gX2_gather_X3_clear : GoodIn wsX2_gather (wsV RX2 71 RX3 yX3_clear wsX3_clear) := goodIn_app (goodIn_m _ [(wsX2_gather_r1, [false, false, false, true, true, true, true])] (gm_c mi_wsX2_gather_wsX2_gather_r1 gm_n) rfl (by decide +kernel)) ggX2_gather_X3_clear
theorem mi_wsX2_gather_wsX20 : ∀ w ∈ wsX20, w ∈ wsX2_gather := fun _ h => (List.mem_cons_of_mem _ (List.mem_append_left _ (List.mem_append_right _ h)))
set_option maxRecDepth 20000 in
theorem ggX2_gather_X2_isPart : GoodIn wsX2_gather wsX2_isPart := goodIn_m _ [(wsX2_gather_r1, [false, false, false, false, false, false, false, false, false, false, false, false, false, false, false, true, true]), (wsX2_gather_r1, [false, true]), (wsX20, [true, true, true, true, true, true, true, true, true, true, true])] (gm_c mi_wsX2_gather_wsX2_gather_r1 (gm_c mi_wsX2_gather_wsX2_gather_r1 (gm_c mi_wsX2_gather_wsX20 gm_n))) rfl (by decide +kernel)
set_option maxRecDepth 20000 in
theorem gX2_gather_X2_isPart : GoodIn wsX2_gather (wsV RX2 106 RX2 yX2_isPart wsX2_isPart) := goodIn_app (goodIn_m _ [(wsX2_gather_r1, [false, false, false, false, false, false, false, false, false, false, false, true, true, true, true])] (gm_c mi_wsX2_gather_wsX2_gather_r1 gm_n) rfl (by decide +kernel)) ggX2_gather_X2_isPart
theorem mi_wsX2_gather_wsX2_gather_r2 : ∀ w ∈ wsX2_gather_r2, w ∈ wsX2_gather := fun _ h => (List.mem_cons_of_mem _ (List.mem_append_left _ (List.mem_append_left _ (List.mem_append_right _ h))))
set_option maxRecDepth 20000 in
theorem ggX2_gather_X2_joinNode : GoodIn wsX2_gather wsX2_joinNode := goodIn_m _ [(wsX2_gather_r1, [false, false, false, false, false, false, false, false, false, false, false, false, false, false, false, false, false, false, false, false, true, true, true, true]), (wsX2_gather_r2, [true, true, true, true, true]), (wsX2_gather_r1, [false, false, false, false, false, false, true]), (wsX2_gather_r2, [false, false, false, false, false, true]), (wsX2_gather_r1, [false, false, false, false, false, false, false, false, true]), (wsX2_gather_r2, [false, false, false, false, false, false, true, true]), (wsX20, [true, true, true, true, true, true, true, true, true, true, true]), (wsX30, [true, true, true, true, true])] (gm_c mi_wsX2_gather_wsX2_gather_r1 (gm_c mi_wsX2_gather_wsX2_gather_r2 (gm_c mi_wsX2_gather_wsX2_gather_r1 (gm_c mi_wsX2_gather_wsX2_gather_r2 (gm_c mi_wsX2_gather_wsX2_gather_r1 (gm_c mi_wsX2_gather_wsX2_gather_r2 (gm_c mi_wsX2_gather_wsX20 (gm_c mi_wsX2_gather_wsX30 gm_n)))))))) rfl (by decide +kernel)
set_option maxRecDepth 20000 in
theorem gX2_gather_X2_joinNode : GoodIn wsX2_gather (wsV RX2 81 RX2 yX2_joinNode wsX2_joinNode) := goodIn_app (goodIn_m _ [(wsX2_gather_r1, [false, false, false, false, false, false, false, false, false, false, false, false, false, false, false, false, false, true, true, true]), (wsX2_gather_r1, [false, false, false, false, false, false, false, false, false, false, false, false, false, false, true])] (gm_c mi_wsX2_gather_wsX2_gather_r1 (gm_c mi_wsX2_gather_wsX2_gather_r1 gm_n)) rfl (by decide +kernel)) ggX2_gather_X2_joinNode
set_option maxRecDepth 20000 in
theorem ggX2_gather_X3_cancel : GoodIn wsX2_gather wsX3_cancel := goodIn_m _ [(wsX2_gather_r2, [false, false, false, false, false, false, false, false, false, false, false, true]), (wsX2_gather_r1, [false, false, false, false, false, false, false, false, true]), (wsX2_gather_r2, [false, false, false, false, false, false, false, true]), (wsX2_gather_r1, [false, false, false, false, false, false, false, false, false, false, true]), (wsX2_gather_r1, [false, false, false, false, false, false, false, false, false, true]), (wsX2_gather_r2, [false, false, false, false, false, false, false, false, false, false, false, false, true, true, true]), (wsX2_gather_r1, [false, false, false, false, false, false, true]), (wsX2_gather_r2, [false, false, false, false, false, false, false, false, false, false, false, false, false, false, false, true, true, true, true, true]), (wsX2_gather_r2, [false, false, false, false, false, false, true, false, false, false, false, false, false, false, false, false, false, false, false, false, true, true, true, true]), (wsX30, [true, true, true, true, true])] (gm_c mi_wsX2_gather_wsX2_gather_r2 (gm_c mi_wsX2_gather_wsX2_gather_r1 (gm_c mi_wsX2_gather_wsX2_gather_r2 (gm_c mi_wsX2_gather_wsX2_gather_r1 (gm_c mi_wsX2_gather_wsX2_gather_r1 (gm_c mi_wsX2_gather_wsX2_gather_r2 (gm_c mi_wsX2_gather_wsX2_gather_r1 (gm_c mi_wsX2_gather_wsX2_gather_r2 (gm_c mi_wsX2_gather_wsX2_gather_r2 (gm_c mi_wsX2_gather_wsX30 gm_n)))))))))) rfl (by decide +kernel)
set_option maxRecDepth 20000 in
theorem gX2_gather_X3_cancel : GoodIn wsX2_gather (wsV RX2 88 RX3 yX3_cancel wsX3_cancel) := goodIn_app (goodIn_m _ [(wsX2_gather_r2, [false, false, false, false, false, false, false, false, true, true, true]), (wsX2_gather_r1, [false, false, false, false, false, false, true])] (gm_c mi_wsX2_gather_wsX2_gather_r2 (gm_c mi_wsX2_gather_wsX2_gather_r1 gm_n)) rfl (by decide +kernel)) ggX2_gather_X3_cancel
def dt_cX2_gather_0 : List (Nat × Nat × Nat × Nat) := [(0, 43, 0, 0), (1, 182, 2, 71), (4, 28, 0, 0), (5, 54, 1, 4), (7, 3, 0, 0), (8, 54, 1, 5), (10, 21, 1, 5), (12, 42, 0, 0), (13, 180, 2, 50), (16, 162, 2, 45), (19, 42, 0, 0), (20, 21, 1, 5), (22, 21, 1, 4), (24, 29, 0, 0), (25, 182, 2, 106), (28, 153, 2, 27), (31, 42, 0, 0), (32, 180, 2, 22), (35, 21, 1, 5), (37, 46, 0, 0)]
theorem da_cX2_gather_0 : fw dt_cX2_gather_0 0 cX2_gather.data.toList = true := by decide +kernel
theorem dX2_gather_0 : decode cX2_gather 0 = .ok (.aload_n 1, 1) := fo_43 (fw_get da_cX2_gather_0 0 rfl)
theorem dX2_gather_1 : decode cX2_gather 1 = .ok (.invokevirtual 71, 3) := fo_182 (fw_get da_cX2_gather_0 1 rfl)
theorem dX2_gather_4 : decode cX2_gather 4 = .ok (.iload_n 2, 1) := fo_28 (fw_get da_cX2_gather_0 2 rfl)
theorem dX2_gather_5 : decode cX2_gather 5 = .ok (.istore 4, 2) := fo_54 (fw_get da_cX2_gather_0 3 rfl)
theorem dX2_gather_7 : decode cX2_gather 7 = .ok (.iconst 0, 1) := fo_3 (fw_get da_cX2_gather_0 4 rfl)
theorem dX2_gather_8 : decode cX2_gather 8 = .ok (.istore 5, 2) := fo_54 (fw_get da_cX2_gather_0 5 rfl)
theorem dX2_gather_10 : decode cX2_gather 10 = .ok (.iload 5, 2) := fo_21 (fw_get da_cX2_gather_0 6 rfl)
theorem dX2_gather_12 : decode cX2_gather 12 = .ok (.aload_n 0, 1) := fo_42 (fw_get da_cX2_gather_0 7 rfl)
theorem dX2_gather_13 : decode cX2_gather 13 = .ok (.getfield 50, 3) := fo_180 (fw_get da_cX2_gather_0 8 rfl)
theorem dX2_gather_16 : decode cX2_gather 16 = .ok (.if_icmp .ge 45, 3) := fo_162 (fw_get da_cX2_gather_0 9 rfl) (by decide +kernel)
theorem dX2_gather_19 : decode cX2_gather 19 = .ok (.aload_n 0, 1) := fo_42 (fw_get da_cX2_gather_0 10 rfl)
theorem dX2_gather_20 : decode cX2_gather 20 = .ok (.iload 5, 2) := fo_21 (fw_get da_cX2_gather_0 11 rfl)
theorem dX2_gather_22 : decode cX2_gather 22 = .ok (.iload 4, 2) := fo_21 (fw_get da_cX2_gather_0 12 rfl)
theorem dX2_gather_24 : decode cX2_gather 24 = .ok (.iload_n 3, 1) := fo_29 (fw_get da_cX2_gather_0 13 rfl)
theorem dX2_gather_25 : decode cX2_gather 25 = .ok (.invokevirtual 106, 3) := fo_182 (fw_get da_cX2_gather_0 14 rfl)
theorem dX2_gather_28 : decode cX2_gather 28 = .ok (.ifCond .eq 27, 3) := fo_153 (fw_get da_cX2_gather_0 15 rfl) (by decide +kernel)
theorem dX2_gather_31 : decode cX2_gather 31 = .ok (.aload_n 0, 1) := fo_42 (fw_get da_cX2_gather_0 16 rfl)
theorem dX2_gather_32 : decode cX2_gather 32 = .ok (.getfield 22, 3) := fo_180 (fw_get da_cX2_gather_0 17 rfl)
theorem dX2_gather_35 : decode cX2_gather 35 = .ok (.iload 5, 2) := fo_21 (fw_get da_cX2_gather_0 18 rfl)
theorem dX2_gather_37 : decode cX2_gather 37 = .ok (.iaload, 1) := fo_46 (fw_get da_cX2_gather_0 19 rfl)
def dt_cX2_gather_1 : List (Nat × Nat × Nat × Nat) := [(38, 54, 1, 4), (40, 42, 0, 0), (41, 43, 0, 0), (42, 21, 1, 5), (44, 182, 2, 81), (47, 43, 0, 0), (48, 42, 0, 0), (49, 180, 2, 85), (52, 182, 2, 88), (55, 132, 2, 1281), (58, 167, 2, 65488), (61, 177, 0, 0)]
theorem da_cX2_gather_1 : fw dt_cX2_gather_1 0 cX2_gather.data.toList = true := by decide +kernel
theorem dX2_gather_38 : decode cX2_gather 38 = .ok (.istore 4, 2) := fo_54 (fw_get da_cX2_gather_1 0 rfl)
theorem dX2_gather_40 : decode cX2_gather 40 = .ok (.aload_n 0, 1) := fo_42 (fw_get da_cX2_gather_1 1 rfl)
theorem dX2_gather_41 : decode cX2_gather 41 = .ok (.aload_n 1, 1) := fo_43 (fw_get da_cX2_gather_1 2 rfl)
theorem dX2_gather_42 : decode cX2_gather 42 = .ok (.iload 5, 2) := fo_21 (fw_get da_cX2_gather_1 3 rfl)
theorem dX2_gather_44 : decode cX2_gather 44 = .ok (.invokevirtual 81, 3) := fo_182 (fw_get da_cX2_gather_1 4 rfl)
theorem dX2_gather_47 : decode cX2_gather 47 = .ok (.aload_n 1, 1) := fo_43 (fw_get da_cX2_gather_1 5 rfl)
theorem dX2_gather_48 : decode cX2_gather 48 = .ok (.aload_n 0, 1) := fo_42 (fw_get da_cX2_gather_1 6 rfl)
theorem dX2_gather_49 : decode cX2_gather 49 = .ok (.getfield 85, 3) := fo_180 (fw_get da_cX2_gather_1 7 rfl)
theorem dX2_gather_52 : decode cX2_gather 52 = .ok (.invokevirtual 88, 3) := fo_182 (fw_get da_cX2_gather_1 8 rfl)
theorem dX2_gather_55 : decode cX2_gather 55 = .ok (.iinc 5 1, 3) := fo_132 (fw_get da_cX2_gather_1 9 rfl) rfl (by decide +kernel)
theorem dX2_gather_58 : decode cX2_gather 58 = .ok (.goto (-48), 3) := fo_167 (fw_get da_cX2_gather_1 10 rfl) (by decide +kernel)
theorem dX2_gather_61 : decode cX2_gather 61 = .ok (.return_, 1) := fo_177 (fw_get da_cX2_gather_1 11 rfl)
def dt_cX2_hasPlace_0 : List (Nat × Nat × Nat × Nat) := [(0, 42, 0, 0), (1, 180, 2, 18), (4, 27, 0, 0), (5, 46, 0, 0), (6, 28, 0, 0), (7, 163, 2, 17), (10, 28, 0, 0), (11, 42, 0, 0), (12, 180, 2, 22), (15, 27, 0, 0), (16, 46, 0, 0), (17, 162, 2, 7), (20, 4, 0, 0), (21, 167, 2, 4), (24, 3, 0, 0), (25, 172, 0, 0)]
theorem da_cX2_hasPlace_0 : fw dt_cX2_hasPlace_0 0 cX2_hasPlace.data.toList = true := by decide +kernel
theorem dX2_hasPlace_0 : decode cX2_hasPlace 0 = .ok (.aload_n 0, 1) := fo_42 (fw_get da_cX2_hasPlace_0 0 rfl)
theorem dX2_hasPlace_1 : decode cX2_hasPlace 1 = .ok (.getfield 18, 3) := fo_180 (fw_get da_cX2_hasPlace_0 1 rfl)
theorem dX2_hasPlace_4 : decode cX2_hasPlace 4 = .ok (.iload_n 1, 1) := fo_27 (fw_get da_cX2_hasPlace_0 2 rfl)
theorem dX2_hasPlace_5 : decode cX2_hasPlace 5 = .ok (.iaload, 1) := fo_46 (fw_get da_cX2_hasPlace_0 3 rfl)
theorem dX2_hasPlace_6 : decode cX2_hasPlace 6 = .ok (.iload_n 2, 1) := fo_28 (fw_get da_cX2_hasPlace_0 4 rfl)
theorem dX2_hasPlace_7 : decode cX2_hasPlace 7 = .ok (.if_icmp .gt 17, 3) := fo_163 (fw_get da_cX2_hasPlace_0 5 rfl) (by decide +kernel)
theorem dX2_hasPlace_10 : decode cX2_hasPlace 10 = .ok (.iload_n 2, 1) := fo_28 (fw_get da_cX2_hasPlace_0 6 rfl)
theorem dX2_hasPlace_11 : decode cX2_hasPlace 11 = .ok (.aload_n 0, 1) := fo_42 (fw_get da_cX2_hasPlace_0 7 rfl)
theorem dX2_hasPlace_12 : decode cX2_hasPlace 12 = .ok (.getfield 22, 3) := fo_180 (fw_get da_cX2_hasPlace_0 8 rfl)
theorem dX2_hasPlace_15 : decode cX2_hasPlace 15 = .ok (.iload_n 1, 1) := fo_27 (fw_get da_cX2_hasPlace_0 9 rfl)
theorem dX2_hasPlace_16 : decode cX2_hasPlace 16 = .ok (.iaload, 1) := fo_46 (fw_get da_cX2_hasPlace_0 10 rfl)
theorem dX2_hasPlace_17 : decode cX2_hasPlace 17 = .ok (.if_icmp .ge 7, 3) := fo_162 (fw_get da_cX2_hasPlace_0 11 rfl) (by decide +kernel)
theorem dX2_hasPlace_20 : decode cX2_hasPlace 20 = .ok (.iconst 1, 1) := fo_4 (fw_get da_cX2_hasPlace_0 12 rfl)
theorem dX2_hasPlace_21 : decode cX2_hasPlace 21 = .ok (.goto 4, 3) := fo_167 (fw_get da_cX2_hasPlace_0 13 rfl) (by decide +kernel)
theorem dX2_hasPlace_24 : decode cX2_hasPlace 24 = .ok (.iconst 0, 1) := fo_3 (fw_get da_cX2_hasPlace_0 14 rfl)
theorem dX2_hasPlace_25 : decode cX2_hasPlace 25 = .ok (.ireturn, 1) := fo_172 (fw_get da_cX2_hasPlace_0 15 rfl)
set_option maxRecDepth 20000 in
theorem ggX2_depthAt_X2_hasPlace : GoodIn wsX2_depthAt wsX2_hasPlace := goodIn_r _ [6, 7, 8, 9, 10, 11, 12, 13, 14, 15, 16, 17, 18, 19] rfl (by decide +kernel)
set_option maxRecDepth 20000 in
theorem gX2_depthAt_X2_hasPlace : GoodIn wsX2_depthAt (wsV RX2 110 RX2 yX2_hasPlace wsX2_hasPlace) := goodIn_app (goodIn_r _ [2, 3, 4, 5] rfl (by decide +kernel)) ggX2_depthAt_X2_hasPlace
def dt_cX2_depthAt_0 : List (Nat × Nat × Nat × Nat) := [(0, 3, 0, 0), (1, 61, 0, 0), (2, 3, 0, 0), (3, 62, 0, 0), (4, 29, 0, 0), (5, 42, 0, 0), (6, 180, 2, 50), (9, 162, 2, 21), (12, 42, 0, 0), (13, 29, 0, 0), (14, 27, 0, 0), (15, 182, 2, 110), (18, 153, 2, 6), (21, 132, 2, 513), (24, 132, 2, 769), (27, 167, 2, 65513), (30, 28, 0, 0), (31, 172, 0, 0)]
theorem da_cX2_depthAt_0 : fw dt_cX2_depthAt_0 0 cX2_depthAt.data.toList = true := by decide +kernel
theorem dX2_depthAt_0 : decode cX2_depthAt 0 = .ok (.iconst 0, 1) := fo_3 (fw_get da_cX2_depthAt_0 0 rfl)
theorem dX2_depthAt_1 : decode cX2_depthAt 1 = .ok (.istore_n 2, 1) := fo_61 (fw_get da_cX2_depthAt_0 1 rfl)
theorem dX2_depthAt_2 : decode cX2_depthAt 2 = .ok (.iconst 0, 1) := fo_3 (fw_get da_cX2_depthAt_0 2 rfl)
theorem dX2_depthAt_3 : decode cX2_depthAt 3 = .ok (.istore_n 3, 1) := fo_62 (fw_get da_cX2_depthAt_0 3 rfl)
theorem dX2_depthAt_4 : decode cX2_depthAt 4 = .ok (.iload_n 3, 1) := fo_29 (fw_get da_cX2_depthAt_0 4 rfl)
theorem dX2_depthAt_5 : decode cX2_depthAt 5 = .ok (.aload_n 0, 1) := fo_42 (fw_get da_cX2_depthAt_0 5 rfl)
theorem dX2_depthAt_6 : decode cX2_depthAt 6 = .ok (.getfield 50, 3) := fo_180 (fw_get da_cX2_depthAt_0 6 rfl)
theorem dX2_depthAt_9 : decode cX2_depthAt 9 = .ok (.if_icmp .ge 21, 3) := fo_162 (fw_get da_cX2_depthAt_0 7 rfl) (by decide +kernel)
theorem dX2_depthAt_12 : decode cX2_depthAt 12 = .ok (.aload_n 0, 1) := fo_42 (fw_get da_cX2_depthAt_0 8 rfl)
theorem dX2_depthAt_13 : decode cX2_depthAt 13 = .ok (.iload_n 3, 1) := fo_29 (fw_get da_cX2_depthAt_0 9 rfl)
theorem dX2_depthAt_14 : decode cX2_depthAt 14 = .ok (.iload_n 1, 1) := fo_27 (fw_get da_cX2_depthAt_0 10 rfl)
theorem dX2_depthAt_15 : decode cX2_depthAt 15 = .ok (.invokevirtual 110, 3) := fo_182 (fw_get da_cX2_depthAt_0 11 rfl)
theorem dX2_depthAt_18 : decode cX2_depthAt 18 = .ok (.ifCond .eq 6, 3) := fo_153 (fw_get da_cX2_depthAt_0 12 rfl) (by decide +kernel)
theorem dX2_depthAt_21 : decode cX2_depthAt 21 = .ok (.iinc 2 1, 3) := fo_132 (fw_get da_cX2_depthAt_0 13 rfl) rfl (by decide +kernel)
theorem dX2_depthAt_24 : decode cX2_depthAt 24 = .ok (.iinc 3 1, 3) := fo_132 (fw_get da_cX2_depthAt_0 14 rfl) rfl (by decide +kernel)
theorem dX2_depthAt_27 : decode cX2_depthAt 27 = .ok (.goto (-23), 3) := fo_167 (fw_get da_cX2_depthAt_0 15 rfl) (by decide +kernel)
theorem dX2_depthAt_30 : decode cX2_depthAt 30 = .ok (.iload_n 2, 1) := fo_28 (fw_get da_cX2_depthAt_0 16 rfl)
theorem dX2_depthAt_31 : decode cX2_depthAt 31 = .ok (.ireturn, 1) := fo_172 (fw_get da_cX2_depthAt_0 17 rfl)
set_option maxRecDepth 20000 in
theorem ggX2_onPath_X2_hasPlace : GoodIn wsX2_onPath wsX2_hasPlace := goodIn_r _ [6, 7, 8, 9, 10, 11, 12, 13, 14, 15, 16, 17, 18, 19] rfl (by decide +kernel)
set_option maxRecDepth 20000 in
theorem gX2_onPath_X2_hasPlace : GoodIn wsX2_onPath (wsV RX2 110 RX2 yX2_hasPlace wsX2_hasPlace) := goodIn_app (goodIn_r _ [2, 3, 4, 5] rfl (by decide +kernel)) ggX2_onPath_X2_hasPlace
def dt_cX2_onPath_0 : List (Nat × Nat × Nat × Nat) := [(0, 3, 0, 0), (1, 62, 0, 0), (2, 3, 0, 0), (3, 54, 1, 4), (5, 21, 1, 4), (7, 42, 0, 0), (8, 180, 2, 50), (11, 162, 2, 30), (14, 42, 0, 0), (15, 21, 1, 4), (17, 27, 0, 0), (18, 182, 2, 110), (21, 153, 2, 14), (24, 29, 0, 0), (25, 28, 0, 0), (26, 160, 2, 6), (29, 21, 1, 4), (31, 172, 0, 0), (32, 132, 2, 769), (35, 132, 2, 1025)]
theorem da_cX2_onPath_0 : fw dt_cX2_onPath_0 0 cX2_onPath.data.toList = true := by decide +kernel
theorem dX2_onPath_0 : decode cX2_onPath 0 = .ok (.iconst 0, 1) := fo_3 (fw_get da_cX2_onPath_0 0 rfl)
theorem dX2_onPath_1 : decode cX2_onPath 1 = .ok (.istore_n 3, 1) := fo_62 (fw_get da_cX2_onPath_0 1 rfl)
theorem dX2_onPath_2 : decode cX2_onPath 2 = .ok (.iconst 0, 1) := fo_3 (fw_get da_cX2_onPath_0 2 rfl)
theorem dX2_onPath_3 : decode cX2_onPath 3 = .ok (.istore 4, 2) := fo_54 (fw_get da_cX2_onPath_0 3 rfl)
theorem dX2_onPath_5 : decode cX2_onPath 5 = .ok (.iload 4, 2) := fo_21 (fw_get da_cX2_onPath_0 4 rfl)
theorem dX2_onPath_7 : decode cX2_onPath 7 = .ok (.aload_n 0, 1) := fo_42 (fw_get da_cX2_onPath_0 5 rfl)
theorem dX2_onPath_8 : decode cX2_onPath 8 = .ok (.getfield 50, 3) := fo_180 (fw_get da_cX2_onPath_0 6 rfl)
theorem dX2_onPath_11 : decode cX2_onPath 11 = .ok (.if_icmp .ge 30, 3) := fo_162 (fw_get da_cX2_onPath_0 7 rfl) (by decide +kernel)
theorem dX2_onPath_14 : decode cX2_onPath 14 = .ok (.aload_n 0, 1) := fo_42 (fw_get da_cX2_onPath_0 8 rfl)
theorem dX2_onPath_15 : decode cX2_onPath 15 = .ok (.iload 4, 2) := fo_21 (fw_get da_cX2_onPath_0 9 rfl)
theorem dX2_onPath_17 : decode cX2_onPath 17 = .ok (.iload_n 1, 1) := fo_27 (fw_get da_cX2_onPath_0 10 rfl)
theorem dX2_onPath_18 : decode cX2_onPath 18 = .ok (.invokevirtual 110, 3) := fo_182 (fw_get da_cX2_onPath_0 11 rfl)
theorem dX2_onPath_21 : decode cX2_onPath 21 = .ok (.ifCond .eq 14, 3) := fo_153 (fw_get da_cX2_onPath_0 12 rfl) (by decide +kernel)
theorem dX2_onPath_24 : decode cX2_onPath 24 = .ok (.iload_n 3, 1) := fo_29 (fw_get da_cX2_onPath_0 13 rfl)
theorem dX2_onPath_25 : decode cX2_onPath 25 = .ok (.iload_n 2, 1) := fo_28 (fw_get da_cX2_onPath_0 14 rfl)
theorem dX2_onPath_26 : decode cX2_onPath 26 = .ok (.if_icmp .ne 6, 3) := fo_160 (fw_get da_cX2_onPath_0 15 rfl) (by decide +kernel)
theorem dX2_onPath_29 : decode cX2_onPath 29 = .ok (.iload 4, 2) := fo_21 (fw_get da_cX2_onPath_0 16 rfl)
theorem dX2_onPath_31 : decode cX2_onPath 31 = .ok (.ireturn, 1) := fo_172 (fw_get da_cX2_onPath_0 17 rfl)
theorem dX2_onPath_32 : decode cX2_onPath 32 = .ok (.iinc 3 1, 3) := fo_132 (fw_get da_cX2_onPath_0 18 rfl) rfl (by decide +kernel)
theorem dX2_onPath_35 : decode cX2_onPath 35 = .ok (.iinc 4 1, 3) := fo_132 (fw_get da_cX2_onPath_0 19 rfl) rfl (by decide +kernel)
def dt_cX2_onPath_1 : List (Nat × Nat × Nat × Nat) := [(38, 167, 2, 65503), (41, 2, 0, 0), (42, 172, 0, 0)]
theorem da_cX2_onPath_1 : fw dt_cX2_onPath_1 0 cX2_onPath.data.toList = true := by decide +kernel
theorem dX2_onPath_38 : decode cX2_onPath 38 = .ok (.goto (-33), 3) := fo_167 (fw_get da_cX2_onPath_1 0 rfl) (by decide +kernel)
theorem dX2_onPath_41 : decode cX2_onPath 41 = .ok (.iconst (-1), 1) := fo_2 (fw_get da_cX2_onPath_1 1 rfl)
theorem dX2_onPath_42 : decode cX2_onPath 42 = .ok (.ireturn, 1) := fo_172 (fw_get da_cX2_onPath_1 2 rfl)
def dt_cX2_numberIn_0 : List (Nat × Nat × Nat × Nat) := [(0, 27, 0, 0), (1, 16, 1, 6), (3, 104, 0, 0), (4, 62, 0, 0), (5, 3, 0, 0), (6, 54, 1, 4), (8, 21, 1, 4), (10, 42, 0, 0), (11, 180, 2, 25), (14, 27, 0, 0), (15, 46, 0, 0), (16, 162, 2, 32), (19, 42, 0, 0), (20, 180, 2, 34), (23, 29, 0, 0), (24, 21, 1, 4), (26, 96, 0, 0), (27, 46, 0, 0), (28, 28, 0, 0), (29, 160, 2, 13)]
theorem da_cX2_numberIn_0 : fw dt_cX2_numberIn_0 0 cX2_numberIn.data.toList = true := by decide +kernel
theorem dX2_numberIn_0 : decode cX2_numberIn 0 = .ok (.iload_n 1, 1) := fo_27 (fw_get da_cX2_numberIn_0 0 rfl)
theorem dX2_numberIn_1 : decode cX2_numberIn 1 = .ok (.bipush 6, 2) := fo_16 (fw_get da_cX2_numberIn_0 1 rfl) (by decide +kernel)
theorem dX2_numberIn_3 : decode cX2_numberIn 3 = .ok (.imul, 1) := fo_104 (fw_get da_cX2_numberIn_0 2 rfl)
theorem dX2_numberIn_4 : decode cX2_numberIn 4 = .ok (.istore_n 3, 1) := fo_62 (fw_get da_cX2_numberIn_0 3 rfl)
theorem dX2_numberIn_5 : decode cX2_numberIn 5 = .ok (.iconst 0, 1) := fo_3 (fw_get da_cX2_numberIn_0 4 rfl)
theorem dX2_numberIn_6 : decode cX2_numberIn 6 = .ok (.istore 4, 2) := fo_54 (fw_get da_cX2_numberIn_0 5 rfl)
theorem dX2_numberIn_8 : decode cX2_numberIn 8 = .ok (.iload 4, 2) := fo_21 (fw_get da_cX2_numberIn_0 6 rfl)
theorem dX2_numberIn_10 : decode cX2_numberIn 10 = .ok (.aload_n 0, 1) := fo_42 (fw_get da_cX2_numberIn_0 7 rfl)
theorem dX2_numberIn_11 : decode cX2_numberIn 11 = .ok (.getfield 25, 3) := fo_180 (fw_get da_cX2_numberIn_0 8 rfl)
theorem dX2_numberIn_14 : decode cX2_numberIn 14 = .ok (.iload_n 1, 1) := fo_27 (fw_get da_cX2_numberIn_0 9 rfl)
theorem dX2_numberIn_15 : decode cX2_numberIn 15 = .ok (.iaload, 1) := fo_46 (fw_get da_cX2_numberIn_0 10 rfl)
theorem dX2_numberIn_16 : decode cX2_numberIn 16 = .ok (.if_icmp .ge 32, 3) := fo_162 (fw_get da_cX2_numberIn_0 11 rfl) (by decide +kernel)
theorem dX2_numberIn_19 : decode cX2_numberIn 19 = .ok (.aload_n 0, 1) := fo_42 (fw_get da_cX2_numberIn_0 12 rfl)
theorem dX2_numberIn_20 : decode cX2_numberIn 20 = .ok (.getfield 34, 3) := fo_180 (fw_get da_cX2_numberIn_0 13 rfl)
theorem dX2_numberIn_23 : decode cX2_numberIn 23 = .ok (.iload_n 3, 1) := fo_29 (fw_get da_cX2_numberIn_0 14 rfl)
theorem dX2_numberIn_24 : decode cX2_numberIn 24 = .ok (.iload 4, 2) := fo_21 (fw_get da_cX2_numberIn_0 15 rfl)
theorem dX2_numberIn_26 : decode cX2_numberIn 26 = .ok (.iadd, 1) := fo_96 (fw_get da_cX2_numberIn_0 16 rfl)
theorem dX2_numberIn_27 : decode cX2_numberIn 27 = .ok (.iaload, 1) := fo_46 (fw_get da_cX2_numberIn_0 17 rfl)
theorem dX2_numberIn_28 : decode cX2_numberIn 28 = .ok (.iload_n 2, 1) := fo_28 (fw_get da_cX2_numberIn_0 18 rfl)
theorem dX2_numberIn_29 : decode cX2_numberIn 29 = .ok (.if_icmp .ne 13, 3) := fo_160 (fw_get da_cX2_numberIn_0 19 rfl) (by decide +kernel)
def dt_cX2_numberIn_1 : List (Nat × Nat × Nat × Nat) := [(32, 42, 0, 0), (33, 180, 2, 37), (36, 29, 0, 0), (37, 21, 1, 4), (39, 96, 0, 0), (40, 46, 0, 0), (41, 172, 0, 0), (42, 132, 2, 1025), (45, 167, 2, 65499), (48, 3, 0, 0), (49, 172, 0, 0)]
theorem da_cX2_numberIn_1 : fw dt_cX2_numberIn_1 0 cX2_numberIn.data.toList = true := by decide +kernel
theorem dX2_numberIn_32 : decode cX2_numberIn 32 = .ok (.aload_n 0, 1) := fo_42 (fw_get da_cX2_numberIn_1 0 rfl)
theorem dX2_numberIn_33 : decode cX2_numberIn 33 = .ok (.getfield 37, 3) := fo_180 (fw_get da_cX2_numberIn_1 1 rfl)
theorem dX2_numberIn_36 : decode cX2_numberIn 36 = .ok (.iload_n 3, 1) := fo_29 (fw_get da_cX2_numberIn_1 2 rfl)
theorem dX2_numberIn_37 : decode cX2_numberIn 37 = .ok (.iload 4, 2) := fo_21 (fw_get da_cX2_numberIn_1 3 rfl)
theorem dX2_numberIn_39 : decode cX2_numberIn 39 = .ok (.iadd, 1) := fo_96 (fw_get da_cX2_numberIn_1 4 rfl)
theorem dX2_numberIn_40 : decode cX2_numberIn 40 = .ok (.iaload, 1) := fo_46 (fw_get da_cX2_numberIn_1 5 rfl)
theorem dX2_numberIn_41 : decode cX2_numberIn 41 = .ok (.ireturn, 1) := fo_172 (fw_get da_cX2_numberIn_1 6 rfl)
theorem dX2_numberIn_42 : decode cX2_numberIn 42 = .ok (.iinc 4 1, 3) := fo_132 (fw_get da_cX2_numberIn_1 7 rfl) rfl (by decide +kernel)
theorem dX2_numberIn_45 : decode cX2_numberIn 45 = .ok (.goto (-37), 3) := fo_167 (fw_get da_cX2_numberIn_1 8 rfl) (by decide +kernel)
theorem dX2_numberIn_48 : decode cX2_numberIn 48 = .ok (.iconst 0, 1) := fo_3 (fw_get da_cX2_numberIn_1 9 rfl)
theorem dX2_numberIn_49 : decode cX2_numberIn 49 = .ok (.ireturn, 1) := fo_172 (fw_get da_cX2_numberIn_1 10 rfl)
set_option maxRecDepth 20000 in
theorem ggX2_holding_X2_hasPlace : GoodIn wsX2_holding wsX2_hasPlace := goodIn_r _ [8, 9, 10, 18, 19, 20, 21, 22, 23, 24, 25, 26, 27, 28] rfl (by decide +kernel)
set_option maxRecDepth 20000 in
theorem gX2_holding_X2_hasPlace : GoodIn wsX2_holding (wsV RX2 110 RX2 yX2_hasPlace wsX2_hasPlace) := goodIn_app (goodIn_r _ [4, 5, 6, 7] rfl (by decide +kernel)) ggX2_holding_X2_hasPlace
set_option maxRecDepth 20000 in
theorem ggX2_holding_X2_numberIn : GoodIn wsX2_holding wsX2_numberIn := goodIn_r _ [14, 15, 16, 17, 18, 19, 20, 21, 22, 23, 24, 25, 26, 27, 28] rfl (by decide +kernel)
set_option maxRecDepth 20000 in
theorem gX2_holding_X2_numberIn : GoodIn wsX2_holding (wsV RX2 114 RX2 yX2_numberIn wsX2_numberIn) := goodIn_app (goodIn_r _ [11, 12, 13, 7] rfl (by decide +kernel)) ggX2_holding_X2_numberIn
def dt_cX2_holding_0 : List (Nat × Nat × Nat × Nat) := [(0, 3, 0, 0), (1, 61, 0, 0), (2, 42, 0, 0), (3, 180, 2, 50), (6, 4, 0, 0), (7, 100, 0, 0), (8, 62, 0, 0), (9, 29, 0, 0), (10, 155, 2, 40), (13, 42, 0, 0), (14, 29, 0, 0), (15, 27, 0, 0), (16, 182, 2, 110), (19, 153, 2, 25), (22, 42, 0, 0), (23, 29, 0, 0), (24, 42, 0, 0), (25, 180, 2, 40), (28, 180, 2, 74), (31, 27, 0, 0)]
theorem da_cX2_holding_0 : fw dt_cX2_holding_0 0 cX2_holding.data.toList = true := by decide +kernel
theorem dX2_holding_0 : decode cX2_holding 0 = .ok (.iconst 0, 1) := fo_3 (fw_get da_cX2_holding_0 0 rfl)
theorem dX2_holding_1 : decode cX2_holding 1 = .ok (.istore_n 2, 1) := fo_61 (fw_get da_cX2_holding_0 1 rfl)
theorem dX2_holding_2 : decode cX2_holding 2 = .ok (.aload_n 0, 1) := fo_42 (fw_get da_cX2_holding_0 2 rfl)
theorem dX2_holding_3 : decode cX2_holding 3 = .ok (.getfield 50, 3) := fo_180 (fw_get da_cX2_holding_0 3 rfl)
theorem dX2_holding_6 : decode cX2_holding 6 = .ok (.iconst 1, 1) := fo_4 (fw_get da_cX2_holding_0 4 rfl)
theorem dX2_holding_7 : decode cX2_holding 7 = .ok (.isub, 1) := fo_100 (fw_get da_cX2_holding_0 5 rfl)
theorem dX2_holding_8 : decode cX2_holding 8 = .ok (.istore_n 3, 1) := fo_62 (fw_get da_cX2_holding_0 6 rfl)
theorem dX2_holding_9 : decode cX2_holding 9 = .ok (.iload_n 3, 1) := fo_29 (fw_get da_cX2_holding_0 7 rfl)
theorem dX2_holding_10 : decode cX2_holding 10 = .ok (.ifCond .lt 40, 3) := fo_155 (fw_get da_cX2_holding_0 8 rfl) (by decide +kernel)
theorem dX2_holding_13 : decode cX2_holding 13 = .ok (.aload_n 0, 1) := fo_42 (fw_get da_cX2_holding_0 9 rfl)
theorem dX2_holding_14 : decode cX2_holding 14 = .ok (.iload_n 3, 1) := fo_29 (fw_get da_cX2_holding_0 10 rfl)
theorem dX2_holding_15 : decode cX2_holding 15 = .ok (.iload_n 1, 1) := fo_27 (fw_get da_cX2_holding_0 11 rfl)
theorem dX2_holding_16 : decode cX2_holding 16 = .ok (.invokevirtual 110, 3) := fo_182 (fw_get da_cX2_holding_0 12 rfl)
theorem dX2_holding_19 : decode cX2_holding 19 = .ok (.ifCond .eq 25, 3) := fo_153 (fw_get da_cX2_holding_0 13 rfl) (by decide +kernel)
theorem dX2_holding_22 : decode cX2_holding 22 = .ok (.aload_n 0, 1) := fo_42 (fw_get da_cX2_holding_0 14 rfl)
theorem dX2_holding_23 : decode cX2_holding 23 = .ok (.iload_n 3, 1) := fo_29 (fw_get da_cX2_holding_0 15 rfl)
theorem dX2_holding_24 : decode cX2_holding 24 = .ok (.aload_n 0, 1) := fo_42 (fw_get da_cX2_holding_0 16 rfl)
theorem dX2_holding_25 : decode cX2_holding 25 = .ok (.getfield 40, 3) := fo_180 (fw_get da_cX2_holding_0 17 rfl)
theorem dX2_holding_28 : decode cX2_holding 28 = .ok (.getfield 74, 3) := fo_180 (fw_get da_cX2_holding_0 18 rfl)
theorem dX2_holding_31 : decode cX2_holding 31 = .ok (.iload_n 1, 1) := fo_27 (fw_get da_cX2_holding_0 19 rfl)
def dt_cX2_holding_1 : List (Nat × Nat × Nat × Nat) := [(32, 46, 0, 0), (33, 182, 2, 114), (36, 154, 2, 5), (39, 28, 0, 0), (40, 172, 0, 0), (41, 132, 2, 513), (44, 132, 2, 1023), (47, 167, 2, 65498), (50, 28, 0, 0), (51, 172, 0, 0)]
theorem da_cX2_holding_1 : fw dt_cX2_holding_1 0 cX2_holding.data.toList = true := by decide +kernel
theorem dX2_holding_32 : decode cX2_holding 32 = .ok (.iaload, 1) := fo_46 (fw_get da_cX2_holding_1 0 rfl)
theorem dX2_holding_33 : decode cX2_holding 33 = .ok (.invokevirtual 114, 3) := fo_182 (fw_get da_cX2_holding_1 1 rfl)
theorem dX2_holding_36 : decode cX2_holding 36 = .ok (.ifCond .ne 5, 3) := fo_154 (fw_get da_cX2_holding_1 2 rfl) (by decide +kernel)
theorem dX2_holding_39 : decode cX2_holding 39 = .ok (.iload_n 2, 1) := fo_28 (fw_get da_cX2_holding_1 3 rfl)
theorem dX2_holding_40 : decode cX2_holding 40 = .ok (.ireturn, 1) := fo_172 (fw_get da_cX2_holding_1 4 rfl)
theorem dX2_holding_41 : decode cX2_holding 41 = .ok (.iinc 2 1, 3) := fo_132 (fw_get da_cX2_holding_1 5 rfl) rfl (by decide +kernel)
theorem dX2_holding_44 : decode cX2_holding 44 = .ok (.iinc 3 (-1), 3) := fo_132 (fw_get da_cX2_holding_1 6 rfl) rfl (by decide +kernel)
theorem dX2_holding_47 : decode cX2_holding 47 = .ok (.goto (-38), 3) := fo_167 (fw_get da_cX2_holding_1 7 rfl) (by decide +kernel)
theorem dX2_holding_50 : decode cX2_holding 50 = .ok (.iload_n 2, 1) := fo_28 (fw_get da_cX2_holding_1 8 rfl)
theorem dX2_holding_51 : decode cX2_holding 51 = .ok (.ireturn, 1) := fo_172 (fw_get da_cX2_holding_1 9 rfl)
set_option maxRecDepth 20000 in
theorem ggX2_nodesWithMajority_X0_leader : GoodIn wsX2_nodesWithMajority wsX0_leader := goodIn_r _ [10, 11, 12, 13, 14, 15, 9, 16, 17, 18, 19, 31, 32] rfl (by decide +kernel)
set_option maxRecDepth 20000 in
theorem gX2_nodesWithMajority_X0_leader : GoodIn wsX2_nodesWithMajority (wsV RX2 117 RX0 yX0_leader wsX0_leader) := goodIn_app (goodIn_r _ [6, 7, 8, 9] rfl (by decide +kernel)) ggX2_nodesWithMajority_X0_leader
def dt_cX2_nodesWithMajority_0 : List (Nat × Nat × Nat × Nat) := [(0, 3, 0, 0), (1, 60, 0, 0), (2, 3, 0, 0), (3, 61, 0, 0), (4, 28, 0, 0), (5, 42, 0, 0), (6, 180, 2, 50), (9, 162, 2, 36), (12, 42, 0, 0), (13, 180, 2, 40), (16, 42, 0, 0), (17, 180, 2, 18), (20, 28, 0, 0), (21, 46, 0, 0), (22, 42, 0, 0), (23, 180, 2, 22), (26, 28, 0, 0), (27, 46, 0, 0), (28, 182, 2, 117), (31, 18, 1, 120)]
theorem da_cX2_nodesWithMajority_0 : fw dt_cX2_nodesWithMajority_0 0 cX2_nodesWithMajority.data.toList = true := by decide +kernel
theorem dX2_nodesWithMajority_0 : decode cX2_nodesWithMajority 0 = .ok (.iconst 0, 1) := fo_3 (fw_get da_cX2_nodesWithMajority_0 0 rfl)
theorem dX2_nodesWithMajority_1 : decode cX2_nodesWithMajority 1 = .ok (.istore_n 1, 1) := fo_60 (fw_get da_cX2_nodesWithMajority_0 1 rfl)
theorem dX2_nodesWithMajority_2 : decode cX2_nodesWithMajority 2 = .ok (.iconst 0, 1) := fo_3 (fw_get da_cX2_nodesWithMajority_0 2 rfl)
theorem dX2_nodesWithMajority_3 : decode cX2_nodesWithMajority 3 = .ok (.istore_n 2, 1) := fo_61 (fw_get da_cX2_nodesWithMajority_0 3 rfl)
theorem dX2_nodesWithMajority_4 : decode cX2_nodesWithMajority 4 = .ok (.iload_n 2, 1) := fo_28 (fw_get da_cX2_nodesWithMajority_0 4 rfl)
theorem dX2_nodesWithMajority_5 : decode cX2_nodesWithMajority 5 = .ok (.aload_n 0, 1) := fo_42 (fw_get da_cX2_nodesWithMajority_0 5 rfl)
theorem dX2_nodesWithMajority_6 : decode cX2_nodesWithMajority 6 = .ok (.getfield 50, 3) := fo_180 (fw_get da_cX2_nodesWithMajority_0 6 rfl)
theorem dX2_nodesWithMajority_9 : decode cX2_nodesWithMajority 9 = .ok (.if_icmp .ge 36, 3) := fo_162 (fw_get da_cX2_nodesWithMajority_0 7 rfl) (by decide +kernel)
theorem dX2_nodesWithMajority_12 : decode cX2_nodesWithMajority 12 = .ok (.aload_n 0, 1) := fo_42 (fw_get da_cX2_nodesWithMajority_0 8 rfl)
theorem dX2_nodesWithMajority_13 : decode cX2_nodesWithMajority 13 = .ok (.getfield 40, 3) := fo_180 (fw_get da_cX2_nodesWithMajority_0 9 rfl)
theorem dX2_nodesWithMajority_16 : decode cX2_nodesWithMajority 16 = .ok (.aload_n 0, 1) := fo_42 (fw_get da_cX2_nodesWithMajority_0 10 rfl)
theorem dX2_nodesWithMajority_17 : decode cX2_nodesWithMajority 17 = .ok (.getfield 18, 3) := fo_180 (fw_get da_cX2_nodesWithMajority_0 11 rfl)
theorem dX2_nodesWithMajority_20 : decode cX2_nodesWithMajority 20 = .ok (.iload_n 2, 1) := fo_28 (fw_get da_cX2_nodesWithMajority_0 12 rfl)
theorem dX2_nodesWithMajority_21 : decode cX2_nodesWithMajority 21 = .ok (.iaload, 1) := fo_46 (fw_get da_cX2_nodesWithMajority_0 13 rfl)
theorem dX2_nodesWithMajority_22 : decode cX2_nodesWithMajority 22 = .ok (.aload_n 0, 1) := fo_42 (fw_get da_cX2_nodesWithMajority_0 14 rfl)
theorem dX2_nodesWithMajority_23 : decode cX2_nodesWithMajority 23 = .ok (.getfield 22, 3) := fo_180 (fw_get da_cX2_nodesWithMajority_0 15 rfl)
theorem dX2_nodesWithMajority_26 : decode cX2_nodesWithMajority 26 = .ok (.iload_n 2, 1) := fo_28 (fw_get da_cX2_nodesWithMajority_0 16 rfl)
theorem dX2_nodesWithMajority_27 : decode cX2_nodesWithMajority 27 = .ok (.iaload, 1) := fo_46 (fw_get da_cX2_nodesWithMajority_0 17 rfl)
theorem dX2_nodesWithMajority_28 : decode cX2_nodesWithMajority 28 = .ok (.invokevirtual 117, 3) := fo_182 (fw_get da_cX2_nodesWithMajority_0 18 rfl)
theorem dX2_nodesWithMajority_31 : decode cX2_nodesWithMajority 31 = .ok (.ldc 120, 2) := fo_18 (fw_get da_cX2_nodesWithMajority_0 19 rfl)
def dt_cX2_nodesWithMajority_1 : List (Nat × Nat × Nat × Nat) := [(33, 159, 2, 6), (36, 132, 2, 257), (39, 132, 2, 513), (42, 167, 2, 65498), (45, 27, 0, 0), (46, 172, 0, 0)]
theorem da_cX2_nodesWithMajority_1 : fw dt_cX2_nodesWithMajority_1 0 cX2_nodesWithMajority.data.toList = true := by decide +kernel
theorem dX2_nodesWithMajority_33 : decode cX2_nodesWithMajority 33 = .ok (.if_icmp .eq 6, 3) := fo_159 (fw_get da_cX2_nodesWithMajority_1 0 rfl) (by decide +kernel)
theorem dX2_nodesWithMajority_36 : decode cX2_nodesWithMajority 36 = .ok (.iinc 1 1, 3) := fo_132 (fw_get da_cX2_nodesWithMajority_1 1 rfl) rfl (by decide +kernel)
theorem dX2_nodesWithMajority_39 : decode cX2_nodesWithMajority 39 = .ok (.iinc 2 1, 3) := fo_132 (fw_get da_cX2_nodesWithMajority_1 2 rfl) rfl (by decide +kernel)
theorem dX2_nodesWithMajority_42 : decode cX2_nodesWithMajority 42 = .ok (.goto (-38), 3) := fo_167 (fw_get da_cX2_nodesWithMajority_1 3 rfl) (by decide +kernel)
theorem dX2_nodesWithMajority_45 : decode cX2_nodesWithMajority 45 = .ok (.iload_n 1, 1) := fo_27 (fw_get da_cX2_nodesWithMajority_1 4 rfl)
theorem dX2_nodesWithMajority_46 : decode cX2_nodesWithMajority 46 = .ok (.ireturn, 1) := fo_172 (fw_get da_cX2_nodesWithMajority_1 5 rfl)
def dt_cX2_deepest_0 : List (Nat × Nat × Nat × Nat) := [(0, 42, 0, 0), (1, 180, 2, 50), (4, 154, 2, 7), (7, 3, 0, 0), (8, 167, 2, 4), (11, 4, 0, 0), (12, 60, 0, 0), (13, 42, 0, 0), (14, 180, 2, 40), (17, 180, 2, 44), (20, 61, 0, 0), (21, 28, 0, 0), (22, 4, 0, 0), (23, 164, 2, 15), (26, 132, 2, 257), (29, 28, 0, 0), (30, 28, 0, 0), (31, 5, 0, 0), (32, 108, 0, 0), (33, 100, 0, 0)]
theorem da_cX2_deepest_0 : fw dt_cX2_deepest_0 0 cX2_deepest.data.toList = true := by decide +kernel
theorem dX2_deepest_0 : decode cX2_deepest 0 = .ok (.aload_n 0, 1) := fo_42 (fw_get da_cX2_deepest_0 0 rfl)
theorem dX2_deepest_1 : decode cX2_deepest 1 = .ok (.getfield 50, 3) := fo_180 (fw_get da_cX2_deepest_0 1 rfl)
theorem dX2_deepest_4 : decode cX2_deepest 4 = .ok (.ifCond .ne 7, 3) := fo_154 (fw_get da_cX2_deepest_0 2 rfl) (by decide +kernel)
theorem dX2_deepest_7 : decode cX2_deepest 7 = .ok (.iconst 0, 1) := fo_3 (fw_get da_cX2_deepest_0 3 rfl)
theorem dX2_deepest_8 : decode cX2_deepest 8 = .ok (.goto 4, 3) := fo_167 (fw_get da_cX2_deepest_0 4 rfl) (by decide +kernel)
theorem dX2_deepest_11 : decode cX2_deepest 11 = .ok (.iconst 1, 1) := fo_4 (fw_get da_cX2_deepest_0 5 rfl)
theorem dX2_deepest_12 : decode cX2_deepest 12 = .ok (.istore_n 1, 1) := fo_60 (fw_get da_cX2_deepest_0 6 rfl)
theorem dX2_deepest_13 : decode cX2_deepest 13 = .ok (.aload_n 0, 1) := fo_42 (fw_get da_cX2_deepest_0 7 rfl)
theorem dX2_deepest_14 : decode cX2_deepest 14 = .ok (.getfield 40, 3) := fo_180 (fw_get da_cX2_deepest_0 8 rfl)
theorem dX2_deepest_17 : decode cX2_deepest 17 = .ok (.getfield 44, 3) := fo_180 (fw_get da_cX2_deepest_0 9 rfl)
theorem dX2_deepest_20 : decode cX2_deepest 20 = .ok (.istore_n 2, 1) := fo_61 (fw_get da_cX2_deepest_0 10 rfl)
theorem dX2_deepest_21 : decode cX2_deepest 21 = .ok (.iload_n 2, 1) := fo_28 (fw_get da_cX2_deepest_0 11 rfl)
theorem dX2_deepest_22 : decode cX2_deepest 22 = .ok (.iconst 1, 1) := fo_4 (fw_get da_cX2_deepest_0 12 rfl)
theorem dX2_deepest_23 : decode cX2_deepest 23 = .ok (.if_icmp .le 15, 3) := fo_164 (fw_get da_cX2_deepest_0 13 rfl) (by decide +kernel)
theorem dX2_deepest_26 : decode cX2_deepest 26 = .ok (.iinc 1 1, 3) := fo_132 (fw_get da_cX2_deepest_0 14 rfl) rfl (by decide +kernel)
theorem dX2_deepest_29 : decode cX2_deepest 29 = .ok (.iload_n 2, 1) := fo_28 (fw_get da_cX2_deepest_0 15 rfl)
theorem dX2_deepest_30 : decode cX2_deepest 30 = .ok (.iload_n 2, 1) := fo_28 (fw_get da_cX2_deepest_0 16 rfl)
theorem dX2_deepest_31 : decode cX2_deepest 31 = .ok (.iconst 2, 1) := fo_5 (fw_get da_cX2_deepest_0 17 rfl)
theorem dX2_deepest_32 : decode cX2_deepest 32 = .ok (.idiv, 1) := fo_108 (fw_get da_cX2_deepest_0 18 rfl)
theorem dX2_deepest_33 : decode cX2_deepest 33 = .ok (.isub, 1) := fo_100 (fw_get da_cX2_deepest_0 19 rfl)
def dt_cX2_deepest_1 : List (Nat × Nat × Nat × Nat) := [(34, 61, 0, 0), (35, 167, 2, 65522), (38, 27, 0, 0), (39, 172, 0, 0)]
theorem da_cX2_deepest_1 : fw dt_cX2_deepest_1 0 cX2_deepest.data.toList = true := by decide +kernel
theorem dX2_deepest_34 : decode cX2_deepest 34 = .ok (.istore_n 2, 1) := fo_61 (fw_get da_cX2_deepest_1 0 rfl)
theorem dX2_deepest_35 : decode cX2_deepest 35 = .ok (.goto (-14), 3) := fo_167 (fw_get da_cX2_deepest_1 1 rfl) (by decide +kernel)
theorem dX2_deepest_38 : decode cX2_deepest 38 = .ok (.iload_n 1, 1) := fo_27 (fw_get da_cX2_deepest_1 2 rfl)
theorem dX2_deepest_39 : decode cX2_deepest 39 = .ok (.ireturn, 1) := fo_172 (fw_get da_cX2_deepest_1 3 rfl)
def dt_cX2_allLosses_0 : List (Nat × Nat × Nat × Nat) := [(0, 3, 0, 0), (1, 60, 0, 0), (2, 3, 0, 0), (3, 61, 0, 0), (4, 28, 0, 0), (5, 42, 0, 0), (6, 180, 2, 50), (9, 162, 2, 18), (12, 27, 0, 0), (13, 42, 0, 0), (14, 180, 2, 28), (17, 28, 0, 0), (18, 46, 0, 0), (19, 96, 0, 0), (20, 60, 0, 0), (21, 132, 2, 513), (24, 167, 2, 65516), (27, 27, 0, 0), (28, 172, 0, 0)]
theorem da_cX2_allLosses_0 : fw dt_cX2_allLosses_0 0 cX2_allLosses.data.toList = true := by decide +kernel
theorem dX2_allLosses_0 : decode cX2_allLosses 0 = .ok (.iconst 0, 1) := fo_3 (fw_get da_cX2_allLosses_0 0 rfl)
theorem dX2_allLosses_1 : decode cX2_allLosses 1 = .ok (.istore_n 1, 1) := fo_60 (fw_get da_cX2_allLosses_0 1 rfl)
theorem dX2_allLosses_2 : decode cX2_allLosses 2 = .ok (.iconst 0, 1) := fo_3 (fw_get da_cX2_allLosses_0 2 rfl)
theorem dX2_allLosses_3 : decode cX2_allLosses 3 = .ok (.istore_n 2, 1) := fo_61 (fw_get da_cX2_allLosses_0 3 rfl)
theorem dX2_allLosses_4 : decode cX2_allLosses 4 = .ok (.iload_n 2, 1) := fo_28 (fw_get da_cX2_allLosses_0 4 rfl)
theorem dX2_allLosses_5 : decode cX2_allLosses 5 = .ok (.aload_n 0, 1) := fo_42 (fw_get da_cX2_allLosses_0 5 rfl)
theorem dX2_allLosses_6 : decode cX2_allLosses 6 = .ok (.getfield 50, 3) := fo_180 (fw_get da_cX2_allLosses_0 6 rfl)
theorem dX2_allLosses_9 : decode cX2_allLosses 9 = .ok (.if_icmp .ge 18, 3) := fo_162 (fw_get da_cX2_allLosses_0 7 rfl) (by decide +kernel)
theorem dX2_allLosses_12 : decode cX2_allLosses 12 = .ok (.iload_n 1, 1) := fo_27 (fw_get da_cX2_allLosses_0 8 rfl)
theorem dX2_allLosses_13 : decode cX2_allLosses 13 = .ok (.aload_n 0, 1) := fo_42 (fw_get da_cX2_allLosses_0 9 rfl)
theorem dX2_allLosses_14 : decode cX2_allLosses 14 = .ok (.getfield 28, 3) := fo_180 (fw_get da_cX2_allLosses_0 10 rfl)
theorem dX2_allLosses_17 : decode cX2_allLosses 17 = .ok (.iload_n 2, 1) := fo_28 (fw_get da_cX2_allLosses_0 11 rfl)
theorem dX2_allLosses_18 : decode cX2_allLosses 18 = .ok (.iaload, 1) := fo_46 (fw_get da_cX2_allLosses_0 12 rfl)
theorem dX2_allLosses_19 : decode cX2_allLosses 19 = .ok (.iadd, 1) := fo_96 (fw_get da_cX2_allLosses_0 13 rfl)
theorem dX2_allLosses_20 : decode cX2_allLosses 20 = .ok (.istore_n 1, 1) := fo_60 (fw_get da_cX2_allLosses_0 14 rfl)
theorem dX2_allLosses_21 : decode cX2_allLosses 21 = .ok (.iinc 2 1, 3) := fo_132 (fw_get da_cX2_allLosses_0 15 rfl) rfl (by decide +kernel)
theorem dX2_allLosses_24 : decode cX2_allLosses 24 = .ok (.goto (-20), 3) := fo_167 (fw_get da_cX2_allLosses_0 16 rfl) (by decide +kernel)
theorem dX2_allLosses_27 : decode cX2_allLosses 27 = .ok (.iload_n 1, 1) := fo_27 (fw_get da_cX2_allLosses_0 17 rfl)
theorem dX2_allLosses_28 : decode cX2_allLosses 28 = .ok (.ireturn, 1) := fo_172 (fw_get da_cX2_allLosses_0 18 rfl)


set_option maxHeartbeats 4000000 in
set_option maxRecDepth 100000 in
theorem c_X2_joinNode (l : Launch) (dC : Nat → ClassId) (dI : Nat → Nat → Nat) (q_t : Nat) (q_row : Nat) (q_joined : Nat) (q_from : Nat) (q_to : Nat) (q_size : Nat) (q_lossOf : Nat) (q_lessBy : Nat) (q_value : Nat) (q_number : Nat) (nodes : Int32) (here : Int32) (h0 : Nat) (a_v : Nat) (a_n : Nat) (cyI : ClassId) (vs : Int32) (lo : Int32) (le : Int32) (fv : Nat → Int32) (fn : Nat → Int32) (fs : Nat → Int32) (fo : Nat → Int32) (uv : Nat → Int32) (un : Nat → Int32) (p0 : Int32) (sz : Nat) (a0 : 0 ≤ vs.toInt) (a1 : vs.toInt ≤ 12) (b0 : 0 ≤ p0.toInt) (b1 : p0.toInt < 319) (s0 : sixes fs) : kx_MQ l (dC, dI) yX2_joinNode wsX2_joinNode ({ frames := 1, cells := 0, slots := 0, locals := 45 }) [.ref q_t, .ref h0, .int p0] [kx_2 q_t q_row q_joined q_from q_to q_size q_lossOf q_lessBy q_value q_number nodes here, kx_a q_size cyI 319 fs, kx_a q_lossOf cyI 319 fo, kx_a q_value cyI 1914 uv, kx_a q_number cyI 1914 un, kx_3 h0 a_v a_n vs lo le, kx_a a_v cyI 12 fv, kx_a a_n cyI 12 fn] [(cyI, .int)] sz (fun A => va_Qv (fun u : Int32 × Int32 × (Nat → Int32) × (Nat → Int32) => 0 ≤ u.1.toInt ∧ u.1.toInt ≤ 12) (fun (u : Int32 × Int32 × (Nat → Int32) × (Nat → Int32)) (t : State) => va_P (dC, dI) vwCl [kx_2 q_t q_row q_joined q_from q_to q_size q_lossOf q_lessBy q_value q_number nodes here, kx_a q_size cyI 319 fs, kx_a q_lossOf cyI 319 fo, kx_a q_value cyI 1914 uv, kx_a q_number cyI 1914 un, kx_3 h0 a_v a_n u.1 u.2.1 le, kx_a a_v cyI 12 u.2.2.1, kx_a a_n cyI 12 u.2.2.2] t.heap ∧ va_K (dC, dI) vwCl [(cyI, .int)] t ∧ va_D A [kx_2 q_t q_row q_joined q_from q_to q_size q_lossOf q_lessBy q_value q_number nodes here, kx_a q_size cyI 319 fs, kx_a q_lossOf cyI 319 fo, kx_a q_value cyI 1914 uv, kx_a q_number cyI 1914 un, kx_3 h0 a_v a_n u.1 u.2.1 le, kx_a a_v cyI 12 u.2.2.1, kx_a a_n cyI 12 u.2.2.2]) A) := by
  refine kx_stQ (ws := wsX2_joinNode) (cc := cX2_joinNode) (maxL := 5) (ret := none) (by decide) rfl (Nat.le_of_ble_eq_true rfl) ?_
  intro p e s m below meth c A ls hx hb hr hlocks hts hown hml hA hS hP hK hD hl
  have hown : s.vm.findClass RX2 = some m.cls := hown
  have hl : lv_has ls 5 [(0, .ref q_t), (1, .ref h0), (2, .int p0)] := hl
  have hf_25 := hts (.fieldLink RX2 25 "MajorityIndex$Tree" "size" "[I") (List.mem_of_getElem? (i := 1) rfl)
  have hi_2 : ∀ w ∈ u_ws RX2 TX2 11, w ∈ wsX2_joinNode := fun w h => List.mem_cons_of_mem _ (List.mem_append_left _ (List.mem_append_right _ h))
  have hf_91 := hts (.fieldLink RX2 91 "MajorityIndex$Votes" "lost" "I") (List.mem_of_getElem? (i := 4) rfl)
  have hi_3 : ∀ w ∈ u_ws RX3 TX3 5, w ∈ wsX2_joinNode := fun w h => List.mem_cons_of_mem _ (List.mem_append_right _ h)
  have hf_28 := hts (.fieldLink RX2 28 "MajorityIndex$Tree" "lossOf" "[I") (List.mem_of_getElem? (i := 5) rfl)
  have hf_34 := hts (.fieldLink RX2 34 "MajorityIndex$Tree" "value" "[I") (List.mem_of_getElem? (i := 2) rfl)
  have hf_37 := hts (.fieldLink RX2 37 "MajorityIndex$Tree" "number" "[I") (List.mem_of_getElem? (i := 3) rfl)
  refine lv_iload_n hx hb dX2_joinNode_0 rfl (lv_at hl 2 rfl) ?_
  refine lv_bipush (v := 6) hx hb dX2_joinNode_1 (by decide) ?_
  refine lv_imul hx hb dX2_joinNode_3 ?_
  refine lv_topi (fun y_1 ey_1 => ?_)
  have i_1 : y_1.toInt = p0.toInt * 6 := ki_mul ey_1 rfl rfl (om_95 b0) (om_96 b1)
  refine lv_istore_n (lv' := [(3, .int y_1), (0, .ref q_t), (1, .ref h0), (2, .int p0)]) hx hb dX2_joinNode_4 rfl hl (by decide) rfl (fun ls hl => ?_)
  refine lv_iconst (v := 0) hx hb dX2_joinNode_5 (by decide) ?_
  refine lv_istore (lv' := [(4, .int 0), (3, .int y_1), (0, .ref q_t), (1, .ref h0), (2, .int p0)]) hx hb dX2_joinNode_6 hl (by decide) rfl (fun ls hl => ?_)
  have LP1 : ∀ (n : Nat) (i : Int32) (zz : Int32) (yv : Nat → Int32) (yn : Nat → Int32), (0 ≤ i.toInt) → (0 ≤ zz.toInt) → (zz.toInt ≤ 12) → (6 - i.toInt).toNat < n → ∀ (H : Heap) (locs : List Loc), va_P (dC, dI) vwCl [kx_2 q_t q_row q_joined q_from q_to q_size q_lossOf q_lessBy q_value q_number nodes here, kx_a q_size cyI 319 fs, kx_a q_lossOf cyI 319 fo, kx_a q_value cyI 1914 uv, kx_a q_number cyI 1914 un, kx_3 h0 a_v a_n zz lo le, kx_a a_v cyI 12 yv, kx_a a_n cyI 12 yn] H → va_D A [kx_2 q_t q_row q_joined q_from q_to q_size q_lossOf q_lessBy q_value q_number nodes here, kx_a q_size cyI 319 fs, kx_a q_lossOf cyI 319 fo, kx_a q_value cyI 1914 uv, kx_a q_number cyI 1914 un, kx_3 h0 a_v a_n zz lo le, kx_a a_v cyI 12 yv, kx_a a_n cyI 12 yn] → va_S A s.heap H locs → ∀ (ls : Array Slot), lv_has ls 5 [(4, .int i), (3, .int y_1), (0, .ref q_t), (1, .ref h0), (2, .int p0)] → W p l e (headSpec wsX2_joinNode ({ frames := 1, cells := 0, slots := 0, locals := 45 })).room s m ([.ref q_t, .ref h0, .int p0] : List Value).toArray below meth c H locs 0 0 (MQ below (va_Qv (fun u : Int32 × Int32 × (Nat → Int32) × (Nat → Int32) => 0 ≤ u.1.toInt ∧ u.1.toInt ≤ 12) (fun (u : Int32 × Int32 × (Nat → Int32) × (Nat → Int32)) (t : State) => va_P (dC, dI) vwCl [kx_2 q_t q_row q_joined q_from q_to q_size q_lossOf q_lessBy q_value q_number nodes here, kx_a q_size cyI 319 fs, kx_a q_lossOf cyI 319 fo, kx_a q_value cyI 1914 uv, kx_a q_number cyI 1914 un, kx_3 h0 a_v a_n u.1 u.2.1 le, kx_a a_v cyI 12 u.2.2.1, kx_a a_n cyI 12 u.2.2.2] t.heap ∧ va_K (dC, dI) vwCl [(cyI, .int)] t ∧ va_D A [kx_2 q_t q_row q_joined q_from q_to q_size q_lossOf q_lessBy q_value q_number nodes here, kx_a q_size cyI 319 fs, kx_a q_lossOf cyI 319 fo, kx_a q_value cyI 1914 uv, kx_a q_number cyI 1914 un, kx_3 h0 a_v a_n u.1 u.2.1 le, kx_a a_v cyI 12 u.2.2.1, kx_a a_n cyI 12 u.2.2.2]) A) ([.ref q_t, .ref h0, .int p0] : List Value).toArray s 0 0 A) (F0 m 8 ls []) := by
    intro n
    induction n with
    | zero => intro i zz yv yn LP1_h0 LP1_h1 LP1_h2 hn; exact absurd hn (Nat.not_lt_zero _)
    | succ n ih1 =>
      intro i zz yv yn LP1_h0 LP1_h1 LP1_h2 hn1 H locs hP hD hS ls hl
      refine lv_iload hx hb dX2_joinNode_8 (lv_at hl 0 rfl) ?_
      refine lv_aload_n hx hb dX2_joinNode_10 rfl (lv_at hl 2 rfl) ?_
      refine va_get (D := (dC, dI)) (ci := 2) (v := .ref q_size) (C := RX2) (T := TX2) (N := 11) hx hb hts hi_2 hown hK hP 0 rfl rfl 4 (by decide) hf_25 (fun _ h9 => h9) rfl dX2_joinNode_11 ?_
      refine lv_iload_n hx hb dX2_joinNode_14 rfl (lv_at hl 4 rfl) ?_
      refine va_iald hx hb hK hP 1 0 rfl rfl (ki_in (om_10 b0) (om_61 b1)) dX2_joinNode_15 ?_
      refine lv_topi (fun y_2 ey_2 => ?_)
      have j_2 : y_2.toInt = (fs p0.toNatClampNeg).toInt := congrArg Int32.toInt ey_2
      have n_3 : (p0.toNatClampNeg : Int) = p0.toInt := ki_nat _ rfl (om_10 b0)
      have i_4 := s0 p0.toNatClampNeg (om_ln n_3 (om_61 b1))
      refine lv_icmp_ge (tgt := 47) hx hb dX2_joinNode_16 (by decide) (fun c_5 => ?_) (fun c_5 => ?_)
      · have i_5 : y_2.toInt ≤ i.toInt := kc_le c_5
        refine lv_aload_n hx hb dX2_joinNode_47 rfl (lv_at hl 3 rfl) ?_
        refine lv_dup hx hb dX2_joinNode_48 rfl ?_
        refine va_get (D := (dC, dI)) (ci := 3) (v := .int lo) (C := RX3) (T := TX3) (N := 5) hx hb hts hi_3 hown hK hP 5 rfl rfl 3 (by decide) hf_91 (fun _ h9 => h9) rfl dX2_joinNode_49 ?_
        refine lv_aload_n hx hb dX2_joinNode_52 rfl (lv_at hl 2 rfl) ?_
        refine va_get (D := (dC, dI)) (ci := 2) (v := .ref q_lossOf) (C := RX2) (T := TX2) (N := 11) hx hb hts hi_2 hown hK hP 0 rfl rfl 5 (by decide) hf_28 (fun _ h9 => h9) rfl dX2_joinNode_53 ?_
        refine lv_iload_n hx hb dX2_joinNode_56 rfl (lv_at hl 4 rfl) ?_
        refine va_iald hx hb hK hP 2 0 rfl rfl (ki_in (om_10 b0) (om_61 b1)) dX2_joinNode_57 ?_
        refine lv_topi (fun y_6 ey_6 => ?_)
        have j_6 : y_6.toInt = (fo p0.toNatClampNeg).toInt := congrArg Int32.toInt ey_6
        refine lv_iadd hx hb dX2_joinNode_58 ?_
        refine lv_topi (fun y_7 ey_7 => ?_)
        refine va_put (D := (dC, dI)) (ci := 3) (v := .int y_7) (ty := .int) (C := RX3) (T := TX3) (N := 5) hx hb hts hi_3 tyX3 tyX3_ok nmX3 hown hK hP hD hS 5 rfl rfl 3 (by decide) hf_91 (fun _ h9 => h9) rfl (by decide +kernel) rfl rfl (Nat.le_of_ble_eq_true rfl) dX2_joinNode_59 (fun H locs hP hD hS => ?_)
        obtain ⟨hP, hD⟩ := kx_re (w2 := [kx_2 q_t q_row q_joined q_from q_to q_size q_lossOf q_lessBy q_value q_number nodes here, kx_a q_size cyI 319 fs, kx_a q_lossOf cyI 319 fo, kx_a q_value cyI 1914 uv, kx_a q_number cyI 1914 un, kx_3 h0 a_v a_n zz y_7 le, kx_a a_v cyI 12 yv, kx_a a_n cyI 12 yn]) hP hD rfl
        have hP9 := hP
        have hD9 := hD
        have hK9 := hK
        exact W.vret hx hb hr (hlocks := hlocks) (fun t ht hW => ⟨⟨(zz, y_7, yv, yn), rfl, (by (try dsimp only); omega), by rw [ht]; exact hP9, va_K.moved hW.alike hK9, hD9⟩, hS.F ht⟩) hS.2.2 dX2_joinNode_62
      · have i_5 : i.toInt < y_2.toInt := kc_nle c_5
        refine lv_aload_n hx hb dX2_joinNode_19 rfl (lv_at hl 3 rfl) ?_
        refine lv_aload_n hx hb dX2_joinNode_20 rfl (lv_at hl 2 rfl) ?_
        refine va_get (D := (dC, dI)) (ci := 2) (v := .ref q_value) (C := RX2) (T := TX2) (N := 11) hx hb hts hi_2 hown hK hP 0 rfl rfl 7 (by decide) hf_34 (fun _ h9 => h9) rfl dX2_joinNode_21 ?_
        refine lv_iload_n hx hb dX2_joinNode_24 rfl (lv_at hl 1 rfl) ?_
        refine lv_iload hx hb dX2_joinNode_25 (lv_at hl 0 rfl) ?_
        refine lv_iadd hx hb dX2_joinNode_27 ?_
        refine lv_topi (fun y_8 ey_8 => ?_)
        have i_8 : y_8.toInt = y_1.toInt + i.toInt := ki_add ey_8 rfl rfl (om_97 b0 i_1 LP1_h0) (om_98 b1 i_1 j_2 i_4.2 i_5)
        refine va_iald hx hb hK hP 3 0 rfl rfl (ki_in (om_99 b0 i_1 LP1_h0 i_8) (om_100 b1 i_1 j_2 i_4.2 i_5 i_8)) dX2_joinNode_28 ?_
        refine lv_topi (fun y_9 ey_9 => ?_)
        have j_9 : y_9.toInt = (uv y_8.toNatClampNeg).toInt := congrArg Int32.toInt ey_9
        refine lv_aload_n hx hb dX2_joinNode_29 rfl (lv_at hl 2 rfl) ?_
        refine va_get (D := (dC, dI)) (ci := 2) (v := .ref q_number) (C := RX2) (T := TX2) (N := 11) hx hb hts hi_2 hown hK hP 0 rfl rfl 8 (by decide) hf_37 (fun _ h9 => h9) rfl dX2_joinNode_30 ?_
        refine lv_iload_n hx hb dX2_joinNode_33 rfl (lv_at hl 1 rfl) ?_
        refine lv_iload hx hb dX2_joinNode_34 (lv_at hl 0 rfl) ?_
        refine lv_iadd hx hb dX2_joinNode_36 ?_
        refine lv_topi (fun y_10 ey_10 => ?_)
        have i_10 : y_10.toInt = y_1.toInt + i.toInt := ki_add ey_10 rfl rfl (om_97 b0 i_1 LP1_h0) (om_98 b1 i_1 j_2 i_4.2 i_5)
        refine va_iald hx hb hK hP 4 0 rfl rfl (ki_in (om_99 b0 i_1 LP1_h0 i_10) (om_100 b1 i_1 j_2 i_4.2 i_5 i_10)) dX2_joinNode_37 ?_
        refine lv_topi (fun y_11 ey_11 => ?_)
        have j_11 : y_11.toInt = (un y_10.toNatClampNeg).toInt := congrArg Int32.toInt ey_11
        obtain ⟨hPc, hDc, hFc, hCc⟩ := kx_preM (wc := [kx_3 h0 a_v a_n zz lo le, kx_a a_v cyI 12 yv, kx_a a_n cyI 12 yn]) hP hD hS hA [false, false, false, false, false, true, true, true] rfl
        have hKc := hK
        refine va_callv (va_runV (As := [.int y_9, .int y_11]) (rest := []) ⟨hx, hb, hml, hown, hts⟩ (kx_un (c_X3_add l dC dI h0 a_v a_n cyI zz lo le yv yn y_9 y_11 H.size LP1_h1 LP1_h2)) (cwV 2 hts gX2_joinNode_X3_add rfl rfl rfl (by decide +kernel) ⟨Nat.le_of_ble_eq_true rfl, Nat.le_of_ble_eq_true rfl⟩) ⟨fun a U g mk q => by obtain ⟨q0, q1, qP, qK, qD⟩ := q; exact ⟨q0, q1, qP, va_K.moved (u := U) (U := U.calling g mk a) (Vm.Alike.refl U.vm) qK, qD⟩, kx_rc3 hKc hPc (q0 := 0) rfl, fun U hU hW => ⟨rfl, by rw [hU], by rw [hU]; exact hPc, va_K.moved hW.alike hKc, hDc.weaken (fun _ _ _ _ => trivial)⟩⟩ rfl rfl hl.1 rfl (lv_room (Nat.le_of_ble_eq_true rfl)) dX2_joinNode_38 ⟨Nat.le_of_ble_eq_true rfl, Nat.le_of_ble_eq_true rfl⟩) hS (fun q _ h => hFc q h) hFc (fun u t H1 locs ht hvm w_12 hB hz1 hk1 hS => ?_)
        obtain ⟨o_13, o_14, o_15⟩ := u
        dsimp only at w_12 hB
        obtain ⟨hP1, hK1, hD1⟩ := hB
        rw [ht] at hP1
        have hK1 := va_K.moved hvm.symm hK1
        obtain ⟨hP, hD⟩ := kx_joinM (w2 := [kx_2 q_t q_row q_joined q_from q_to q_size q_lossOf q_lessBy q_value q_number nodes here, kx_a q_size cyI 319 fs, kx_a q_lossOf cyI 319 fo, kx_a q_value cyI 1914 uv, kx_a q_number cyI 1914 un, kx_3 h0 a_v a_n o_13 lo le, kx_a a_v cyI 12 o_14, kx_a a_n cyI 12 o_15]) hP hD hP1 hD1 hk1 hFc [false, false, false, false, false, true, true, true] hCc rfl
        clear hP1 hD1 hK1 hk1 hz1 hFc hDc hPc hKc hCc
        generalize H1 = H at hP hS ⊢
        have w_12 : zz.toInt ≤ o_13.toInt ∧ o_13.toInt ≤ zz.toInt + 1 ∧ o_13.toInt ≤ 12 := w_12
        obtain ⟨x_16, ex_16⟩ : ∃ y : Int32, y = i + 1 := ⟨_, rfl⟩
        have i_16 : x_16.toInt = i.toInt + 1 := ki_add ex_16 rfl rfl (om_13 LP1_h0) (om_101 j_2 i_4.2 i_5)
        refine lv_iinc (v := x_16) (lv' := [(4, .int x_16), (3, .int y_1), (0, .ref q_t), (1, .ref h0), (2, .int p0)]) hx hb dX2_joinNode_41 hl (k := 0) rfl (by rw [ex_16]; rfl) (by decide) rfl (fun ls hl => ?_)
        refine lv_goto (tgt := 8) hx hb dX2_joinNode_44 (by decide) ?_
        exact ih1 x_16 o_13 o_14 o_15 (om_34 LP1_h0 i_16) (om_0 LP1_h1 w_12.1) (om_60 w_12.2.2) (om_mu hn1 (om_102 i_16) (om_103 j_2 i_4.2 i_5)) _ _ hP hD hS ls (lv_sub hl [0, 1, 2, 3, 4] rfl)
  have k_17 : (0 : Int32).toInt = 0 := rfl
  exact LP1 ((6 - 0 : Int).toNat + 1) 0 vs fv fn om_35 (om_10 a0) (om_60 a1) (Nat.lt_succ_self _) _ _ hP hD hS ls (lv_sub hl [0, 1, 2, 3, 4] rfl)

set_option maxHeartbeats 4000000 in
set_option maxRecDepth 100000 in
theorem c_X2_copyTo (l : Launch) (dC : Nat → ClassId) (dI : Nat → Nat → Nat) (q_t : Nat) (q_row : Nat) (q_joined : Nat) (q_from : Nat) (q_to : Nat) (q_size : Nat) (q_lossOf : Nat) (q_lessBy : Nat) (q_value : Nat) (q_number : Nat) (nodes : Int32) (here : Int32) (h0 : Nat) (a_v : Nat) (a_n : Nat) (cyI : ClassId) (vs : Int32) (lo : Int32) (le : Int32) (fv : Nat → Int32) (fn : Nat → Int32) (fs : Nat → Int32) (fo : Nat → Int32) (uv : Nat → Int32) (un : Nat → Int32) (p0 : Int32) (sz : Nat) (b0 : 0 ≤ p0.toInt) (b1 : p0.toInt < 319) (s0 : sixes fs) : kx_MQ l (dC, dI) yX2_copyTo wsX2_copyTo ({ frames := 2, cells := 0, slots := 0, locals := 90 }) [.ref q_t, .ref h0, .int p0] [kx_2 q_t q_row q_joined q_from q_to q_size q_lossOf q_lessBy q_value q_number nodes here, kx_a q_size cyI 319 fs, kx_a q_lossOf cyI 319 fo, kx_a q_value cyI 1914 uv, kx_a q_number cyI 1914 un, kx_3 h0 a_v a_n vs lo le, kx_a a_v cyI 12 fv, kx_a a_n cyI 12 fn] [(cyI, .int)] sz (fun A => va_Qv (fun u : Int32 × Int32 × (Nat → Int32) × (Nat → Int32) => 0 ≤ u.1.toInt ∧ u.1.toInt ≤ 12) (fun (u : Int32 × Int32 × (Nat → Int32) × (Nat → Int32)) (t : State) => va_P (dC, dI) vwCl [kx_2 q_t q_row q_joined q_from q_to q_size q_lossOf q_lessBy q_value q_number nodes here, kx_a q_size cyI 319 fs, kx_a q_lossOf cyI 319 fo, kx_a q_value cyI 1914 uv, kx_a q_number cyI 1914 un, kx_3 h0 a_v a_n u.1 u.2.1 0, kx_a a_v cyI 12 u.2.2.1, kx_a a_n cyI 12 u.2.2.2] t.heap ∧ va_K (dC, dI) vwCl [(cyI, .int)] t ∧ va_D A [kx_2 q_t q_row q_joined q_from q_to q_size q_lossOf q_lessBy q_value q_number nodes here, kx_a q_size cyI 319 fs, kx_a q_lossOf cyI 319 fo, kx_a q_value cyI 1914 uv, kx_a q_number cyI 1914 un, kx_3 h0 a_v a_n u.1 u.2.1 0, kx_a a_v cyI 12 u.2.2.1, kx_a a_n cyI 12 u.2.2.2]) A) := by
  refine kx_stQ (ws := wsX2_copyTo) (cc := cX2_copyTo) (maxL := 3) (ret := none) (by decide) rfl (Nat.le_of_ble_eq_true rfl) ?_
  intro p e s m below meth c A ls hx hb hr hlocks hts hown hml hA hS hP hK hD hl
  have hown : s.vm.findClass RX2 = some m.cls := hown
  have hl : lv_has ls 3 [(0, .ref q_t), (1, .ref h0), (2, .int p0)] := hl
  refine lv_aload_n hx hb dX2_copyTo_0 rfl (lv_at hl 1 rfl) ?_
  obtain ⟨hPc, hDc, hFc, hCc⟩ := kx_preM (wc := [kx_3 h0 a_v a_n vs lo le]) hP hD hS hA [false, false, false, false, false, true, false, false] rfl
  have hKc := hK.sub (tys' := []) [] rfl
  refine va_callv (va_runV (As := []) (rest := []) ⟨hx, hb, hml, hown, hts⟩ (kx_un (c_X3_clear l dC dI h0 a_v a_n vs lo le s.heap.size)) (cwV 0 hts gX2_copyTo_X3_clear rfl rfl rfl (by decide +kernel) ⟨Nat.le_of_ble_eq_true rfl, Nat.le_of_ble_eq_true rfl⟩) ⟨fun a U g mk q => by obtain ⟨q0, q1, qP, qK, qD⟩ := q; exact ⟨q0, q1, qP, va_K.moved (u := U) (U := U.calling g mk a) (Vm.Alike.refl U.vm) qK, qD⟩, kx_rc3 hKc hPc (q0 := 0) rfl, fun U hU hW => ⟨rfl, by rw [hU], by rw [hU]; exact hPc, va_K.moved hW.alike hKc, hDc.weaken (fun _ _ _ _ => trivial)⟩⟩ rfl rfl hl.1 rfl (lv_room (Nat.le_of_ble_eq_true rfl)) dX2_copyTo_1 ⟨Nat.le_of_ble_eq_true rfl, Nat.le_of_ble_eq_true rfl⟩) hS (fun q _ h => hFc q h) hFc (fun u t H1 locs ht hvm w_1 hB hz1 hk1 hS => ?_)
  obtain ⟨hP1, hK1, hD1⟩ := hB
  rw [ht] at hP1
  have hK1 := va_K.moved hvm.symm hK1
  obtain ⟨hP, hD⟩ := kx_joinM (w2 := [kx_2 q_t q_row q_joined q_from q_to q_size q_lossOf q_lessBy q_value q_number nodes here, kx_a q_size cyI 319 fs, kx_a q_lossOf cyI 319 fo, kx_a q_value cyI 1914 uv, kx_a q_number cyI 1914 un, kx_3 h0 a_v a_n 0 0 0, kx_a a_v cyI 12 fv, kx_a a_n cyI 12 fn]) hP hD hP1 hD1 hk1 hFc [false, false, false, false, false, true, false, false] hCc rfl
  clear hP1 hD1 hK1 hk1 hz1 hFc hDc hPc hKc hCc
  generalize H1 = H at hP hS ⊢
  have k_0 : (0 : Int32).toInt = 0 := rfl
  refine lv_aload_n hx hb dX2_copyTo_4 rfl (lv_at hl 0 rfl) ?_
  refine lv_aload_n hx hb dX2_copyTo_5 rfl (lv_at hl 1 rfl) ?_
  refine lv_iload_n hx hb dX2_copyTo_6 rfl (lv_at hl 2 rfl) ?_
  have hPc := hP
  have hKc := hK
  have hDc := hD
  have hFc := kx_free hD hS hA
  refine va_callv (va_runV (As := [.ref h0, .int p0]) (rest := []) ⟨hx, hb, hml, hown, hts⟩ (kx_un (c_X2_joinNode l dC dI q_t q_row q_joined q_from q_to q_size q_lossOf q_lessBy q_value q_number nodes here h0 a_v a_n cyI 0 0 0 fv fn fs fo uv un p0 H.size om_35 om_104 b0 b1 s0)) (cwV 2 hts gX2_copyTo_X2_joinNode rfl rfl rfl (by decide +kernel) ⟨Nat.le_of_ble_eq_true rfl, Nat.le_of_ble_eq_true rfl⟩) ⟨fun a U g mk q => by obtain ⟨q0, q1, qP, qK, qD⟩ := q; exact ⟨q0, q1, qP, va_K.moved (u := U) (U := U.calling g mk a) (Vm.Alike.refl U.vm) qK, qD⟩, kx_rc2 hKc hPc (q0 := 0) rfl, fun U hU hW => ⟨rfl, by rw [hU], by rw [hU]; exact hPc, va_K.moved hW.alike hKc, hDc.weaken (fun _ _ _ _ => trivial)⟩⟩ rfl rfl hl.1 rfl (lv_room (Nat.le_of_ble_eq_true rfl)) dX2_copyTo_7 ⟨Nat.le_of_ble_eq_true rfl, Nat.le_of_ble_eq_true rfl⟩) hS (fun q _ h => hFc q h) hFc (fun u t H1 locs ht hvm w_2 hB hz1 hk1 hS => ?_)
  obtain ⟨o_3, o_4, o_5, o_6⟩ := u
  dsimp only at w_2 hB
  obtain ⟨hP1, hK1, hD1⟩ := hB
  rw [ht] at hP1
  have hK1 := va_K.moved hvm.symm hK1
  have hD := hD1.weaken (fun _ q _ h => hFc q.1 h)
  have hP := hP1
  clear hP1 hD1 hK1 hk1 hz1 hFc hDc hPc hKc
  generalize H1 = H at hP hS ⊢
  have w_2 : 0 ≤ o_3.toInt ∧ o_3.toInt ≤ 12 := w_2
  have hP9 := hP
  have hD9 := hD
  have hK9 := hK
  exact W.vret hx hb hr (hlocks := hlocks) (fun t ht hW => ⟨⟨(o_3, o_4, o_5, o_6), rfl, (by (try dsimp only); omega), by rw [ht]; exact hP9, va_K.moved hW.alike hK9, hD9⟩, hS.F ht⟩) hS.2.2 dX2_copyTo_10

set_option maxHeartbeats 4000000 in
set_option maxRecDepth 100000 in
theorem c_X2_isJoined (l : Launch) (dC : Nat → ClassId) (dI : Nat → Nat → Nat) (q_t : Nat) (q_row : Nat) (q_joined : Nat) (q_from : Nat) (q_to : Nat) (q_size : Nat) (q_lossOf : Nat) (q_lessBy : Nat) (q_value : Nat) (q_number : Nat) (nodes : Int32) (here : Int32) (cyI : ClassId) (fs : Nat → Int32) (fo : Nat → Int32) (uv : Nat → Int32) (un : Nat → Int32) (j_v : Nat) (j_n : Nat) (js : Int32) (jl : Int32) (je : Int32) (jv : Nat → Int32) (jn : Nat → Int32) (p0 : Int32) (b0 : 0 ≤ p0.toInt) (b1 : p0.toInt < 319) (j0 : 0 ≤ js.toInt) (j1 : js.toInt ≤ 12) : Met l yX2_isJoined wsX2_isJoined ({ frames := 0, cells := 0, slots := 0, locals := 0 }) (va_Pc [.ref q_t, .int p0] (fun U => va_P (dC, dI) vwCl [kx_2 q_t q_row q_joined q_from q_to q_size q_lossOf q_lessBy q_value q_number nodes here, kx_a q_size cyI 319 fs, kx_a q_lossOf cyI 319 fo, kx_a q_value cyI 1914 uv, kx_a q_number cyI 1914 un, kx_3 q_joined j_v j_n js jl je, kx_a j_v cyI 12 jv, kx_a j_n cyI 12 jn] U.heap ∧ va_K (dC, dI) vwCl [(cyI, .int)] U)) (vp_Si (fun r : Int32 => (r = 1 ∧ (0 : Int) ≤ 1) ∨ (r = 0 ∧ (0 : Int) ≤ 1))) 0 0 (fun _ => False) := by
  refine kx_stS (ws := wsX2_isJoined) (cc := cX2_isJoined) (maxL := 4) (ret := (some .boolean)) (by decide) rfl (Nat.le_of_ble_eq_true rfl) ?_
  intro p e s m below meth c ls hx hb hr hlocks hts hown hml hP hK hl
  have hown : s.vm.findClass RX2 = some m.cls := hown
  have hl : lv_has ls 4 [(0, .ref q_t), (1, .int p0)] := hl
  have hf_25 := hts (.fieldLink RX2 25 "MajorityIndex$Tree" "size" "[I") (List.mem_of_getElem? (i := 1) rfl)
  have hi_2 : ∀ w ∈ u_ws RX2 TX2 11, w ∈ wsX2_isJoined := fun w h => List.mem_cons_of_mem _ (List.mem_append_left _ (List.mem_append_right _ h))
  have hf_12 := hts (.fieldLink RX2 12 "MajorityIndex$Tree" "joined" "LMajorityIndex$Votes;") (List.mem_of_getElem? (i := 2) rfl)
  have hf_94 := hts (.fieldLink RX2 94 "MajorityIndex$Votes" "size" "I") (List.mem_of_getElem? (i := 3) rfl)
  have hi_3 : ∀ w ∈ u_ws RX3 TX3 5, w ∈ wsX2_isJoined := fun w h => List.mem_cons_of_mem _ (List.mem_append_right _ h)
  have hf_28 := hts (.fieldLink RX2 28 "MajorityIndex$Tree" "lossOf" "[I") (List.mem_of_getElem? (i := 4) rfl)
  have hf_91 := hts (.fieldLink RX2 91 "MajorityIndex$Votes" "lost" "I") (List.mem_of_getElem? (i := 5) rfl)
  have hf_34 := hts (.fieldLink RX2 34 "MajorityIndex$Tree" "value" "[I") (List.mem_of_getElem? (i := 6) rfl)
  have hf_96 := hts (.fieldLink RX2 96 "MajorityIndex$Votes" "value" "[I") (List.mem_of_getElem? (i := 7) rfl)
  have hf_37 := hts (.fieldLink RX2 37 "MajorityIndex$Tree" "number" "[I") (List.mem_of_getElem? (i := 8) rfl)
  have hf_97 := hts (.fieldLink RX2 97 "MajorityIndex$Votes" "number" "[I") (List.mem_of_getElem? (i := 9) rfl)
  refine lv_aload_n hx hb dX2_isJoined_0 rfl (lv_at hl 0 rfl) ?_
  refine va_get (D := (dC, dI)) (ci := 2) (v := .ref q_size) (C := RX2) (T := TX2) (N := 11) hx hb hts hi_2 hown hK hP 0 rfl rfl 4 (by decide) hf_25 (fun _ h9 => h9) rfl dX2_isJoined_1 ?_
  refine lv_iload_n hx hb dX2_isJoined_4 rfl (lv_at hl 1 rfl) ?_
  refine va_iald hx hb hK hP 1 0 rfl rfl (ki_in (om_10 b0) (om_61 b1)) dX2_isJoined_5 ?_
  refine lv_topi (fun y_1 ey_1 => ?_)
  have j_1 : y_1.toInt = (fs p0.toNatClampNeg).toInt := congrArg Int32.toInt ey_1
  refine lv_aload_n hx hb dX2_isJoined_6 rfl (lv_at hl 0 rfl) ?_
  refine va_get (D := (dC, dI)) (ci := 2) (v := .ref q_joined) (C := RX2) (T := TX2) (N := 11) hx hb hts hi_2 hown hK hP 0 rfl rfl 1 (by decide) hf_12 (fun _ h9 => h9) rfl dX2_isJoined_7 ?_
  refine va_get (D := (dC, dI)) (ci := 3) (v := .int js) (C := RX3) (T := TX3) (N := 5) hx hb hts hi_3 hown hK hP 5 rfl rfl 2 (by decide) hf_94 (fun _ h9 => h9) rfl dX2_isJoined_10 ?_
  refine lv_icmp_ne (tgt := 32) hx hb dX2_isJoined_13 (by decide) (fun c_2 => ?_) (fun c_2 => ?_)
  · have i_2 : ¬ y_1.toInt = js.toInt := kc_ne c_2
    refine lv_iconst (v := 0) hx hb dX2_isJoined_32 (by decide) ?_
    exact W.zret (v := 0) hx hb hr (by decide) (hlocks := hlocks) (fun t ht hW => ⟨0, rfl, Or.inr (⟨rfl, om_29⟩), ht⟩) (fun q hq => by cases hq) dX2_isJoined_33
  · have i_2 : y_1.toInt = js.toInt := kc_eq c_2
    refine lv_aload_n hx hb dX2_isJoined_16 rfl (lv_at hl 0 rfl) ?_
    refine va_get (D := (dC, dI)) (ci := 2) (v := .ref q_lossOf) (C := RX2) (T := TX2) (N := 11) hx hb hts hi_2 hown hK hP 0 rfl rfl 5 (by decide) hf_28 (fun _ h9 => h9) rfl dX2_isJoined_17 ?_
    refine lv_iload_n hx hb dX2_isJoined_20 rfl (lv_at hl 1 rfl) ?_
    refine va_iald hx hb hK hP 2 0 rfl rfl (ki_in (om_10 b0) (om_61 b1)) dX2_isJoined_21 ?_
    refine lv_topi (fun y_3 ey_3 => ?_)
    have j_3 : y_3.toInt = (fo p0.toNatClampNeg).toInt := congrArg Int32.toInt ey_3
    refine lv_aload_n hx hb dX2_isJoined_22 rfl (lv_at hl 0 rfl) ?_
    refine va_get (D := (dC, dI)) (ci := 2) (v := .ref q_joined) (C := RX2) (T := TX2) (N := 11) hx hb hts hi_2 hown hK hP 0 rfl rfl 1 (by decide) hf_12 (fun _ h9 => h9) rfl dX2_isJoined_23 ?_
    refine va_get (D := (dC, dI)) (ci := 3) (v := .int jl) (C := RX3) (T := TX3) (N := 5) hx hb hts hi_3 hown hK hP 5 rfl rfl 3 (by decide) hf_91 (fun _ h9 => h9) rfl dX2_isJoined_26 ?_
    refine lv_icmp_eq (tgt := 34) hx hb dX2_isJoined_29 (by decide) (fun c_4 => ?_) (fun c_4 => ?_)
    · have i_4 : y_3.toInt = jl.toInt := kc_eq c_4
      refine lv_iload_n hx hb dX2_isJoined_34 rfl (lv_at hl 1 rfl) ?_
      refine lv_bipush (v := 6) hx hb dX2_isJoined_35 (by decide) ?_
      refine lv_imul hx hb dX2_isJoined_37 ?_
      refine lv_topi (fun y_5 ey_5 => ?_)
      have i_5 : y_5.toInt = p0.toInt * 6 := ki_mul ey_5 rfl rfl (om_95 b0) (om_96 b1)
      refine lv_istore_n (lv' := [(2, .int y_5), (0, .ref q_t), (1, .int p0)]) hx hb dX2_isJoined_38 rfl hl (by decide) rfl (fun ls hl => ?_)
      refine lv_iconst (v := 0) hx hb dX2_isJoined_39 (by decide) ?_
      refine lv_istore_n (lv' := [(3, .int 0), (2, .int y_5), (0, .ref q_t), (1, .int p0)]) hx hb dX2_isJoined_40 rfl hl (by decide) rfl (fun ls hl => ?_)
      have LP1 : ∀ (n : Nat) (i : Int32), (0 ≤ i.toInt) → (6 - i.toInt).toNat < n → ∀ (ls : Array Slot), lv_has ls 4 [(3, .int i), (2, .int y_5), (0, .ref q_t), (1, .int p0)] → W p l e (headSpec wsX2_isJoined ({ frames := 0, cells := 0, slots := 0, locals := 0 })).room s m ([.ref q_t, .int p0] : List Value).toArray below meth c s.heap [] 0 0 (MQ below (vp_Si (fun r : Int32 => (r = 1 ∧ (0 : Int) ≤ 1) ∨ (r = 0 ∧ (0 : Int) ≤ 1))) ([.ref q_t, .int p0] : List Value).toArray s 0 0 (fun _ => False)) (F0 m 41 ls []) := by
        intro n
        induction n with
        | zero => intro i LP1_h0 hn; exact absurd hn (Nat.not_lt_zero _)
        | succ n ih1 =>
          intro i LP1_h0 hn1 ls hl
          refine lv_iload_n hx hb dX2_isJoined_41 rfl (lv_at hl 0 rfl) ?_
          refine lv_aload_n hx hb dX2_isJoined_42 rfl (lv_at hl 2 rfl) ?_
          refine va_get (D := (dC, dI)) (ci := 2) (v := .ref q_joined) (C := RX2) (T := TX2) (N := 11) hx hb hts hi_2 hown hK hP 0 rfl rfl 1 (by decide) hf_12 (fun _ h9 => h9) rfl dX2_isJoined_43 ?_
          refine va_get (D := (dC, dI)) (ci := 3) (v := .int js) (C := RX3) (T := TX3) (N := 5) hx hb hts hi_3 hown hK hP 5 rfl rfl 2 (by decide) hf_94 (fun _ h9 => h9) rfl dX2_isJoined_46 ?_
          refine lv_icmp_ge (tgt := 106) hx hb dX2_isJoined_49 (by decide) (fun c_6 => ?_) (fun c_6 => ?_)
          · have i_6 : js.toInt ≤ i.toInt := kc_le c_6
            refine lv_iconst (v := 1) hx hb dX2_isJoined_106 (by decide) ?_
            exact W.zret (v := 1) hx hb hr (by decide) (hlocks := hlocks) (fun t ht hW => ⟨1, rfl, Or.inl ⟨rfl, om_29⟩, ht⟩) (fun q hq => by cases hq) dX2_isJoined_107
          · have i_6 : i.toInt < js.toInt := kc_nle c_6
            refine lv_iload_n hx hb dX2_isJoined_52 rfl (lv_at hl 0 rfl) ?_
            refine lv_bipush (v := 6) hx hb dX2_isJoined_53 (by decide) ?_
            refine lv_icmp_ge (tgt := 106) hx hb dX2_isJoined_55 (by decide) (fun c_7 => ?_) (fun c_7 => ?_)
            · have i_7 : 6 ≤ i.toInt := kc_le c_7
              refine lv_iconst (v := 1) hx hb dX2_isJoined_106 (by decide) ?_
              exact W.zret (v := 1) hx hb hr (by decide) (hlocks := hlocks) (fun t ht hW => ⟨1, rfl, Or.inl ⟨rfl, om_29⟩, ht⟩) (fun q hq => by cases hq) dX2_isJoined_107
            · have i_7 : i.toInt < 6 := kc_nle c_7
              refine lv_aload_n hx hb dX2_isJoined_58 rfl (lv_at hl 2 rfl) ?_
              refine va_get (D := (dC, dI)) (ci := 2) (v := .ref q_value) (C := RX2) (T := TX2) (N := 11) hx hb hts hi_2 hown hK hP 0 rfl rfl 7 (by decide) hf_34 (fun _ h9 => h9) rfl dX2_isJoined_59 ?_
              refine lv_iload_n hx hb dX2_isJoined_62 rfl (lv_at hl 1 rfl) ?_
              refine lv_iload_n hx hb dX2_isJoined_63 rfl (lv_at hl 0 rfl) ?_
              refine lv_iadd hx hb dX2_isJoined_64 ?_
              refine lv_topi (fun y_8 ey_8 => ?_)
              have i_8 : y_8.toInt = y_5.toInt + i.toInt := ki_add ey_8 rfl rfl (om_97 b0 i_5 LP1_h0) (om_105 b1 i_5 i_7)
              refine va_iald hx hb hK hP 3 0 rfl rfl (ki_in (om_99 b0 i_5 LP1_h0 i_8) (om_106 b1 i_5 i_7 i_8)) dX2_isJoined_65 ?_
              refine lv_topi (fun y_9 ey_9 => ?_)
              have j_9 : y_9.toInt = (uv y_8.toNatClampNeg).toInt := congrArg Int32.toInt ey_9
              refine lv_aload_n hx hb dX2_isJoined_66 rfl (lv_at hl 2 rfl) ?_
              refine va_get (D := (dC, dI)) (ci := 2) (v := .ref q_joined) (C := RX2) (T := TX2) (N := 11) hx hb hts hi_2 hown hK hP 0 rfl rfl 1 (by decide) hf_12 (fun _ h9 => h9) rfl dX2_isJoined_67 ?_
              refine va_get (D := (dC, dI)) (ci := 3) (v := .ref j_v) (C := RX3) (T := TX3) (N := 5) hx hb hts hi_3 hown hK hP 5 rfl rfl 0 (by decide) hf_96 (fun _ h9 => h9) rfl dX2_isJoined_70 ?_
              refine lv_iload_n hx hb dX2_isJoined_73 rfl (lv_at hl 0 rfl) ?_
              refine va_iald hx hb hK hP 6 0 rfl rfl (ki_in (om_10 LP1_h0) (om_107 i_7)) dX2_isJoined_74 ?_
              refine lv_topi (fun y_10 ey_10 => ?_)
              have j_10 : y_10.toInt = (jv i.toNatClampNeg).toInt := congrArg Int32.toInt ey_10
              refine lv_icmp_ne (tgt := 98) hx hb dX2_isJoined_75 (by decide) (fun c_11 => ?_) (fun c_11 => ?_)
              · have i_11 : ¬ y_9.toInt = y_10.toInt := kc_ne c_11
                refine lv_iconst (v := 0) hx hb dX2_isJoined_98 (by decide) ?_
                exact W.zret (v := 0) hx hb hr (by decide) (hlocks := hlocks) (fun t ht hW => ⟨0, rfl, Or.inr (⟨rfl, om_29⟩), ht⟩) (fun q hq => by cases hq) dX2_isJoined_99
              · have i_11 : y_9.toInt = y_10.toInt := kc_eq c_11
                refine lv_aload_n hx hb dX2_isJoined_78 rfl (lv_at hl 2 rfl) ?_
                refine va_get (D := (dC, dI)) (ci := 2) (v := .ref q_number) (C := RX2) (T := TX2) (N := 11) hx hb hts hi_2 hown hK hP 0 rfl rfl 8 (by decide) hf_37 (fun _ h9 => h9) rfl dX2_isJoined_79 ?_
                refine lv_iload_n hx hb dX2_isJoined_82 rfl (lv_at hl 1 rfl) ?_
                refine lv_iload_n hx hb dX2_isJoined_83 rfl (lv_at hl 0 rfl) ?_
                refine lv_iadd hx hb dX2_isJoined_84 ?_
                refine lv_topi (fun y_12 ey_12 => ?_)
                have i_12 : y_12.toInt = y_5.toInt + i.toInt := ki_add ey_12 rfl rfl (om_97 b0 i_5 LP1_h0) (om_105 b1 i_5 i_7)
                refine va_iald hx hb hK hP 4 0 rfl rfl (ki_in (om_99 b0 i_5 LP1_h0 i_12) (om_106 b1 i_5 i_7 i_12)) dX2_isJoined_85 ?_
                refine lv_topi (fun y_13 ey_13 => ?_)
                have j_13 : y_13.toInt = (un y_12.toNatClampNeg).toInt := congrArg Int32.toInt ey_13
                refine lv_aload_n hx hb dX2_isJoined_86 rfl (lv_at hl 2 rfl) ?_
                refine va_get (D := (dC, dI)) (ci := 2) (v := .ref q_joined) (C := RX2) (T := TX2) (N := 11) hx hb hts hi_2 hown hK hP 0 rfl rfl 1 (by decide) hf_12 (fun _ h9 => h9) rfl dX2_isJoined_87 ?_
                refine va_get (D := (dC, dI)) (ci := 3) (v := .ref j_n) (C := RX3) (T := TX3) (N := 5) hx hb hts hi_3 hown hK hP 5 rfl rfl 1 (by decide) hf_97 (fun _ h9 => h9) rfl dX2_isJoined_90 ?_
                refine lv_iload_n hx hb dX2_isJoined_93 rfl (lv_at hl 0 rfl) ?_
                refine va_iald hx hb hK hP 7 0 rfl rfl (ki_in (om_10 LP1_h0) (om_107 i_7)) dX2_isJoined_94 ?_
                refine lv_topi (fun y_14 ey_14 => ?_)
                have j_14 : y_14.toInt = (jn i.toNatClampNeg).toInt := congrArg Int32.toInt ey_14
                refine lv_icmp_eq (tgt := 100) hx hb dX2_isJoined_95 (by decide) (fun c_15 => ?_) (fun c_15 => ?_)
                · have i_15 : y_13.toInt = y_14.toInt := kc_eq c_15
                  obtain ⟨x_16, ex_16⟩ : ∃ y : Int32, y = i + 1 := ⟨_, rfl⟩
                  have i_16 : x_16.toInt = i.toInt + 1 := ki_add ex_16 rfl rfl (om_13 LP1_h0) (om_108 i_7)
                  refine lv_iinc (v := x_16) (lv' := [(3, .int x_16), (2, .int y_5), (0, .ref q_t), (1, .int p0)]) hx hb dX2_isJoined_100 hl (k := 0) rfl (by rw [ex_16]; rfl) (by decide) rfl (fun ls hl => ?_)
                  refine lv_goto (tgt := 41) hx hb dX2_isJoined_103 (by decide) ?_
                  exact ih1 x_16 (om_34 LP1_h0 i_16) (om_mu hn1 (om_102 i_16) (om_109 i_7)) ls (lv_sub hl [0, 1, 2, 3] rfl)
                · have i_15 : ¬ y_13.toInt = y_14.toInt := kc_ne c_15
                  refine lv_iconst (v := 0) hx hb dX2_isJoined_98 (by decide) ?_
                  exact W.zret (v := 0) hx hb hr (by decide) (hlocks := hlocks) (fun t ht hW => ⟨0, rfl, Or.inr (⟨rfl, om_29⟩), ht⟩) (fun q hq => by cases hq) dX2_isJoined_99
      have k_17 : (0 : Int32).toInt = 0 := rfl
      exact LP1 ((6 - 0 : Int).toNat + 1) 0 om_35 (Nat.lt_succ_self _) ls (lv_sub hl [0, 1, 2, 3] rfl)
    · have i_4 : ¬ y_3.toInt = jl.toInt := kc_ne c_4
      refine lv_iconst (v := 0) hx hb dX2_isJoined_32 (by decide) ?_
      exact W.zret (v := 0) hx hb hr (by decide) (hlocks := hlocks) (fun t ht hW => ⟨0, rfl, Or.inr (⟨rfl, om_29⟩), ht⟩) (fun q hq => by cases hq) dX2_isJoined_33

set_option maxHeartbeats 4000000 in
set_option maxRecDepth 100000 in
theorem c_X2_putTogether (l : Launch) (dC : Nat → ClassId) (dI : Nat → Nat → Nat) (q_t : Nat) (q_row : Nat) (q_joined : Nat) (q_from : Nat) (q_to : Nat) (q_size : Nat) (q_lossOf : Nat) (q_lessBy : Nat) (q_value : Nat) (q_number : Nat) (nodes : Int32) (here : Int32) (q_cell : Nat) (cyI : ClassId) (len : Int32) (f : Nat → Int32) (ff : Nat → Int32) (ft : Nat → Int32) (fs : Nat → Int32) (fo : Nat → Int32) (uv : Nat → Int32) (un : Nat → Int32) (j_v : Nat) (j_n : Nat) (js : Int32) (jl : Int32) (je : Int32) (jv : Nat → Int32) (jn : Nat → Int32) (p0 : Int32) (sz : Nat) (b0 : 0 ≤ p0.toInt) (b1 : p0.toInt < nodes.toInt) (c0 : nodes.toInt ≤ 319) (c1 : len.toInt ≤ 160) (s0 : sixes fs) (t0 : treeOk ff ft nodes.toInt len.toInt) : kx_MQ l (dC, dI) yX2_putTogether wsX2_putTogether ({ frames := 3, cells := 0, slots := 0, locals := 135 }) [.ref q_t, .int p0] [kx_2 q_t q_row q_joined q_from q_to q_size q_lossOf q_lessBy q_value q_number nodes here, kx_0 q_row q_cell len, kx_a q_cell cyI 160 f, kx_a q_from cyI 319 ff, kx_a q_to cyI 319 ft, kx_a q_size cyI 319 fs, kx_a q_lossOf cyI 319 fo, kx_a q_value cyI 1914 uv, kx_a q_number cyI 1914 un, kx_3 q_joined j_v j_n js jl je, kx_a j_v cyI 12 jv, kx_a j_n cyI 12 jn] [(cyI, .int)] sz (fun A => va_Qv (fun u : Int32 × Int32 × Int32 × (Nat → Int32) × (Nat → Int32) => 0 ≤ u.1.toInt ∧ u.1.toInt ≤ 12) (fun (u : Int32 × Int32 × Int32 × (Nat → Int32) × (Nat → Int32)) (t : State) => va_P (dC, dI) vwCl [kx_2 q_t q_row q_joined q_from q_to q_size q_lossOf q_lessBy q_value q_number nodes here, kx_0 q_row q_cell len, kx_a q_cell cyI 160 f, kx_a q_from cyI 319 ff, kx_a q_to cyI 319 ft, kx_a q_size cyI 319 fs, kx_a q_lossOf cyI 319 fo, kx_a q_value cyI 1914 uv, kx_a q_number cyI 1914 un, kx_3 q_joined j_v j_n u.1 u.2.1 u.2.2.1, kx_a j_v cyI 12 u.2.2.2.1, kx_a j_n cyI 12 u.2.2.2.2] t.heap ∧ va_K (dC, dI) vwCl [(cyI, .int)] t ∧ va_D A [kx_2 q_t q_row q_joined q_from q_to q_size q_lossOf q_lessBy q_value q_number nodes here, kx_0 q_row q_cell len, kx_a q_cell cyI 160 f, kx_a q_from cyI 319 ff, kx_a q_to cyI 319 ft, kx_a q_size cyI 319 fs, kx_a q_lossOf cyI 319 fo, kx_a q_value cyI 1914 uv, kx_a q_number cyI 1914 un, kx_3 q_joined j_v j_n u.1 u.2.1 u.2.2.1, kx_a j_v cyI 12 u.2.2.2.1, kx_a j_n cyI 12 u.2.2.2.2]) A) := by
  refine kx_stQ (ws := wsX2_putTogether) (cc := cX2_putTogether) (maxL := 2) (ret := none) (by decide) rfl (Nat.le_of_ble_eq_true rfl) ?_
  intro p e s m below meth c A ls hx hb hr hlocks hts hown hml hA hS hP hK hD hl
  have hown : s.vm.findClass RX2 = some m.cls := hown
  have hl : lv_has ls 2 [(0, .ref q_t), (1, .int p0)] := hl
  have hf_12 := hts (.fieldLink RX2 12 "MajorityIndex$Tree" "joined" "LMajorityIndex$Votes;") (List.mem_of_getElem? (i := 1) rfl)
  have hi_2 : ∀ w ∈ u_ws RX2 TX2 11, w ∈ wsX2_putTogether := fun w h => List.mem_cons_of_mem _ (List.mem_append_left _ (List.mem_append_left _ (List.mem_append_right _ h)))
  have hf_22 := hts (.fieldLink RX2 22 "MajorityIndex$Tree" "to" "[I") (List.mem_of_getElem? (i := 2) rfl)
  have hf_18 := hts (.fieldLink RX2 18 "MajorityIndex$Tree" "from" "[I") (List.mem_of_getElem? (i := 3) rfl)
  have hf_85 := hts (.fieldLink RX2 85 "MajorityIndex$Tree" "slotsHere" "I") (List.mem_of_getElem? (i := 6) rfl)
  have hf_40 := hts (.fieldLink RX2 40 "MajorityIndex$Tree" "row" "LMajorityIndex$Row;") (List.mem_of_getElem? (i := 4) rfl)
  have hf_74 := hts (.fieldLink RX2 74 "MajorityIndex$Row" "cell" "[I") (List.mem_of_getElem? (i := 5) rfl)
  have hi_0 : ∀ w ∈ u_ws RX0 TX0 2, w ∈ wsX2_putTogether := fun w h => List.mem_cons_of_mem _ (List.mem_append_left _ (List.mem_append_right _ h))
  refine lv_aload_n hx hb dX2_putTogether_0 rfl (lv_at hl 0 rfl) ?_
  refine va_get (D := (dC, dI)) (ci := 2) (v := .ref q_joined) (C := RX2) (T := TX2) (N := 11) hx hb hts hi_2 hown hK hP 0 rfl rfl 1 (by decide) hf_12 (fun _ h9 => h9) rfl dX2_putTogether_1 ?_
  obtain ⟨hPc, hDc, hFc, hCc⟩ := kx_preM (wc := [kx_3 q_joined j_v j_n js jl je]) hP hD hS hA [false, false, false, false, false, false, false, false, false, true, false, false] rfl
  have hKc := hK.sub (tys' := []) [] rfl
  refine va_callv (va_runV (As := []) (rest := []) ⟨hx, hb, hml, hown, hts⟩ (kx_un (c_X3_clear l dC dI q_joined j_v j_n js jl je s.heap.size)) (cwV 0 hts gX2_putTogether_X3_clear rfl rfl rfl (by decide +kernel) ⟨Nat.le_of_ble_eq_true rfl, Nat.le_of_ble_eq_true rfl⟩) ⟨fun a U g mk q => by obtain ⟨q0, q1, qP, qK, qD⟩ := q; exact ⟨q0, q1, qP, va_K.moved (u := U) (U := U.calling g mk a) (Vm.Alike.refl U.vm) qK, qD⟩, kx_rc3 hKc hPc (q0 := 0) rfl, fun U hU hW => ⟨rfl, by rw [hU], by rw [hU]; exact hPc, va_K.moved hW.alike hKc, hDc.weaken (fun _ _ _ _ => trivial)⟩⟩ rfl rfl hl.1 rfl (lv_room (Nat.le_of_ble_eq_true rfl)) dX2_putTogether_4 ⟨Nat.le_of_ble_eq_true rfl, Nat.le_of_ble_eq_true rfl⟩) hS (fun q _ h => hFc q h) hFc (fun u t H1 locs ht hvm w_1 hB hz1 hk1 hS => ?_)
  obtain ⟨hP1, hK1, hD1⟩ := hB
  rw [ht] at hP1
  have hK1 := va_K.moved hvm.symm hK1
  obtain ⟨hP, hD⟩ := kx_joinM (w2 := [kx_2 q_t q_row q_joined q_from q_to q_size q_lossOf q_lessBy q_value q_number nodes here, kx_0 q_row q_cell len, kx_a q_cell cyI 160 f, kx_a q_from cyI 319 ff, kx_a q_to cyI 319 ft, kx_a q_size cyI 319 fs, kx_a q_lossOf cyI 319 fo, kx_a q_value cyI 1914 uv, kx_a q_number cyI 1914 un, kx_3 q_joined j_v j_n 0 0 0, kx_a j_v cyI 12 jv, kx_a j_n cyI 12 jn]) hP hD hP1 hD1 hk1 hFc [false, false, false, false, false, false, false, false, false, true, false, false] hCc rfl
  clear hP1 hD1 hK1 hk1 hz1 hFc hDc hPc hKc hCc
  generalize H1 = H at hP hS ⊢
  have k_0 : (0 : Int32).toInt = 0 := rfl
  refine lv_aload_n hx hb dX2_putTogether_7 rfl (lv_at hl 0 rfl) ?_
  refine va_get (D := (dC, dI)) (ci := 2) (v := .ref q_to) (C := RX2) (T := TX2) (N := 11) hx hb hts hi_2 hown hK hP 0 rfl rfl 3 (by decide) hf_22 (fun _ h9 => h9) rfl dX2_putTogether_8 ?_
  refine lv_iload_n hx hb dX2_putTogether_11 rfl (lv_at hl 1 rfl) ?_
  refine va_iald hx hb hK hP 4 0 rfl rfl (ki_in (om_10 b0) (om_110 b1 c0)) dX2_putTogether_12 ?_
  refine lv_topi (fun y_2 ey_2 => ?_)
  have j_2 : y_2.toInt = (ft p0.toNatClampNeg).toInt := congrArg Int32.toInt ey_2
  have n_3 : (p0.toNatClampNeg : Int) = p0.toInt := ki_nat _ rfl (om_10 b0)
  have i_4 := t0 p0.toNatClampNeg (by omega)
  unfold okAt at i_4
  refine lv_aload_n hx hb dX2_putTogether_13 rfl (lv_at hl 0 rfl) ?_
  refine va_get (D := (dC, dI)) (ci := 2) (v := .ref q_from) (C := RX2) (T := TX2) (N := 11) hx hb hts hi_2 hown hK hP 0 rfl rfl 2 (by decide) hf_18 (fun _ h9 => h9) rfl dX2_putTogether_14 ?_
  refine lv_iload_n hx hb dX2_putTogether_17 rfl (lv_at hl 1 rfl) ?_
  refine va_iald hx hb hK hP 3 0 rfl rfl (ki_in (om_10 b0) (om_110 b1 c0)) dX2_putTogether_18 ?_
  refine lv_topi (fun y_5 ey_5 => ?_)
  have j_5 : y_5.toInt = (ff p0.toNatClampNeg).toInt := congrArg Int32.toInt ey_5
  have n_6 : (p0.toNatClampNeg : Int) = p0.toInt := ki_nat _ rfl (om_10 b0)
  have i_7 := t0 p0.toNatClampNeg (by omega)
  unfold okAt at i_7
  refine lv_isub hx hb dX2_putTogether_19 ?_
  refine lv_topi (fun y_8 ey_8 => ?_)
  have i_8 : y_8.toInt = y_2.toInt - y_5.toInt := ki_sub ey_8 rfl rfl (by omega) (by omega)
  refine lv_iconst (v := 1) hx hb dX2_putTogether_20 (by decide) ?_
  refine lv_icmp_ne (tgt := 49) hx hb dX2_putTogether_21 (by decide) (fun c_9 => ?_) (fun c_9 => ?_)
  · have i_9 : ¬ y_8.toInt = 1 := kc_ne c_9
    refine lv_aload_n hx hb dX2_putTogether_49 rfl (lv_at hl 0 rfl) ?_
    refine lv_aload_n hx hb dX2_putTogether_50 rfl (lv_at hl 0 rfl) ?_
    refine va_get (D := (dC, dI)) (ci := 2) (v := .ref q_joined) (C := RX2) (T := TX2) (N := 11) hx hb hts hi_2 hown hK hP 0 rfl rfl 1 (by decide) hf_12 (fun _ h9 => h9) rfl dX2_putTogether_51 ?_
    refine lv_iload_n hx hb dX2_putTogether_54 rfl (lv_at hl 1 rfl) ?_
    refine lv_iconst (v := 1) hx hb dX2_putTogether_55 (by decide) ?_
    refine lv_iadd hx hb dX2_putTogether_56 ?_
    refine lv_topi (fun y_10 ey_10 => ?_)
    have i_10 : y_10.toInt = p0.toInt + 1 := ki_add ey_10 rfl rfl (om_13 b0) (om_111 b1 c0)
    obtain ⟨hPc, hDc, hFc, hCc⟩ := kx_preM (wc := [kx_2 q_t q_row q_joined q_from q_to q_size q_lossOf q_lessBy q_value q_number nodes here, kx_a q_size cyI 319 fs, kx_a q_lossOf cyI 319 fo, kx_a q_value cyI 1914 uv, kx_a q_number cyI 1914 un, kx_3 q_joined j_v j_n 0 0 0, kx_a j_v cyI 12 jv, kx_a j_n cyI 12 jn]) hP hD hS hA [true, false, false, false, false, true, true, true, true, true, true, true] rfl
    have hKc := hK
    refine va_callv (va_runV (As := [.ref q_joined, .int y_10]) (rest := []) ⟨hx, hb, hml, hown, hts⟩ (kx_un (c_X2_joinNode l dC dI q_t q_row q_joined q_from q_to q_size q_lossOf q_lessBy q_value q_number nodes here q_joined j_v j_n cyI 0 0 0 jv jn fs fo uv un y_10 H.size om_35 om_104 (om_34 b0 i_10) (by omega) s0)) (cwV 2 hts gX2_putTogether_X2_joinNode rfl rfl rfl (by decide +kernel) ⟨Nat.le_of_ble_eq_true rfl, Nat.le_of_ble_eq_true rfl⟩) ⟨fun a U g mk q => by obtain ⟨q0, q1, qP, qK, qD⟩ := q; exact ⟨q0, q1, qP, va_K.moved (u := U) (U := U.calling g mk a) (Vm.Alike.refl U.vm) qK, qD⟩, kx_rc2 hKc hPc (q0 := 0) rfl, fun U hU hW => ⟨rfl, by rw [hU], by rw [hU]; exact hPc, va_K.moved hW.alike hKc, hDc.weaken (fun _ _ _ _ => trivial)⟩⟩ rfl rfl hl.1 rfl (lv_room (Nat.le_of_ble_eq_true rfl)) dX2_putTogether_57 ⟨Nat.le_of_ble_eq_true rfl, Nat.le_of_ble_eq_true rfl⟩) hS (fun q _ h => hFc q h) hFc (fun u t H1 locs ht hvm w_11 hB hz1 hk1 hS => ?_)
    obtain ⟨o_12, o_13, o_14, o_15⟩ := u
    dsimp only at w_11 hB
    obtain ⟨hP1, hK1, hD1⟩ := hB
    rw [ht] at hP1
    have hK1 := va_K.moved hvm.symm hK1
    obtain ⟨hP, hD⟩ := kx_joinM (w2 := [kx_2 q_t q_row q_joined q_from q_to q_size q_lossOf q_lessBy q_value q_number nodes here, kx_0 q_row q_cell len, kx_a q_cell cyI 160 f, kx_a q_from cyI 319 ff, kx_a q_to cyI 319 ft, kx_a q_size cyI 319 fs, kx_a q_lossOf cyI 319 fo, kx_a q_value cyI 1914 uv, kx_a q_number cyI 1914 un, kx_3 q_joined j_v j_n o_12 o_13 0, kx_a j_v cyI 12 o_14, kx_a j_n cyI 12 o_15]) hP hD hP1 hD1 hk1 hFc [true, false, false, false, false, true, true, true, true, true, true, true] hCc rfl
    clear hP1 hD1 hK1 hk1 hz1 hFc hDc hPc hKc hCc
    generalize H1 = H at hP hS ⊢
    have w_11 : 0 ≤ o_12.toInt ∧ o_12.toInt ≤ 12 := w_11
    refine lv_aload_n hx hb dX2_putTogether_60 rfl (lv_at hl 0 rfl) ?_
    refine lv_aload_n hx hb dX2_putTogether_61 rfl (lv_at hl 0 rfl) ?_
    refine va_get (D := (dC, dI)) (ci := 2) (v := .ref q_joined) (C := RX2) (T := TX2) (N := 11) hx hb hts hi_2 hown hK hP 0 rfl rfl 1 (by decide) hf_12 (fun _ h9 => h9) rfl dX2_putTogether_62 ?_
    refine lv_aload_n hx hb dX2_putTogether_65 rfl (lv_at hl 0 rfl) ?_
    refine lv_iload_n hx hb dX2_putTogether_66 rfl (lv_at hl 1 rfl) ?_
    have hPc := hP.sub (ws' := [kx_2 q_t q_row q_joined q_from q_to q_size q_lossOf q_lessBy q_value q_number nodes here, kx_a q_from cyI 319 ff, kx_a q_to cyI 319 ft]) [0, 3, 4] rfl
    have hKc := hK
    refine vp_callSi (W.runV (As := [.int p0]) (rest := [.ref q_joined, .ref q_t]) ⟨hx, hb, hml, hown, hts⟩ (c_X2_rightBelow l dC dI q_t q_row q_joined q_from q_to q_size q_lossOf q_lessBy q_value q_number nodes here cyI ff ft p0 b0 (om_112 b1 c0) (by omega) (by omega) (by omega)) (cwV 1 hts gX2_putTogether_X2_rightBelow rfl rfl rfl (by decide +kernel) ⟨Nat.le_of_ble_eq_true rfl, Nat.le_of_ble_eq_true rfl⟩) ⟨fun a U g mk q => by obtain ⟨q0, qP, qK⟩ := q; exact ⟨q0, qP, va_K.moved (u := U) (U := U.calling g mk a) (Vm.Alike.refl U.vm) qK⟩, kx_rc2 hKc hPc (q0 := 0) rfl, fun U hU hW => ⟨rfl, by rw [hU]; exact hPc, va_K.moved hW.alike hKc⟩⟩ rfl rfl hl.1 rfl (lv_room (Nat.le_of_ble_eq_true rfl)) dX2_putTogether_67 ⟨Nat.le_of_ble_eq_true rfl, Nat.le_of_ble_eq_true rfl⟩) (fun r_16 w_16 => ?_)
    have w_16 : r_16.toInt = p0.toInt + 2 * (((ff p0.toNatClampNeg).toInt + (ft p0.toNatClampNeg).toInt) / 2 - (ff p0.toNatClampNeg).toInt) := w_16
    obtain ⟨hPc, hDc, hFc, hCc⟩ := kx_preM (wc := [kx_2 q_t q_row q_joined q_from q_to q_size q_lossOf q_lessBy q_value q_number nodes here, kx_a q_size cyI 319 fs, kx_a q_lossOf cyI 319 fo, kx_a q_value cyI 1914 uv, kx_a q_number cyI 1914 un, kx_3 q_joined j_v j_n o_12 o_13 0, kx_a j_v cyI 12 o_14, kx_a j_n cyI 12 o_15]) hP hD hS hA [true, false, false, false, false, true, true, true, true, true, true, true] rfl
    have hKc := hK
    refine va_callv (va_runV (As := [.ref q_joined, .int r_16]) (rest := []) ⟨hx, hb, hml, hown, hts⟩ (kx_un (c_X2_joinNode l dC dI q_t q_row q_joined q_from q_to q_size q_lossOf q_lessBy q_value q_number nodes here q_joined j_v j_n cyI o_12 o_13 0 o_14 o_15 fs fo uv un r_16 H.size w_11.1 w_11.2 (by omega) (by omega) s0)) (cwV 2 hts gX2_putTogether_X2_joinNode rfl rfl rfl (by decide +kernel) ⟨Nat.le_of_ble_eq_true rfl, Nat.le_of_ble_eq_true rfl⟩) ⟨fun a U g mk q => by obtain ⟨q0, q1, qP, qK, qD⟩ := q; exact ⟨q0, q1, qP, va_K.moved (u := U) (U := U.calling g mk a) (Vm.Alike.refl U.vm) qK, qD⟩, kx_rc2 hKc hPc (q0 := 0) rfl, fun U hU hW => ⟨rfl, by rw [hU], by rw [hU]; exact hPc, va_K.moved hW.alike hKc, hDc.weaken (fun _ _ _ _ => trivial)⟩⟩ rfl rfl hl.1 rfl (lv_room (Nat.le_of_ble_eq_true rfl)) dX2_putTogether_70 ⟨Nat.le_of_ble_eq_true rfl, Nat.le_of_ble_eq_true rfl⟩) hS (fun q _ h => hFc q h) hFc (fun u t H1 locs ht hvm w_17 hB hz1 hk1 hS => ?_)
    obtain ⟨o_18, o_19, o_20, o_21⟩ := u
    dsimp only at w_17 hB
    obtain ⟨hP1, hK1, hD1⟩ := hB
    rw [ht] at hP1
    have hK1 := va_K.moved hvm.symm hK1
    obtain ⟨hP, hD⟩ := kx_joinM (w2 := [kx_2 q_t q_row q_joined q_from q_to q_size q_lossOf q_lessBy q_value q_number nodes here, kx_0 q_row q_cell len, kx_a q_cell cyI 160 f, kx_a q_from cyI 319 ff, kx_a q_to cyI 319 ft, kx_a q_size cyI 319 fs, kx_a q_lossOf cyI 319 fo, kx_a q_value cyI 1914 uv, kx_a q_number cyI 1914 un, kx_3 q_joined j_v j_n o_18 o_19 0, kx_a j_v cyI 12 o_20, kx_a j_n cyI 12 o_21]) hP hD hP1 hD1 hk1 hFc [true, false, false, false, false, true, true, true, true, true, true, true] hCc rfl
    clear hP1 hD1 hK1 hk1 hz1 hFc hDc hPc hKc hCc
    generalize H1 = H at hP hS ⊢
    have w_17 : 0 ≤ o_18.toInt ∧ o_18.toInt ≤ 12 := w_17
    refine lv_aload_n hx hb dX2_putTogether_73 rfl (lv_at hl 0 rfl) ?_
    refine va_get (D := (dC, dI)) (ci := 2) (v := .ref q_joined) (C := RX2) (T := TX2) (N := 11) hx hb hts hi_2 hown hK hP 0 rfl rfl 1 (by decide) hf_12 (fun _ h9 => h9) rfl dX2_putTogether_74 ?_
    refine lv_aload_n hx hb dX2_putTogether_77 rfl (lv_at hl 0 rfl) ?_
    refine va_get (D := (dC, dI)) (ci := 2) (v := .int here) (C := RX2) (T := TX2) (N := 11) hx hb hts hi_2 hown hK hP 0 rfl rfl 10 (by decide) hf_85 (fun _ h9 => h9) rfl dX2_putTogether_78 ?_
    obtain ⟨hPc, hDc, hFc, hCc⟩ := kx_preM (wc := [kx_3 q_joined j_v j_n o_18 o_19 0, kx_a j_v cyI 12 o_20, kx_a j_n cyI 12 o_21]) hP hD hS hA [false, false, false, false, false, false, false, false, false, true, true, true] rfl
    have hKc := hK
    refine va_callv (va_runV (As := [.int here]) (rest := []) ⟨hx, hb, hml, hown, hts⟩ (kx_un (c_X3_cancel l dC dI q_joined j_v j_n cyI o_18 o_19 0 o_20 o_21 here H.size w_17.1 w_17.2)) (cwV 1 hts gX2_putTogether_X3_cancel rfl rfl rfl (by decide +kernel) ⟨Nat.le_of_ble_eq_true rfl, Nat.le_of_ble_eq_true rfl⟩) ⟨fun a U g mk q => by obtain ⟨q0, q1, qP, qK, qD⟩ := q; exact ⟨q0, q1, qP, va_K.moved (u := U) (U := U.calling g mk a) (Vm.Alike.refl U.vm) qK, qD⟩, kx_rc3 hKc hPc (q0 := 0) rfl, fun U hU hW => ⟨rfl, by rw [hU], by rw [hU]; exact hPc, va_K.moved hW.alike hKc, hDc.weaken (fun _ _ _ _ => trivial)⟩⟩ rfl rfl hl.1 rfl (lv_room (Nat.le_of_ble_eq_true rfl)) dX2_putTogether_81 ⟨Nat.le_of_ble_eq_true rfl, Nat.le_of_ble_eq_true rfl⟩) hS (fun q _ h => hFc q h) hFc (fun u t H1 locs ht hvm w_22 hB hz1 hk1 hS => ?_)
    obtain ⟨o_23, o_24, o_25, o_26, o_27⟩ := u
    dsimp only at w_22 hB
    obtain ⟨hP1, hK1, hD1⟩ := hB
    rw [ht] at hP1
    have hK1 := va_K.moved hvm.symm hK1
    obtain ⟨hP, hD⟩ := kx_joinM (w2 := [kx_2 q_t q_row q_joined q_from q_to q_size q_lossOf q_lessBy q_value q_number nodes here, kx_0 q_row q_cell len, kx_a q_cell cyI 160 f, kx_a q_from cyI 319 ff, kx_a q_to cyI 319 ft, kx_a q_size cyI 319 fs, kx_a q_lossOf cyI 319 fo, kx_a q_value cyI 1914 uv, kx_a q_number cyI 1914 un, kx_3 q_joined j_v j_n o_23 o_24 o_25, kx_a j_v cyI 12 o_26, kx_a j_n cyI 12 o_27]) hP hD hP1 hD1 hk1 hFc [false, false, false, false, false, false, false, false, false, true, true, true] hCc rfl
    clear hP1 hD1 hK1 hk1 hz1 hFc hDc hPc hKc hCc
    generalize H1 = H at hP hS ⊢
    have w_22 : 0 ≤ o_23.toInt ∧ o_23.toInt ≤ o_18.toInt := w_22
    have hP9 := hP
    have hD9 := hD
    have hK9 := hK
    exact W.vret hx hb hr (hlocks := hlocks) (fun t ht hW => ⟨⟨(o_23, o_24, o_25, o_26, o_27), rfl, (by (try dsimp only); omega), by rw [ht]; exact hP9, va_K.moved hW.alike hK9, hD9⟩, hS.F ht⟩) hS.2.2 dX2_putTogether_84
  · have i_9 : y_8.toInt = 1 := kc_eq c_9
    refine lv_aload_n hx hb dX2_putTogether_24 rfl (lv_at hl 0 rfl) ?_
    refine va_get (D := (dC, dI)) (ci := 2) (v := .ref q_joined) (C := RX2) (T := TX2) (N := 11) hx hb hts hi_2 hown hK hP 0 rfl rfl 1 (by decide) hf_12 (fun _ h9 => h9) rfl dX2_putTogether_25 ?_
    refine lv_aload_n hx hb dX2_putTogether_28 rfl (lv_at hl 0 rfl) ?_
    refine va_get (D := (dC, dI)) (ci := 2) (v := .ref q_row) (C := RX2) (T := TX2) (N := 11) hx hb hts hi_2 hown hK hP 0 rfl rfl 0 (by decide) hf_40 (fun _ h9 => h9) rfl dX2_putTogether_29 ?_
    refine va_get (D := (dC, dI)) (ci := 0) (v := .ref q_cell) (C := RX0) (T := TX0) (N := 2) hx hb hts hi_0 hown hK hP 1 rfl rfl 0 (by decide) hf_74 (fun _ h9 => h9) rfl dX2_putTogether_32 ?_
    refine lv_aload_n hx hb dX2_putTogether_35 rfl (lv_at hl 0 rfl) ?_
    refine va_get (D := (dC, dI)) (ci := 2) (v := .ref q_from) (C := RX2) (T := TX2) (N := 11) hx hb hts hi_2 hown hK hP 0 rfl rfl 2 (by decide) hf_18 (fun _ h9 => h9) rfl dX2_putTogether_36 ?_
    refine lv_iload_n hx hb dX2_putTogether_39 rfl (lv_at hl 1 rfl) ?_
    refine va_iald hx hb hK hP 3 0 rfl rfl (ki_in (om_10 b0) (om_110 b1 c0)) dX2_putTogether_40 ?_
    refine lv_topi (fun y_28 ey_28 => ?_)
    have j_28 : y_28.toInt = (ff p0.toNatClampNeg).toInt := congrArg Int32.toInt ey_28
    have n_29 : (p0.toNatClampNeg : Int) = p0.toInt := ki_nat _ rfl (om_10 b0)
    have i_30 := t0 p0.toNatClampNeg (by omega)
    unfold okAt at i_30
    refine va_iald hx hb hK hP 2 0 rfl rfl (ki_in (by omega) (by omega)) dX2_putTogether_41 ?_
    refine lv_topi (fun y_31 ey_31 => ?_)
    have j_31 : y_31.toInt = (f y_28.toNatClampNeg).toInt := congrArg Int32.toInt ey_31
    refine lv_iconst (v := 1) hx hb dX2_putTogether_42 (by decide) ?_
    obtain ⟨hPc, hDc, hFc, hCc⟩ := kx_preM (wc := [kx_3 q_joined j_v j_n 0 0 0, kx_a j_v cyI 12 jv, kx_a j_n cyI 12 jn]) hP hD hS hA [false, false, false, false, false, false, false, false, false, true, true, true] rfl
    have hKc := hK
    have k_32 : (1 : Int32).toInt = 1 := rfl
    refine va_callv (va_runV (As := [.int y_31, .int 1]) (rest := []) ⟨hx, hb, hml, hown, hts⟩ (kx_un (c_X3_add l dC dI q_joined j_v j_n cyI 0 0 0 jv jn y_31 1 H.size om_35 om_104)) (cwV 2 hts gX2_putTogether_X3_add rfl rfl rfl (by decide +kernel) ⟨Nat.le_of_ble_eq_true rfl, Nat.le_of_ble_eq_true rfl⟩) ⟨fun a U g mk q => by obtain ⟨q0, q1, qP, qK, qD⟩ := q; exact ⟨q0, q1, qP, va_K.moved (u := U) (U := U.calling g mk a) (Vm.Alike.refl U.vm) qK, qD⟩, kx_rc3 hKc hPc (q0 := 0) rfl, fun U hU hW => ⟨rfl, by rw [hU], by rw [hU]; exact hPc, va_K.moved hW.alike hKc, hDc.weaken (fun _ _ _ _ => trivial)⟩⟩ rfl rfl hl.1 rfl (lv_room (Nat.le_of_ble_eq_true rfl)) dX2_putTogether_43 ⟨Nat.le_of_ble_eq_true rfl, Nat.le_of_ble_eq_true rfl⟩) hS (fun q _ h => hFc q h) hFc (fun u t H1 locs ht hvm w_33 hB hz1 hk1 hS => ?_)
    obtain ⟨o_34, o_35, o_36⟩ := u
    dsimp only at w_33 hB
    obtain ⟨hP1, hK1, hD1⟩ := hB
    rw [ht] at hP1
    have hK1 := va_K.moved hvm.symm hK1
    obtain ⟨hP, hD⟩ := kx_joinM (w2 := [kx_2 q_t q_row q_joined q_from q_to q_size q_lossOf q_lessBy q_value q_number nodes here, kx_0 q_row q_cell len, kx_a q_cell cyI 160 f, kx_a q_from cyI 319 ff, kx_a q_to cyI 319 ft, kx_a q_size cyI 319 fs, kx_a q_lossOf cyI 319 fo, kx_a q_value cyI 1914 uv, kx_a q_number cyI 1914 un, kx_3 q_joined j_v j_n o_34 0 0, kx_a j_v cyI 12 o_35, kx_a j_n cyI 12 o_36]) hP hD hP1 hD1 hk1 hFc [false, false, false, false, false, false, false, false, false, true, true, true] hCc rfl
    clear hP1 hD1 hK1 hk1 hz1 hFc hDc hPc hKc hCc
    generalize H1 = H at hP hS ⊢
    have w_33 : 0 ≤ o_34.toInt ∧ o_34.toInt ≤ 0 + 1 ∧ o_34.toInt ≤ 12 := w_33
    refine lv_goto (tgt := 84) hx hb dX2_putTogether_46 (by decide) ?_
    have hP9 := hP
    have hD9 := hD
    have hK9 := hK
    exact W.vret hx hb hr (hlocks := hlocks) (fun t ht hW => ⟨⟨(o_34, 0, 0, o_35, o_36), rfl, (by (try dsimp only); omega), by rw [ht]; exact hP9, va_K.moved hW.alike hK9, hD9⟩, hS.F ht⟩) hS.2.2 dX2_putTogether_84

set_option maxHeartbeats 4000000 in
set_option maxRecDepth 100000 in
theorem c_X2_isPart (l : Launch) (dC : Nat → ClassId) (dI : Nat → Nat → Nat) (q_t : Nat) (q_row : Nat) (q_joined : Nat) (q_from : Nat) (q_to : Nat) (q_size : Nat) (q_lossOf : Nat) (q_lessBy : Nat) (q_value : Nat) (q_number : Nat) (nodes : Int32) (here : Int32) (cyI : ClassId) (ff : Nat → Int32) (ft : Nat → Int32) (p0 : Int32) (p1 : Int32) (p2 : Int32) (b0 : 0 ≤ p0.toInt) (b1 : p0.toInt < 319) : Met l yX2_isPart wsX2_isPart ({ frames := 0, cells := 0, slots := 0, locals := 0 }) (va_Pc [.ref q_t, .int p0, .int p1, .int p2] (fun U => va_P (dC, dI) vwCl [kx_2 q_t q_row q_joined q_from q_to q_size q_lossOf q_lessBy q_value q_number nodes here, kx_a q_from cyI 319 ff, kx_a q_to cyI 319 ft] U.heap ∧ va_K (dC, dI) vwCl [(cyI, .int)] U)) (vp_Si (fun r : Int32 => (r = 1 ∧ ((ff p0.toNatClampNeg).toInt = p1.toInt ∧ (ft p0.toNatClampNeg).toInt ≤ p2.toInt)) ∨ (r = 0 ∧ (¬ (ff p0.toNatClampNeg).toInt = p1.toInt ∨ p2.toInt < (ft p0.toNatClampNeg).toInt)))) 0 0 (fun _ => False) := by
  refine kx_stS (ws := wsX2_isPart) (cc := cX2_isPart) (maxL := 4) (ret := (some .boolean)) (by decide) rfl (Nat.le_of_ble_eq_true rfl) ?_
  intro p e s m below meth c ls hx hb hr hlocks hts hown hml hP hK hl
  have hown : s.vm.findClass RX2 = some m.cls := hown
  have hl : lv_has ls 4 [(0, .ref q_t), (1, .int p0), (2, .int p1), (3, .int p2)] := hl
  have hf_18 := hts (.fieldLink RX2 18 "MajorityIndex$Tree" "from" "[I") (List.mem_of_getElem? (i := 1) rfl)
  have hi_2 : ∀ w ∈ u_ws RX2 TX2 11, w ∈ wsX2_isPart := fun w h => List.mem_cons_of_mem _ (List.mem_append_right _ h)
  have hf_22 := hts (.fieldLink RX2 22 "MajorityIndex$Tree" "to" "[I") (List.mem_of_getElem? (i := 2) rfl)
  refine lv_aload_n hx hb dX2_isPart_0 rfl (lv_at hl 0 rfl) ?_
  refine va_get (D := (dC, dI)) (ci := 2) (v := .ref q_from) (C := RX2) (T := TX2) (N := 11) hx hb hts hi_2 hown hK hP 0 rfl rfl 2 (by decide) hf_18 (fun _ h9 => h9) rfl dX2_isPart_1 ?_
  refine lv_iload_n hx hb dX2_isPart_4 rfl (lv_at hl 1 rfl) ?_
  refine va_iald hx hb hK hP 1 0 rfl rfl (ki_in (om_10 b0) (om_61 b1)) dX2_isPart_5 ?_
  refine lv_topi (fun y_1 ey_1 => ?_)
  have j_1 : y_1.toInt = (ff p0.toNatClampNeg).toInt := congrArg Int32.toInt ey_1
  refine lv_iload_n hx hb dX2_isPart_6 rfl (lv_at hl 2 rfl) ?_
  refine lv_icmp_ne (tgt := 24) hx hb dX2_isPart_7 (by decide) (fun c_2 => ?_) (fun c_2 => ?_)
  · have i_2 : ¬ y_1.toInt = p1.toInt := kc_ne c_2
    refine lv_iconst (v := 0) hx hb dX2_isPart_24 (by decide) ?_
    exact W.zret (v := 0) hx hb hr (by decide) (hlocks := hlocks) (fun t ht hW => ⟨0, rfl, Or.inr (⟨rfl, by omega⟩), ht⟩) (fun q hq => by cases hq) dX2_isPart_25
  · have i_2 : y_1.toInt = p1.toInt := kc_eq c_2
    refine lv_aload_n hx hb dX2_isPart_10 rfl (lv_at hl 0 rfl) ?_
    refine va_get (D := (dC, dI)) (ci := 2) (v := .ref q_to) (C := RX2) (T := TX2) (N := 11) hx hb hts hi_2 hown hK hP 0 rfl rfl 3 (by decide) hf_22 (fun _ h9 => h9) rfl dX2_isPart_11 ?_
    refine lv_iload_n hx hb dX2_isPart_14 rfl (lv_at hl 1 rfl) ?_
    refine va_iald hx hb hK hP 2 0 rfl rfl (ki_in (om_10 b0) (om_61 b1)) dX2_isPart_15 ?_
    refine lv_topi (fun y_3 ey_3 => ?_)
    have j_3 : y_3.toInt = (ft p0.toNatClampNeg).toInt := congrArg Int32.toInt ey_3
    refine lv_iload_n hx hb dX2_isPart_16 rfl (lv_at hl 3 rfl) ?_
    refine lv_icmp_gt (tgt := 24) hx hb dX2_isPart_17 (by decide) (fun c_4 => ?_) (fun c_4 => ?_)
    · have i_4 : p2.toInt < y_3.toInt := kc_lt c_4
      refine lv_iconst (v := 0) hx hb dX2_isPart_24 (by decide) ?_
      exact W.zret (v := 0) hx hb hr (by decide) (hlocks := hlocks) (fun t ht hW => ⟨0, rfl, Or.inr (⟨rfl, (Or.inr (om_126 j_3 i_4))⟩), ht⟩) (fun q hq => by cases hq) dX2_isPart_25
    · have i_4 : y_3.toInt ≤ p2.toInt := kc_nlt c_4
      refine lv_iconst (v := 1) hx hb dX2_isPart_20 (by decide) ?_
      refine lv_goto (tgt := 25) hx hb dX2_isPart_21 (by decide) ?_
      exact W.zret (v := 1) hx hb hr (by decide) (hlocks := hlocks) (fun t ht hW => ⟨1, rfl, Or.inl ⟨rfl, ⟨(om_127 j_1 i_2), (om_128 j_3 i_4)⟩⟩, ht⟩) (fun q hq => by cases hq) dX2_isPart_25

set_option maxHeartbeats 4000000 in
set_option maxRecDepth 100000 in
theorem c_X2_hasPlace (l : Launch) (dC : Nat → ClassId) (dI : Nat → Nat → Nat) (q_t : Nat) (q_row : Nat) (q_joined : Nat) (q_from : Nat) (q_to : Nat) (q_size : Nat) (q_lossOf : Nat) (q_lessBy : Nat) (q_value : Nat) (q_number : Nat) (nodes : Int32) (here : Int32) (cyI : ClassId) (ff : Nat → Int32) (ft : Nat → Int32) (p0 : Int32) (p1 : Int32) (b0 : 0 ≤ p0.toInt) (b1 : p0.toInt < 319) : Met l yX2_hasPlace wsX2_hasPlace ({ frames := 0, cells := 0, slots := 0, locals := 0 }) (va_Pc [.ref q_t, .int p0, .int p1] (fun U => va_P (dC, dI) vwCl [kx_2 q_t q_row q_joined q_from q_to q_size q_lossOf q_lessBy q_value q_number nodes here, kx_a q_from cyI 319 ff, kx_a q_to cyI 319 ft] U.heap ∧ va_K (dC, dI) vwCl [(cyI, .int)] U)) (vp_Si (fun r : Int32 => (r = 1 ∧ ((ff p0.toNatClampNeg).toInt ≤ p1.toInt ∧ p1.toInt < (ft p0.toNatClampNeg).toInt)) ∨ (r = 0 ∧ (p1.toInt < (ff p0.toNatClampNeg).toInt ∨ (ft p0.toNatClampNeg).toInt ≤ p1.toInt)))) 0 0 (fun _ => False) := by
  refine kx_stS (ws := wsX2_hasPlace) (cc := cX2_hasPlace) (maxL := 3) (ret := (some .boolean)) (by decide) rfl (Nat.le_of_ble_eq_true rfl) ?_
  intro p e s m below meth c ls hx hb hr hlocks hts hown hml hP hK hl
  have hown : s.vm.findClass RX2 = some m.cls := hown
  have hl : lv_has ls 3 [(0, .ref q_t), (1, .int p0), (2, .int p1)] := hl
  have hf_18 := hts (.fieldLink RX2 18 "MajorityIndex$Tree" "from" "[I") (List.mem_of_getElem? (i := 1) rfl)
  have hi_2 : ∀ w ∈ u_ws RX2 TX2 11, w ∈ wsX2_hasPlace := fun w h => List.mem_cons_of_mem _ (List.mem_append_right _ h)
  have hf_22 := hts (.fieldLink RX2 22 "MajorityIndex$Tree" "to" "[I") (List.mem_of_getElem? (i := 2) rfl)
  refine lv_aload_n hx hb dX2_hasPlace_0 rfl (lv_at hl 0 rfl) ?_
  refine va_get (D := (dC, dI)) (ci := 2) (v := .ref q_from) (C := RX2) (T := TX2) (N := 11) hx hb hts hi_2 hown hK hP 0 rfl rfl 2 (by decide) hf_18 (fun _ h9 => h9) rfl dX2_hasPlace_1 ?_
  refine lv_iload_n hx hb dX2_hasPlace_4 rfl (lv_at hl 1 rfl) ?_
  refine va_iald hx hb hK hP 1 0 rfl rfl (ki_in (om_10 b0) (om_61 b1)) dX2_hasPlace_5 ?_
  refine lv_topi (fun y_1 ey_1 => ?_)
  have j_1 : y_1.toInt = (ff p0.toNatClampNeg).toInt := congrArg Int32.toInt ey_1
  refine lv_iload_n hx hb dX2_hasPlace_6 rfl (lv_at hl 2 rfl) ?_
  refine lv_icmp_gt (tgt := 24) hx hb dX2_hasPlace_7 (by decide) (fun c_2 => ?_) (fun c_2 => ?_)
  · have i_2 : p1.toInt < y_1.toInt := kc_lt c_2
    refine lv_iconst (v := 0) hx hb dX2_hasPlace_24 (by decide) ?_
    exact W.zret (v := 0) hx hb hr (by decide) (hlocks := hlocks) (fun t ht hW => ⟨0, rfl, Or.inr (⟨rfl, (Or.inl (om_126 j_1 i_2))⟩), ht⟩) (fun q hq => by cases hq) dX2_hasPlace_25
  · have i_2 : y_1.toInt ≤ p1.toInt := kc_nlt c_2
    refine lv_iload_n hx hb dX2_hasPlace_10 rfl (lv_at hl 2 rfl) ?_
    refine lv_aload_n hx hb dX2_hasPlace_11 rfl (lv_at hl 0 rfl) ?_
    refine va_get (D := (dC, dI)) (ci := 2) (v := .ref q_to) (C := RX2) (T := TX2) (N := 11) hx hb hts hi_2 hown hK hP 0 rfl rfl 3 (by decide) hf_22 (fun _ h9 => h9) rfl dX2_hasPlace_12 ?_
    refine lv_iload_n hx hb dX2_hasPlace_15 rfl (lv_at hl 1 rfl) ?_
    refine va_iald hx hb hK hP 2 0 rfl rfl (ki_in (om_10 b0) (om_61 b1)) dX2_hasPlace_16 ?_
    refine lv_topi (fun y_3 ey_3 => ?_)
    have j_3 : y_3.toInt = (ft p0.toNatClampNeg).toInt := congrArg Int32.toInt ey_3
    refine lv_icmp_ge (tgt := 24) hx hb dX2_hasPlace_17 (by decide) (fun c_4 => ?_) (fun c_4 => ?_)
    · have i_4 : y_3.toInt ≤ p1.toInt := kc_le c_4
      refine lv_iconst (v := 0) hx hb dX2_hasPlace_24 (by decide) ?_
      exact W.zret (v := 0) hx hb hr (by decide) (hlocks := hlocks) (fun t ht hW => ⟨0, rfl, Or.inr (⟨rfl, (Or.inr (om_128 j_3 i_4))⟩), ht⟩) (fun q hq => by cases hq) dX2_hasPlace_25
    · have i_4 : p1.toInt < y_3.toInt := kc_nle c_4
      refine lv_iconst (v := 1) hx hb dX2_hasPlace_20 (by decide) ?_
      refine lv_goto (tgt := 25) hx hb dX2_hasPlace_21 (by decide) ?_
      exact W.zret (v := 1) hx hb hr (by decide) (hlocks := hlocks) (fun t ht hW => ⟨1, rfl, Or.inl ⟨rfl, ⟨(om_128 j_1 i_2), (om_126 j_3 i_4)⟩⟩, ht⟩) (fun q hq => by cases hq) dX2_hasPlace_25

set_option maxHeartbeats 4000000 in
set_option maxRecDepth 100000 in
theorem c_X2_gather (l : Launch) (dC : Nat → ClassId) (dI : Nat → Nat → Nat) (q_t : Nat) (q_row : Nat) (q_joined : Nat) (q_from : Nat) (q_to : Nat) (q_size : Nat) (q_lossOf : Nat) (q_lessBy : Nat) (q_value : Nat) (q_number : Nat) (nodes : Int32) (here : Int32) (h0 : Nat) (a_v : Nat) (a_n : Nat) (cyI : ClassId) (vs : Int32) (lo : Int32) (le : Int32) (fv : Nat → Int32) (fn : Nat → Int32) (ff : Nat → Int32) (ft : Nat → Int32) (fs : Nat → Int32) (fo : Nat → Int32) (uv : Nat → Int32) (un : Nat → Int32) (p0 : Int32) (p1 : Int32) (sz : Nat) (b0 : 0 ≤ nodes.toInt) (c0 : nodes.toInt ≤ 319) (s0 : sixes fs) : kx_MQ l (dC, dI) yX2_gather wsX2_gather ({ frames := 3, cells := 0, slots := 0, locals := 135 }) [.ref q_t, .ref h0, .int p0, .int p1] [kx_2 q_t q_row q_joined q_from q_to q_size q_lossOf q_lessBy q_value q_number nodes here, kx_a q_from cyI 319 ff, kx_a q_to cyI 319 ft, kx_a q_size cyI 319 fs, kx_a q_lossOf cyI 319 fo, kx_a q_value cyI 1914 uv, kx_a q_number cyI 1914 un, kx_3 h0 a_v a_n vs lo le, kx_a a_v cyI 12 fv, kx_a a_n cyI 12 fn] [(cyI, .int)] sz (fun A => va_Qv (fun u : Int32 × Int32 × Int32 × (Nat → Int32) × (Nat → Int32) => 0 ≤ u.1.toInt ∧ u.1.toInt ≤ 12) (fun (u : Int32 × Int32 × Int32 × (Nat → Int32) × (Nat → Int32)) (t : State) => va_P (dC, dI) vwCl [kx_2 q_t q_row q_joined q_from q_to q_size q_lossOf q_lessBy q_value q_number nodes here, kx_a q_from cyI 319 ff, kx_a q_to cyI 319 ft, kx_a q_size cyI 319 fs, kx_a q_lossOf cyI 319 fo, kx_a q_value cyI 1914 uv, kx_a q_number cyI 1914 un, kx_3 h0 a_v a_n u.1 u.2.1 u.2.2.1, kx_a a_v cyI 12 u.2.2.2.1, kx_a a_n cyI 12 u.2.2.2.2] t.heap ∧ va_K (dC, dI) vwCl [(cyI, .int)] t ∧ va_D A [kx_2 q_t q_row q_joined q_from q_to q_size q_lossOf q_lessBy q_value q_number nodes here, kx_a q_from cyI 319 ff, kx_a q_to cyI 319 ft, kx_a q_size cyI 319 fs, kx_a q_lossOf cyI 319 fo, kx_a q_value cyI 1914 uv, kx_a q_number cyI 1914 un, kx_3 h0 a_v a_n u.1 u.2.1 u.2.2.1, kx_a a_v cyI 12 u.2.2.2.1, kx_a a_n cyI 12 u.2.2.2.2]) A) := by
  refine kx_stQ (ws := wsX2_gather) (cc := cX2_gather) (maxL := 6) (ret := none) (by decide) rfl (Nat.le_of_ble_eq_true rfl) ?_
  intro p e s m below meth c A ls hx hb hr hlocks hts hown hml hA hS hP hK hD hl
  have hown : s.vm.findClass RX2 = some m.cls := hown
  have hl : lv_has ls 6 [(0, .ref q_t), (1, .ref h0), (2, .int p0), (3, .int p1)] := hl
  have hf_50 := hts (.fieldLink RX2 50 "MajorityIndex$Tree" "nodes" "I") (List.mem_of_getElem? (i := 1) rfl)
  have hi_2 : ∀ w ∈ u_ws RX2 TX2 11, w ∈ wsX2_gather := fun w h => List.mem_cons_of_mem _ (List.mem_append_left _ (List.mem_append_right _ h))
  have hf_22 := hts (.fieldLink RX2 22 "MajorityIndex$Tree" "to" "[I") (List.mem_of_getElem? (i := 2) rfl)
  have hf_85 := hts (.fieldLink RX2 85 "MajorityIndex$Tree" "slotsHere" "I") (List.mem_of_getElem? (i := 3) rfl)
  refine lv_aload_n hx hb dX2_gather_0 rfl (lv_at hl 1 rfl) ?_
  obtain ⟨hPc, hDc, hFc, hCc⟩ := kx_preM (wc := [kx_3 h0 a_v a_n vs lo le]) hP hD hS hA [false, false, false, false, false, false, false, true, false, false] rfl
  have hKc := hK.sub (tys' := []) [] rfl
  refine va_callv (va_runV (As := []) (rest := []) ⟨hx, hb, hml, hown, hts⟩ (kx_un (c_X3_clear l dC dI h0 a_v a_n vs lo le s.heap.size)) (cwV 0 hts gX2_gather_X3_clear rfl rfl rfl (by decide +kernel) ⟨Nat.le_of_ble_eq_true rfl, Nat.le_of_ble_eq_true rfl⟩) ⟨fun a U g mk q => by obtain ⟨q0, q1, qP, qK, qD⟩ := q; exact ⟨q0, q1, qP, va_K.moved (u := U) (U := U.calling g mk a) (Vm.Alike.refl U.vm) qK, qD⟩, kx_rc3 hKc hPc (q0 := 0) rfl, fun U hU hW => ⟨rfl, by rw [hU], by rw [hU]; exact hPc, va_K.moved hW.alike hKc, hDc.weaken (fun _ _ _ _ => trivial)⟩⟩ rfl rfl hl.1 rfl (lv_room (Nat.le_of_ble_eq_true rfl)) dX2_gather_1 ⟨Nat.le_of_ble_eq_true rfl, Nat.le_of_ble_eq_true rfl⟩) hS (fun q _ h => hFc q h) hFc (fun u t H1 locs ht hvm w_1 hB hz1 hk1 hS => ?_)
  obtain ⟨hP1, hK1, hD1⟩ := hB
  rw [ht] at hP1
  have hK1 := va_K.moved hvm.symm hK1
  obtain ⟨hP, hD⟩ := kx_joinM (w2 := [kx_2 q_t q_row q_joined q_from q_to q_size q_lossOf q_lessBy q_value q_number nodes here, kx_a q_from cyI 319 ff, kx_a q_to cyI 319 ft, kx_a q_size cyI 319 fs, kx_a q_lossOf cyI 319 fo, kx_a q_value cyI 1914 uv, kx_a q_number cyI 1914 un, kx_3 h0 a_v a_n 0 0 0, kx_a a_v cyI 12 fv, kx_a a_n cyI 12 fn]) hP hD hP1 hD1 hk1 hFc [false, false, false, false, false, false, false, true, false, false] hCc rfl
  clear hP1 hD1 hK1 hk1 hz1 hFc hDc hPc hKc hCc
  generalize H1 = H at hP hS ⊢
  refine lv_iload_n hx hb dX2_gather_4 rfl (lv_at hl 2 rfl) ?_
  refine lv_istore (lv' := [(4, .int p0), (0, .ref q_t), (1, .ref h0), (2, .int p0), (3, .int p1)]) hx hb dX2_gather_5 hl (by decide) rfl (fun ls hl => ?_)
  refine lv_iconst (v := 0) hx hb dX2_gather_7 (by decide) ?_
  refine lv_istore (lv' := [(5, .int 0), (4, .int p0), (0, .ref q_t), (1, .ref h0), (2, .int p0), (3, .int p1)]) hx hb dX2_gather_8 hl (by decide) rfl (fun ls hl => ?_)
  have LP1 : ∀ (n : Nat) (i : Int32) (nxt : Int32) (zz : Int32) (zl : Int32) (zb : Int32) (yv : Nat → Int32) (yn : Nat → Int32), (0 ≤ i.toInt) → (0 ≤ zz.toInt) → (zz.toInt ≤ 12) → (nodes.toInt - i.toInt).toNat < n → ∀ (H : Heap) (locs : List Loc), va_P (dC, dI) vwCl [kx_2 q_t q_row q_joined q_from q_to q_size q_lossOf q_lessBy q_value q_number nodes here, kx_a q_from cyI 319 ff, kx_a q_to cyI 319 ft, kx_a q_size cyI 319 fs, kx_a q_lossOf cyI 319 fo, kx_a q_value cyI 1914 uv, kx_a q_number cyI 1914 un, kx_3 h0 a_v a_n zz zl zb, kx_a a_v cyI 12 yv, kx_a a_n cyI 12 yn] H → va_D A [kx_2 q_t q_row q_joined q_from q_to q_size q_lossOf q_lessBy q_value q_number nodes here, kx_a q_from cyI 319 ff, kx_a q_to cyI 319 ft, kx_a q_size cyI 319 fs, kx_a q_lossOf cyI 319 fo, kx_a q_value cyI 1914 uv, kx_a q_number cyI 1914 un, kx_3 h0 a_v a_n zz zl zb, kx_a a_v cyI 12 yv, kx_a a_n cyI 12 yn] → va_S A s.heap H locs → ∀ (ls : Array Slot), lv_has ls 6 [(5, .int i), (4, .int nxt), (0, .ref q_t), (1, .ref h0), (2, .int p0), (3, .int p1)] → W p l e (headSpec wsX2_gather ({ frames := 3, cells := 0, slots := 0, locals := 135 })).room s m ([.ref q_t, .ref h0, .int p0, .int p1] : List Value).toArray below meth c H locs 0 0 (MQ below (va_Qv (fun u : Int32 × Int32 × Int32 × (Nat → Int32) × (Nat → Int32) => 0 ≤ u.1.toInt ∧ u.1.toInt ≤ 12) (fun (u : Int32 × Int32 × Int32 × (Nat → Int32) × (Nat → Int32)) (t : State) => va_P (dC, dI) vwCl [kx_2 q_t q_row q_joined q_from q_to q_size q_lossOf q_lessBy q_value q_number nodes here, kx_a q_from cyI 319 ff, kx_a q_to cyI 319 ft, kx_a q_size cyI 319 fs, kx_a q_lossOf cyI 319 fo, kx_a q_value cyI 1914 uv, kx_a q_number cyI 1914 un, kx_3 h0 a_v a_n u.1 u.2.1 u.2.2.1, kx_a a_v cyI 12 u.2.2.2.1, kx_a a_n cyI 12 u.2.2.2.2] t.heap ∧ va_K (dC, dI) vwCl [(cyI, .int)] t ∧ va_D A [kx_2 q_t q_row q_joined q_from q_to q_size q_lossOf q_lessBy q_value q_number nodes here, kx_a q_from cyI 319 ff, kx_a q_to cyI 319 ft, kx_a q_size cyI 319 fs, kx_a q_lossOf cyI 319 fo, kx_a q_value cyI 1914 uv, kx_a q_number cyI 1914 un, kx_3 h0 a_v a_n u.1 u.2.1 u.2.2.1, kx_a a_v cyI 12 u.2.2.2.1, kx_a a_n cyI 12 u.2.2.2.2]) A) ([.ref q_t, .ref h0, .int p0, .int p1] : List Value).toArray s 0 0 A) (F0 m 10 ls []) := by
    intro n
    induction n with
    | zero => intro i nxt zz zl zb yv yn LP1_h0 LP1_h1 LP1_h2 hn; exact absurd hn (Nat.not_lt_zero _)
    | succ n ih1 =>
      intro i nxt zz zl zb yv yn LP1_h0 LP1_h1 LP1_h2 hn1 H locs hP hD hS ls hl
      refine lv_iload hx hb dX2_gather_10 (lv_at hl 0 rfl) ?_
      refine lv_aload_n hx hb dX2_gather_12 rfl (lv_at hl 2 rfl) ?_
      refine va_get (D := (dC, dI)) (ci := 2) (v := .int nodes) (C := RX2) (T := TX2) (N := 11) hx hb hts hi_2 hown hK hP 0 rfl rfl 9 (by decide) hf_50 (fun _ h9 => h9) rfl dX2_gather_13 ?_
      refine lv_icmp_ge (tgt := 61) hx hb dX2_gather_16 (by decide) (fun c_2 => ?_) (fun c_2 => ?_)
      · have i_2 : nodes.toInt ≤ i.toInt := kc_le c_2
        have hP9 := hP
        have hD9 := hD
        have hK9 := hK
        exact W.vret hx hb hr (hlocks := hlocks) (fun t ht hW => ⟨⟨(zz, zl, zb, yv, yn), rfl, (by (try dsimp only); omega), by rw [ht]; exact hP9, va_K.moved hW.alike hK9, hD9⟩, hS.F ht⟩) hS.2.2 dX2_gather_61
      · have i_2 : i.toInt < nodes.toInt := kc_nle c_2
        refine lv_aload_n hx hb dX2_gather_19 rfl (lv_at hl 2 rfl) ?_
        refine lv_iload hx hb dX2_gather_20 (lv_at hl 0 rfl) ?_
        refine lv_iload hx hb dX2_gather_22 (lv_at hl 1 rfl) ?_
        refine lv_iload_n hx hb dX2_gather_24 rfl (lv_at hl 5 rfl) ?_
        have hPc := hP.sub (ws' := [kx_2 q_t q_row q_joined q_from q_to q_size q_lossOf q_lessBy q_value q_number nodes here, kx_a q_from cyI 319 ff, kx_a q_to cyI 319 ft]) [0, 1, 2] rfl
        have hKc := hK
        refine vp_callSi (W.runV (As := [.int i, .int nxt, .int p1]) (rest := []) ⟨hx, hb, hml, hown, hts⟩ (c_X2_isPart l dC dI q_t q_row q_joined q_from q_to q_size q_lossOf q_lessBy q_value q_number nodes here cyI ff ft i nxt p1 LP1_h0 (om_122 c0 i_2)) (cwV 3 hts gX2_gather_X2_isPart rfl rfl rfl (by decide +kernel) ⟨Nat.le_of_ble_eq_true rfl, Nat.le_of_ble_eq_true rfl⟩) ⟨fun a U g mk q => by obtain ⟨q0, qP, qK⟩ := q; exact ⟨q0, qP, va_K.moved (u := U) (U := U.calling g mk a) (Vm.Alike.refl U.vm) qK⟩, kx_rc2 hKc hPc (q0 := 0) rfl, fun U hU hW => ⟨rfl, by rw [hU]; exact hPc, va_K.moved hW.alike hKc⟩⟩ rfl rfl hl.1 rfl (lv_room (Nat.le_of_ble_eq_true rfl)) dX2_gather_25 ⟨Nat.le_of_ble_eq_true rfl, Nat.le_of_ble_eq_true rfl⟩) (fun r_3 w_3 => ?_)
        rcases w_3 with ⟨rfl, w_3⟩ | ⟨rfl, w_3⟩
        · have w_3 : ((ff i.toNatClampNeg).toInt = nxt.toInt ∧ (ft i.toNatClampNeg).toInt ≤ p1.toInt) := w_3
          refine lv_if_eq (tgt := 55) hx hb dX2_gather_28 (by decide) (fun c_4 => ?_) (fun c_4 => ?_)
          · exact absurd c_4 (by decide)
          · refine lv_aload_n hx hb dX2_gather_31 rfl (lv_at hl 2 rfl) ?_
            refine va_get (D := (dC, dI)) (ci := 2) (v := .ref q_to) (C := RX2) (T := TX2) (N := 11) hx hb hts hi_2 hown hK hP 0 rfl rfl 3 (by decide) hf_22 (fun _ h9 => h9) rfl dX2_gather_32 ?_
            refine lv_iload hx hb dX2_gather_35 (lv_at hl 0 rfl) ?_
            refine va_iald hx hb hK hP 2 0 rfl rfl (ki_in (om_10 LP1_h0) (om_115 c0 i_2)) dX2_gather_37 ?_
            refine lv_topi (fun y_5 ey_5 => ?_)
            have j_5 : y_5.toInt = (ft i.toNatClampNeg).toInt := congrArg Int32.toInt ey_5
            refine lv_istore (lv' := [(4, .int y_5), (5, .int i), (0, .ref q_t), (1, .ref h0), (2, .int p0), (3, .int p1)]) hx hb dX2_gather_38 hl (by decide) rfl (fun ls hl => ?_)
            refine lv_aload_n hx hb dX2_gather_40 rfl (lv_at hl 2 rfl) ?_
            refine lv_aload_n hx hb dX2_gather_41 rfl (lv_at hl 3 rfl) ?_
            refine lv_iload hx hb dX2_gather_42 (lv_at hl 1 rfl) ?_
            obtain ⟨hPc, hDc, hFc, hCc⟩ := kx_preM (wc := [kx_2 q_t q_row q_joined q_from q_to q_size q_lossOf q_lessBy q_value q_number nodes here, kx_a q_size cyI 319 fs, kx_a q_lossOf cyI 319 fo, kx_a q_value cyI 1914 uv, kx_a q_number cyI 1914 un, kx_3 h0 a_v a_n zz zl zb, kx_a a_v cyI 12 yv, kx_a a_n cyI 12 yn]) hP hD hS hA [true, false, false, true, true, true, true, true, true, true] rfl
            have hKc := hK
            refine va_callv (va_runV (As := [.ref h0, .int i]) (rest := []) ⟨hx, hb, hml, hown, hts⟩ (kx_un (c_X2_joinNode l dC dI q_t q_row q_joined q_from q_to q_size q_lossOf q_lessBy q_value q_number nodes here h0 a_v a_n cyI zz zl zb yv yn fs fo uv un i H.size LP1_h1 LP1_h2 LP1_h0 (om_122 c0 i_2) s0)) (cwV 2 hts gX2_gather_X2_joinNode rfl rfl rfl (by decide +kernel) ⟨Nat.le_of_ble_eq_true rfl, Nat.le_of_ble_eq_true rfl⟩) ⟨fun a U g mk q => by obtain ⟨q0, q1, qP, qK, qD⟩ := q; exact ⟨q0, q1, qP, va_K.moved (u := U) (U := U.calling g mk a) (Vm.Alike.refl U.vm) qK, qD⟩, kx_rc2 hKc hPc (q0 := 0) rfl, fun U hU hW => ⟨rfl, by rw [hU], by rw [hU]; exact hPc, va_K.moved hW.alike hKc, hDc.weaken (fun _ _ _ _ => trivial)⟩⟩ rfl rfl hl.1 rfl (lv_room (Nat.le_of_ble_eq_true rfl)) dX2_gather_44 ⟨Nat.le_of_ble_eq_true rfl, Nat.le_of_ble_eq_true rfl⟩) hS (fun q _ h => hFc q h) hFc (fun u t H1 locs ht hvm w_6 hB hz1 hk1 hS => ?_)
            obtain ⟨o_7, o_8, o_9, o_10⟩ := u
            dsimp only at w_6 hB
            obtain ⟨hP1, hK1, hD1⟩ := hB
            rw [ht] at hP1
            have hK1 := va_K.moved hvm.symm hK1
            obtain ⟨hP, hD⟩ := kx_joinM (w2 := [kx_2 q_t q_row q_joined q_from q_to q_size q_lossOf q_lessBy q_value q_number nodes here, kx_a q_from cyI 319 ff, kx_a q_to cyI 319 ft, kx_a q_size cyI 319 fs, kx_a q_lossOf cyI 319 fo, kx_a q_value cyI 1914 uv, kx_a q_number cyI 1914 un, kx_3 h0 a_v a_n o_7 o_8 zb, kx_a a_v cyI 12 o_9, kx_a a_n cyI 12 o_10]) hP hD hP1 hD1 hk1 hFc [true, false, false, true, true, true, true, true, true, true] hCc rfl
            clear hP1 hD1 hK1 hk1 hz1 hFc hDc hPc hKc hCc
            generalize H1 = H at hP hS ⊢
            have w_6 : 0 ≤ o_7.toInt ∧ o_7.toInt ≤ 12 := w_6
            refine lv_aload_n hx hb dX2_gather_47 rfl (lv_at hl 3 rfl) ?_
            refine lv_aload_n hx hb dX2_gather_48 rfl (lv_at hl 2 rfl) ?_
            refine va_get (D := (dC, dI)) (ci := 2) (v := .int here) (C := RX2) (T := TX2) (N := 11) hx hb hts hi_2 hown hK hP 0 rfl rfl 10 (by decide) hf_85 (fun _ h9 => h9) rfl dX2_gather_49 ?_
            obtain ⟨hPc, hDc, hFc, hCc⟩ := kx_preM (wc := [kx_3 h0 a_v a_n o_7 o_8 zb, kx_a a_v cyI 12 o_9, kx_a a_n cyI 12 o_10]) hP hD hS hA [false, false, false, false, false, false, false, true, true, true] rfl
            have hKc := hK
            refine va_callv (va_runV (As := [.int here]) (rest := []) ⟨hx, hb, hml, hown, hts⟩ (kx_un (c_X3_cancel l dC dI h0 a_v a_n cyI o_7 o_8 zb o_9 o_10 here H.size w_6.1 w_6.2)) (cwV 1 hts gX2_gather_X3_cancel rfl rfl rfl (by decide +kernel) ⟨Nat.le_of_ble_eq_true rfl, Nat.le_of_ble_eq_true rfl⟩) ⟨fun a U g mk q => by obtain ⟨q0, q1, qP, qK, qD⟩ := q; exact ⟨q0, q1, qP, va_K.moved (u := U) (U := U.calling g mk a) (Vm.Alike.refl U.vm) qK, qD⟩, kx_rc3 hKc hPc (q0 := 0) rfl, fun U hU hW => ⟨rfl, by rw [hU], by rw [hU]; exact hPc, va_K.moved hW.alike hKc, hDc.weaken (fun _ _ _ _ => trivial)⟩⟩ rfl rfl hl.1 rfl (lv_room (Nat.le_of_ble_eq_true rfl)) dX2_gather_52 ⟨Nat.le_of_ble_eq_true rfl, Nat.le_of_ble_eq_true rfl⟩) hS (fun q _ h => hFc q h) hFc (fun u t H1 locs ht hvm w_11 hB hz1 hk1 hS => ?_)
            obtain ⟨o_12, o_13, o_14, o_15, o_16⟩ := u
            dsimp only at w_11 hB
            obtain ⟨hP1, hK1, hD1⟩ := hB
            rw [ht] at hP1
            have hK1 := va_K.moved hvm.symm hK1
            obtain ⟨hP, hD⟩ := kx_joinM (w2 := [kx_2 q_t q_row q_joined q_from q_to q_size q_lossOf q_lessBy q_value q_number nodes here, kx_a q_from cyI 319 ff, kx_a q_to cyI 319 ft, kx_a q_size cyI 319 fs, kx_a q_lossOf cyI 319 fo, kx_a q_value cyI 1914 uv, kx_a q_number cyI 1914 un, kx_3 h0 a_v a_n o_12 o_13 o_14, kx_a a_v cyI 12 o_15, kx_a a_n cyI 12 o_16]) hP hD hP1 hD1 hk1 hFc [false, false, false, false, false, false, false, true, true, true] hCc rfl
            clear hP1 hD1 hK1 hk1 hz1 hFc hDc hPc hKc hCc
            generalize H1 = H at hP hS ⊢
            have w_11 : 0 ≤ o_12.toInt ∧ o_12.toInt ≤ o_7.toInt := w_11
            obtain ⟨x_17, ex_17⟩ : ∃ y : Int32, y = i + 1 := ⟨_, rfl⟩
            have i_17 : x_17.toInt = i.toInt + 1 := ki_add ex_17 rfl rfl (om_13 LP1_h0) (om_125 c0 i_2)
            refine lv_iinc (v := x_17) (lv' := [(5, .int x_17), (4, .int y_5), (0, .ref q_t), (1, .ref h0), (2, .int p0), (3, .int p1)]) hx hb dX2_gather_55 hl (k := 1) rfl (by rw [ex_17]; rfl) (by decide) rfl (fun ls hl => ?_)
            refine lv_goto (tgt := 10) hx hb dX2_gather_58 (by decide) ?_
            exact ih1 x_17 y_5 o_12 o_13 o_14 o_15 o_16 (om_34 LP1_h0 i_17) (om_10 w_11.1) (om_129 w_6.2 w_11.2) (om_mu hn1 (om_5 i_17) (om_6 i_2)) _ _ hP hD hS ls (lv_sub hl [0, 1, 2, 3, 4, 5] rfl)
        · have w_3 : (¬ (ff i.toNatClampNeg).toInt = nxt.toInt ∨ p1.toInt < (ft i.toNatClampNeg).toInt) := w_3
          refine lv_if_eq (tgt := 55) hx hb dX2_gather_28 (by decide) (fun c_18 => ?_) (fun c_18 => ?_)
          · obtain ⟨x_19, ex_19⟩ : ∃ y : Int32, y = i + 1 := ⟨_, rfl⟩
            have i_19 : x_19.toInt = i.toInt + 1 := ki_add ex_19 rfl rfl (om_13 LP1_h0) (om_125 c0 i_2)
            refine lv_iinc (v := x_19) (lv' := [(5, .int x_19), (4, .int nxt), (0, .ref q_t), (1, .ref h0), (2, .int p0), (3, .int p1)]) hx hb dX2_gather_55 hl (k := 0) rfl (by rw [ex_19]; rfl) (by decide) rfl (fun ls hl => ?_)
            refine lv_goto (tgt := 10) hx hb dX2_gather_58 (by decide) ?_
            exact ih1 x_19 nxt zz zl zb yv yn (om_34 LP1_h0 i_19) (om_10 LP1_h1) (om_60 LP1_h2) (om_mu hn1 (om_5 i_19) (om_6 i_2)) _ _ hP hD hS ls (lv_sub hl [0, 1, 2, 3, 4, 5] rfl)
          · exact absurd c_18 (by decide)
  have k_20 : (0 : Int32).toInt = 0 := rfl
  have k_21 : (0 : Int32).toInt = 0 := rfl
  have k_22 : (0 : Int32).toInt = 0 := rfl
  have k_23 : (0 : Int32).toInt = 0 := rfl
  exact LP1 ((nodes.toInt - 0 : Int).toNat + 1) 0 p0 0 0 0 fv fn om_35 om_35 om_104 (Nat.lt_succ_self _) _ _ hP hD hS ls (lv_sub hl [0, 1, 2, 3, 4, 5] rfl)

set_option maxHeartbeats 4000000 in
set_option maxRecDepth 100000 in
theorem c_X2_depthAt (l : Launch) (dC : Nat → ClassId) (dI : Nat → Nat → Nat) (q_t : Nat) (q_row : Nat) (q_joined : Nat) (q_from : Nat) (q_to : Nat) (q_size : Nat) (q_lossOf : Nat) (q_lessBy : Nat) (q_value : Nat) (q_number : Nat) (nodes : Int32) (here : Int32) (cyI : ClassId) (ff : Nat → Int32) (ft : Nat → Int32) (p0 : Int32) (b0 : 0 ≤ nodes.toInt) (c0 : nodes.toInt ≤ 319) : Met l yX2_depthAt wsX2_depthAt ({ frames := 1, cells := 0, slots := 0, locals := 45 }) (va_Pc [.ref q_t, .int p0] (fun U => va_P (dC, dI) vwCl [kx_2 q_t q_row q_joined q_from q_to q_size q_lossOf q_lessBy q_value q_number nodes here, kx_a q_from cyI 319 ff, kx_a q_to cyI 319 ft] U.heap ∧ va_K (dC, dI) vwCl [(cyI, .int)] U)) (vp_Si (fun r : Int32 => True)) 0 0 (fun _ => False) := by
  refine kx_stS (ws := wsX2_depthAt) (cc := cX2_depthAt) (maxL := 4) (ret := (some .int)) (by decide) rfl (Nat.le_of_ble_eq_true rfl) ?_
  intro p e s m below meth c ls hx hb hr hlocks hts hown hml hP hK hl
  have hown : s.vm.findClass RX2 = some m.cls := hown
  have hl : lv_has ls 4 [(0, .ref q_t), (1, .int p0)] := hl
  have hf_50 := hts (.fieldLink RX2 50 "MajorityIndex$Tree" "nodes" "I") (List.mem_of_getElem? (i := 1) rfl)
  have hi_2 : ∀ w ∈ u_ws RX2 TX2 11, w ∈ wsX2_depthAt := fun w h => List.mem_cons_of_mem _ (List.mem_append_right _ h)
  refine lv_iconst (v := 0) hx hb dX2_depthAt_0 (by decide) ?_
  refine lv_istore_n (lv' := [(2, .int 0), (0, .ref q_t), (1, .int p0)]) hx hb dX2_depthAt_1 rfl hl (by decide) rfl (fun ls hl => ?_)
  refine lv_iconst (v := 0) hx hb dX2_depthAt_2 (by decide) ?_
  refine lv_istore_n (lv' := [(3, .int 0), (2, .int 0), (0, .ref q_t), (1, .int p0)]) hx hb dX2_depthAt_3 rfl hl (by decide) rfl (fun ls hl => ?_)
  have LP1 : ∀ (n : Nat) (i : Int32) (deep : Int32), (0 ≤ i.toInt) → (nodes.toInt - i.toInt).toNat < n → ∀ (ls : Array Slot), lv_has ls 4 [(3, .int i), (2, .int deep), (0, .ref q_t), (1, .int p0)] → W p l e (headSpec wsX2_depthAt ({ frames := 1, cells := 0, slots := 0, locals := 45 })).room s m ([.ref q_t, .int p0] : List Value).toArray below meth c s.heap [] 0 0 (MQ below (vp_Si (fun r : Int32 => True)) ([.ref q_t, .int p0] : List Value).toArray s 0 0 (fun _ => False)) (F0 m 4 ls []) := by
    intro n
    induction n with
    | zero => intro i deep LP1_h0 hn; exact absurd hn (Nat.not_lt_zero _)
    | succ n ih1 =>
      intro i deep LP1_h0 hn1 ls hl
      refine lv_iload_n hx hb dX2_depthAt_4 rfl (lv_at hl 0 rfl) ?_
      refine lv_aload_n hx hb dX2_depthAt_5 rfl (lv_at hl 2 rfl) ?_
      refine va_get (D := (dC, dI)) (ci := 2) (v := .int nodes) (C := RX2) (T := TX2) (N := 11) hx hb hts hi_2 hown hK hP 0 rfl rfl 9 (by decide) hf_50 (fun _ h9 => h9) rfl dX2_depthAt_6 ?_
      refine lv_icmp_ge (tgt := 30) hx hb dX2_depthAt_9 (by decide) (fun c_1 => ?_) (fun c_1 => ?_)
      · have i_1 : nodes.toInt ≤ i.toInt := kc_le c_1
        refine lv_iload_n hx hb dX2_depthAt_30 rfl (lv_at hl 1 rfl) ?_
        exact W.iret (v := deep) hx hb hr (hlocks := hlocks) (fun t ht hW => ⟨deep, rfl, trivial, ht⟩) (fun q hq => by cases hq) dX2_depthAt_31
      · have i_1 : i.toInt < nodes.toInt := kc_nle c_1
        refine lv_aload_n hx hb dX2_depthAt_12 rfl (lv_at hl 2 rfl) ?_
        refine lv_iload_n hx hb dX2_depthAt_13 rfl (lv_at hl 0 rfl) ?_
        refine lv_iload_n hx hb dX2_depthAt_14 rfl (lv_at hl 3 rfl) ?_
        have hPc := hP
        have hKc := hK
        refine vp_callSi (W.runV (As := [.int i, .int p0]) (rest := []) ⟨hx, hb, hml, hown, hts⟩ (c_X2_hasPlace l dC dI q_t q_row q_joined q_from q_to q_size q_lossOf q_lessBy q_value q_number nodes here cyI ff ft i p0 LP1_h0 (om_122 c0 i_1)) (cwV 2 hts gX2_depthAt_X2_hasPlace rfl rfl rfl (by decide +kernel) ⟨Nat.le_of_ble_eq_true rfl, Nat.le_of_ble_eq_true rfl⟩) ⟨fun a U g mk q => by obtain ⟨q0, qP, qK⟩ := q; exact ⟨q0, qP, va_K.moved (u := U) (U := U.calling g mk a) (Vm.Alike.refl U.vm) qK⟩, kx_rc2 hKc hPc (q0 := 0) rfl, fun U hU hW => ⟨rfl, by rw [hU]; exact hPc, va_K.moved hW.alike hKc⟩⟩ rfl rfl hl.1 rfl (lv_room (Nat.le_of_ble_eq_true rfl)) dX2_depthAt_15 ⟨Nat.le_of_ble_eq_true rfl, Nat.le_of_ble_eq_true rfl⟩) (fun r_2 w_2 => ?_)
        rcases w_2 with ⟨rfl, w_2⟩ | ⟨rfl, w_2⟩
        · have w_2 : ((ff i.toNatClampNeg).toInt ≤ p0.toInt ∧ p0.toInt < (ft i.toNatClampNeg).toInt) := w_2
          refine lv_if_eq (tgt := 24) hx hb dX2_depthAt_18 (by decide) (fun c_3 => ?_) (fun c_3 => ?_)
          · exact absurd c_3 (by decide)
          · obtain ⟨x_4, ex_4⟩ : ∃ y : Int32, y = deep + 1 := ⟨_, rfl⟩
            refine lv_iinc (v := x_4) (lv' := [(2, .int x_4), (3, .int i), (0, .ref q_t), (1, .int p0)]) hx hb dX2_depthAt_21 hl (k := 1) rfl (by rw [ex_4]; rfl) (by decide) rfl (fun ls hl => ?_)
            obtain ⟨x_5, ex_5⟩ : ∃ y : Int32, y = i + 1 := ⟨_, rfl⟩
            have i_5 : x_5.toInt = i.toInt + 1 := ki_add ex_5 rfl rfl (om_13 LP1_h0) (om_125 c0 i_1)
            refine lv_iinc (v := x_5) (lv' := [(3, .int x_5), (2, .int x_4), (0, .ref q_t), (1, .int p0)]) hx hb dX2_depthAt_24 hl (k := 1) rfl (by rw [ex_5]; rfl) (by decide) rfl (fun ls hl => ?_)
            refine lv_goto (tgt := 4) hx hb dX2_depthAt_27 (by decide) ?_
            exact ih1 x_5 x_4 (om_34 LP1_h0 i_5) (om_mu hn1 (om_5 i_5) (om_6 i_1)) ls (lv_sub hl [0, 1, 2, 3] rfl)
        · have w_2 : (p0.toInt < (ff i.toNatClampNeg).toInt ∨ (ft i.toNatClampNeg).toInt ≤ p0.toInt) := w_2
          refine lv_if_eq (tgt := 24) hx hb dX2_depthAt_18 (by decide) (fun c_6 => ?_) (fun c_6 => ?_)
          · obtain ⟨x_7, ex_7⟩ : ∃ y : Int32, y = i + 1 := ⟨_, rfl⟩
            have i_7 : x_7.toInt = i.toInt + 1 := ki_add ex_7 rfl rfl (om_13 LP1_h0) (om_125 c0 i_1)
            refine lv_iinc (v := x_7) (lv' := [(3, .int x_7), (2, .int deep), (0, .ref q_t), (1, .int p0)]) hx hb dX2_depthAt_24 hl (k := 0) rfl (by rw [ex_7]; rfl) (by decide) rfl (fun ls hl => ?_)
            refine lv_goto (tgt := 4) hx hb dX2_depthAt_27 (by decide) ?_
            exact ih1 x_7 deep (om_34 LP1_h0 i_7) (om_mu hn1 (om_5 i_7) (om_6 i_1)) ls (lv_sub hl [0, 1, 2, 3] rfl)
          · exact absurd c_6 (by decide)
  have k_8 : (0 : Int32).toInt = 0 := rfl
  have k_9 : (0 : Int32).toInt = 0 := rfl
  exact LP1 ((nodes.toInt - 0 : Int).toNat + 1) 0 0 om_35 (Nat.lt_succ_self _) ls (lv_sub hl [0, 1, 2, 3] rfl)

set_option maxHeartbeats 4000000 in
set_option maxRecDepth 100000 in
theorem c_X2_onPath (l : Launch) (dC : Nat → ClassId) (dI : Nat → Nat → Nat) (q_t : Nat) (q_row : Nat) (q_joined : Nat) (q_from : Nat) (q_to : Nat) (q_size : Nat) (q_lossOf : Nat) (q_lessBy : Nat) (q_value : Nat) (q_number : Nat) (nodes : Int32) (here : Int32) (cyI : ClassId) (ff : Nat → Int32) (ft : Nat → Int32) (p0 : Int32) (p1 : Int32) (b0 : 0 ≤ nodes.toInt) (c0 : nodes.toInt ≤ 319) : Met l yX2_onPath wsX2_onPath ({ frames := 1, cells := 0, slots := 0, locals := 45 }) (va_Pc [.ref q_t, .int p0, .int p1] (fun U => va_P (dC, dI) vwCl [kx_2 q_t q_row q_joined q_from q_to q_size q_lossOf q_lessBy q_value q_number nodes here, kx_a q_from cyI 319 ff, kx_a q_to cyI 319 ft] U.heap ∧ va_K (dC, dI) vwCl [(cyI, .int)] U)) (vp_Si (fun r : Int32 => (r.toInt = -1 ∨ (0 ≤ r.toInt ∧ r.toInt < nodes.toInt)))) 0 0 (fun _ => False) := by
  refine kx_stS (ws := wsX2_onPath) (cc := cX2_onPath) (maxL := 5) (ret := (some .int)) (by decide) rfl (Nat.le_of_ble_eq_true rfl) ?_
  intro p e s m below meth c ls hx hb hr hlocks hts hown hml hP hK hl
  have hown : s.vm.findClass RX2 = some m.cls := hown
  have hl : lv_has ls 5 [(0, .ref q_t), (1, .int p0), (2, .int p1)] := hl
  have hf_50 := hts (.fieldLink RX2 50 "MajorityIndex$Tree" "nodes" "I") (List.mem_of_getElem? (i := 1) rfl)
  have hi_2 : ∀ w ∈ u_ws RX2 TX2 11, w ∈ wsX2_onPath := fun w h => List.mem_cons_of_mem _ (List.mem_append_right _ h)
  refine lv_iconst (v := 0) hx hb dX2_onPath_0 (by decide) ?_
  refine lv_istore_n (lv' := [(3, .int 0), (0, .ref q_t), (1, .int p0), (2, .int p1)]) hx hb dX2_onPath_1 rfl hl (by decide) rfl (fun ls hl => ?_)
  refine lv_iconst (v := 0) hx hb dX2_onPath_2 (by decide) ?_
  refine lv_istore (lv' := [(4, .int 0), (3, .int 0), (0, .ref q_t), (1, .int p0), (2, .int p1)]) hx hb dX2_onPath_3 hl (by decide) rfl (fun ls hl => ?_)
  have LP1 : ∀ (n : Nat) (i : Int32) (seen : Int32), (0 ≤ i.toInt) → (nodes.toInt - i.toInt).toNat < n → ∀ (ls : Array Slot), lv_has ls 5 [(4, .int i), (3, .int seen), (0, .ref q_t), (1, .int p0), (2, .int p1)] → W p l e (headSpec wsX2_onPath ({ frames := 1, cells := 0, slots := 0, locals := 45 })).room s m ([.ref q_t, .int p0, .int p1] : List Value).toArray below meth c s.heap [] 0 0 (MQ below (vp_Si (fun r : Int32 => (r.toInt = -1 ∨ (0 ≤ r.toInt ∧ r.toInt < nodes.toInt)))) ([.ref q_t, .int p0, .int p1] : List Value).toArray s 0 0 (fun _ => False)) (F0 m 5 ls []) := by
    intro n
    induction n with
    | zero => intro i seen LP1_h0 hn; exact absurd hn (Nat.not_lt_zero _)
    | succ n ih1 =>
      intro i seen LP1_h0 hn1 ls hl
      refine lv_iload hx hb dX2_onPath_5 (lv_at hl 0 rfl) ?_
      refine lv_aload_n hx hb dX2_onPath_7 rfl (lv_at hl 2 rfl) ?_
      refine va_get (D := (dC, dI)) (ci := 2) (v := .int nodes) (C := RX2) (T := TX2) (N := 11) hx hb hts hi_2 hown hK hP 0 rfl rfl 9 (by decide) hf_50 (fun _ h9 => h9) rfl dX2_onPath_8 ?_
      refine lv_icmp_ge (tgt := 41) hx hb dX2_onPath_11 (by decide) (fun c_1 => ?_) (fun c_1 => ?_)
      · have i_1 : nodes.toInt ≤ i.toInt := kc_le c_1
        refine lv_iconst (v := (-1)) hx hb dX2_onPath_41 (by decide) ?_
        exact W.iret (v := (-1)) hx hb hr (hlocks := hlocks) (fun t ht hW => ⟨(-1), rfl, (Or.inl rfl), ht⟩) (fun q hq => by cases hq) dX2_onPath_42
      · have i_1 : i.toInt < nodes.toInt := kc_nle c_1
        refine lv_aload_n hx hb dX2_onPath_14 rfl (lv_at hl 2 rfl) ?_
        refine lv_iload hx hb dX2_onPath_15 (lv_at hl 0 rfl) ?_
        refine lv_iload_n hx hb dX2_onPath_17 rfl (lv_at hl 3 rfl) ?_
        have hPc := hP
        have hKc := hK
        refine vp_callSi (W.runV (As := [.int i, .int p0]) (rest := []) ⟨hx, hb, hml, hown, hts⟩ (c_X2_hasPlace l dC dI q_t q_row q_joined q_from q_to q_size q_lossOf q_lessBy q_value q_number nodes here cyI ff ft i p0 LP1_h0 (om_122 c0 i_1)) (cwV 2 hts gX2_onPath_X2_hasPlace rfl rfl rfl (by decide +kernel) ⟨Nat.le_of_ble_eq_true rfl, Nat.le_of_ble_eq_true rfl⟩) ⟨fun a U g mk q => by obtain ⟨q0, qP, qK⟩ := q; exact ⟨q0, qP, va_K.moved (u := U) (U := U.calling g mk a) (Vm.Alike.refl U.vm) qK⟩, kx_rc2 hKc hPc (q0 := 0) rfl, fun U hU hW => ⟨rfl, by rw [hU]; exact hPc, va_K.moved hW.alike hKc⟩⟩ rfl rfl hl.1 rfl (lv_room (Nat.le_of_ble_eq_true rfl)) dX2_onPath_18 ⟨Nat.le_of_ble_eq_true rfl, Nat.le_of_ble_eq_true rfl⟩) (fun r_2 w_2 => ?_)
        rcases w_2 with ⟨rfl, w_2⟩ | ⟨rfl, w_2⟩
        · have w_2 : ((ff i.toNatClampNeg).toInt ≤ p0.toInt ∧ p0.toInt < (ft i.toNatClampNeg).toInt) := w_2
          refine lv_if_eq (tgt := 35) hx hb dX2_onPath_21 (by decide) (fun c_3 => ?_) (fun c_3 => ?_)
          · exact absurd c_3 (by decide)
          · refine lv_iload_n hx hb dX2_onPath_24 rfl (lv_at hl 1 rfl) ?_
            refine lv_iload_n hx hb dX2_onPath_25 rfl (lv_at hl 4 rfl) ?_
            refine lv_icmp_ne (tgt := 32) hx hb dX2_onPath_26 (by decide) (fun c_4 => ?_) (fun c_4 => ?_)
            · have i_4 : ¬ seen.toInt = p1.toInt := kc_ne c_4
              obtain ⟨x_5, ex_5⟩ : ∃ y : Int32, y = seen + 1 := ⟨_, rfl⟩
              refine lv_iinc (v := x_5) (lv' := [(3, .int x_5), (4, .int i), (0, .ref q_t), (1, .int p0), (2, .int p1)]) hx hb dX2_onPath_32 hl (k := 1) rfl (by rw [ex_5]; rfl) (by decide) rfl (fun ls hl => ?_)
              obtain ⟨x_6, ex_6⟩ : ∃ y : Int32, y = i + 1 := ⟨_, rfl⟩
              have i_6 : x_6.toInt = i.toInt + 1 := ki_add ex_6 rfl rfl (om_13 LP1_h0) (om_125 c0 i_1)
              refine lv_iinc (v := x_6) (lv' := [(4, .int x_6), (3, .int x_5), (0, .ref q_t), (1, .int p0), (2, .int p1)]) hx hb dX2_onPath_35 hl (k := 1) rfl (by rw [ex_6]; rfl) (by decide) rfl (fun ls hl => ?_)
              refine lv_goto (tgt := 5) hx hb dX2_onPath_38 (by decide) ?_
              exact ih1 x_6 x_5 (om_34 LP1_h0 i_6) (om_mu hn1 (om_5 i_6) (om_6 i_1)) ls (lv_sub hl [0, 1, 2, 3, 4] rfl)
            · have i_4 : seen.toInt = p1.toInt := kc_eq c_4
              refine lv_iload hx hb dX2_onPath_29 (lv_at hl 0 rfl) ?_
              exact W.iret (v := i) hx hb hr (hlocks := hlocks) (fun t ht hW => ⟨i, rfl, (by (try dsimp only); omega), ht⟩) (fun q hq => by cases hq) dX2_onPath_31
        · have w_2 : (p0.toInt < (ff i.toNatClampNeg).toInt ∨ (ft i.toNatClampNeg).toInt ≤ p0.toInt) := w_2
          refine lv_if_eq (tgt := 35) hx hb dX2_onPath_21 (by decide) (fun c_7 => ?_) (fun c_7 => ?_)
          · obtain ⟨x_8, ex_8⟩ : ∃ y : Int32, y = i + 1 := ⟨_, rfl⟩
            have i_8 : x_8.toInt = i.toInt + 1 := ki_add ex_8 rfl rfl (om_13 LP1_h0) (om_125 c0 i_1)
            refine lv_iinc (v := x_8) (lv' := [(4, .int x_8), (3, .int seen), (0, .ref q_t), (1, .int p0), (2, .int p1)]) hx hb dX2_onPath_35 hl (k := 0) rfl (by rw [ex_8]; rfl) (by decide) rfl (fun ls hl => ?_)
            refine lv_goto (tgt := 5) hx hb dX2_onPath_38 (by decide) ?_
            exact ih1 x_8 seen (om_34 LP1_h0 i_8) (om_mu hn1 (om_5 i_8) (om_6 i_1)) ls (lv_sub hl [0, 1, 2, 3, 4] rfl)
          · exact absurd c_7 (by decide)
  have k_9 : (0 : Int32).toInt = 0 := rfl
  have k_10 : (0 : Int32).toInt = 0 := rfl
  exact LP1 ((nodes.toInt - 0 : Int).toNat + 1) 0 0 om_35 (Nat.lt_succ_self _) ls (lv_sub hl [0, 1, 2, 3, 4] rfl)

set_option maxHeartbeats 4000000 in
set_option maxRecDepth 100000 in
theorem c_X2_numberIn (l : Launch) (dC : Nat → ClassId) (dI : Nat → Nat → Nat) (q_t : Nat) (q_row : Nat) (q_joined : Nat) (q_from : Nat) (q_to : Nat) (q_size : Nat) (q_lossOf : Nat) (q_lessBy : Nat) (q_value : Nat) (q_number : Nat) (nodes : Int32) (here : Int32) (cyI : ClassId) (fs : Nat → Int32) (uv : Nat → Int32) (un : Nat → Int32) (p0 : Int32) (p1 : Int32) (b0 : 0 ≤ p0.toInt) (b1 : p0.toInt < 319) (s0 : sixes fs) : Met l yX2_numberIn wsX2_numberIn ({ frames := 0, cells := 0, slots := 0, locals := 0 }) (va_Pc [.ref q_t, .int p0, .int p1] (fun U => va_P (dC, dI) vwCl [kx_2 q_t q_row q_joined q_from q_to q_size q_lossOf q_lessBy q_value q_number nodes here, kx_a q_size cyI 319 fs, kx_a q_value cyI 1914 uv, kx_a q_number cyI 1914 un] U.heap ∧ va_K (dC, dI) vwCl [(cyI, .int)] U)) (vp_Si (fun r : Int32 => True)) 0 0 (fun _ => False) := by
  refine kx_stS (ws := wsX2_numberIn) (cc := cX2_numberIn) (maxL := 5) (ret := (some .int)) (by decide) rfl (Nat.le_of_ble_eq_true rfl) ?_
  intro p e s m below meth c ls hx hb hr hlocks hts hown hml hP hK hl
  have hown : s.vm.findClass RX2 = some m.cls := hown
  have hl : lv_has ls 5 [(0, .ref q_t), (1, .int p0), (2, .int p1)] := hl
  have hf_25 := hts (.fieldLink RX2 25 "MajorityIndex$Tree" "size" "[I") (List.mem_of_getElem? (i := 1) rfl)
  have hi_2 : ∀ w ∈ u_ws RX2 TX2 11, w ∈ wsX2_numberIn := fun w h => List.mem_cons_of_mem _ (List.mem_append_right _ h)
  have hf_34 := hts (.fieldLink RX2 34 "MajorityIndex$Tree" "value" "[I") (List.mem_of_getElem? (i := 2) rfl)
  have hf_37 := hts (.fieldLink RX2 37 "MajorityIndex$Tree" "number" "[I") (List.mem_of_getElem? (i := 3) rfl)
  refine lv_iload_n hx hb dX2_numberIn_0 rfl (lv_at hl 1 rfl) ?_
  refine lv_bipush (v := 6) hx hb dX2_numberIn_1 (by decide) ?_
  refine lv_imul hx hb dX2_numberIn_3 ?_
  refine lv_topi (fun y_1 ey_1 => ?_)
  have i_1 : y_1.toInt = p0.toInt * 6 := ki_mul ey_1 rfl rfl (om_95 b0) (om_96 b1)
  refine lv_istore_n (lv' := [(3, .int y_1), (0, .ref q_t), (1, .int p0), (2, .int p1)]) hx hb dX2_numberIn_4 rfl hl (by decide) rfl (fun ls hl => ?_)
  refine lv_iconst (v := 0) hx hb dX2_numberIn_5 (by decide) ?_
  refine lv_istore (lv' := [(4, .int 0), (3, .int y_1), (0, .ref q_t), (1, .int p0), (2, .int p1)]) hx hb dX2_numberIn_6 hl (by decide) rfl (fun ls hl => ?_)
  have LP1 : ∀ (n : Nat) (i : Int32), (0 ≤ i.toInt) → (6 - i.toInt).toNat < n → ∀ (ls : Array Slot), lv_has ls 5 [(4, .int i), (3, .int y_1), (0, .ref q_t), (1, .int p0), (2, .int p1)] → W p l e (headSpec wsX2_numberIn ({ frames := 0, cells := 0, slots := 0, locals := 0 })).room s m ([.ref q_t, .int p0, .int p1] : List Value).toArray below meth c s.heap [] 0 0 (MQ below (vp_Si (fun r : Int32 => True)) ([.ref q_t, .int p0, .int p1] : List Value).toArray s 0 0 (fun _ => False)) (F0 m 8 ls []) := by
    intro n
    induction n with
    | zero => intro i LP1_h0 hn; exact absurd hn (Nat.not_lt_zero _)
    | succ n ih1 =>
      intro i LP1_h0 hn1 ls hl
      refine lv_iload hx hb dX2_numberIn_8 (lv_at hl 0 rfl) ?_
      refine lv_aload_n hx hb dX2_numberIn_10 rfl (lv_at hl 2 rfl) ?_
      refine va_get (D := (dC, dI)) (ci := 2) (v := .ref q_size) (C := RX2) (T := TX2) (N := 11) hx hb hts hi_2 hown hK hP 0 rfl rfl 4 (by decide) hf_25 (fun _ h9 => h9) rfl dX2_numberIn_11 ?_
      refine lv_iload_n hx hb dX2_numberIn_14 rfl (lv_at hl 3 rfl) ?_
      refine va_iald hx hb hK hP 1 0 rfl rfl (ki_in (om_10 b0) (om_61 b1)) dX2_numberIn_15 ?_
      refine lv_topi (fun y_2 ey_2 => ?_)
      have j_2 : y_2.toInt = (fs p0.toNatClampNeg).toInt := congrArg Int32.toInt ey_2
      have n_3 : (p0.toNatClampNeg : Int) = p0.toInt := ki_nat _ rfl (om_10 b0)
      have i_4 := s0 p0.toNatClampNeg (om_ln n_3 (om_61 b1))
      refine lv_icmp_ge (tgt := 48) hx hb dX2_numberIn_16 (by decide) (fun c_5 => ?_) (fun c_5 => ?_)
      · have i_5 : y_2.toInt ≤ i.toInt := kc_le c_5
        refine lv_iconst (v := 0) hx hb dX2_numberIn_48 (by decide) ?_
        exact W.iret (v := 0) hx hb hr (hlocks := hlocks) (fun t ht hW => ⟨0, rfl, trivial, ht⟩) (fun q hq => by cases hq) dX2_numberIn_49
      · have i_5 : i.toInt < y_2.toInt := kc_nle c_5
        refine lv_aload_n hx hb dX2_numberIn_19 rfl (lv_at hl 2 rfl) ?_
        refine va_get (D := (dC, dI)) (ci := 2) (v := .ref q_value) (C := RX2) (T := TX2) (N := 11) hx hb hts hi_2 hown hK hP 0 rfl rfl 7 (by decide) hf_34 (fun _ h9 => h9) rfl dX2_numberIn_20 ?_
        refine lv_iload_n hx hb dX2_numberIn_23 rfl (lv_at hl 1 rfl) ?_
        refine lv_iload hx hb dX2_numberIn_24 (lv_at hl 0 rfl) ?_
        refine lv_iadd hx hb dX2_numberIn_26 ?_
        refine lv_topi (fun y_6 ey_6 => ?_)
        have i_6 : y_6.toInt = y_1.toInt + i.toInt := ki_add ey_6 rfl rfl (om_97 b0 i_1 LP1_h0) (om_98 b1 i_1 j_2 i_4.2 i_5)
        refine va_iald hx hb hK hP 2 0 rfl rfl (ki_in (om_99 b0 i_1 LP1_h0 i_6) (om_100 b1 i_1 j_2 i_4.2 i_5 i_6)) dX2_numberIn_27 ?_
        refine lv_topi (fun y_7 ey_7 => ?_)
        have j_7 : y_7.toInt = (uv y_6.toNatClampNeg).toInt := congrArg Int32.toInt ey_7
        refine lv_iload_n hx hb dX2_numberIn_28 rfl (lv_at hl 4 rfl) ?_
        refine lv_icmp_ne (tgt := 42) hx hb dX2_numberIn_29 (by decide) (fun c_8 => ?_) (fun c_8 => ?_)
        · have i_8 : ¬ y_7.toInt = p1.toInt := kc_ne c_8
          obtain ⟨x_9, ex_9⟩ : ∃ y : Int32, y = i + 1 := ⟨_, rfl⟩
          have i_9 : x_9.toInt = i.toInt + 1 := ki_add ex_9 rfl rfl (om_13 LP1_h0) (om_101 j_2 i_4.2 i_5)
          refine lv_iinc (v := x_9) (lv' := [(4, .int x_9), (3, .int y_1), (0, .ref q_t), (1, .int p0), (2, .int p1)]) hx hb dX2_numberIn_42 hl (k := 0) rfl (by rw [ex_9]; rfl) (by decide) rfl (fun ls hl => ?_)
          refine lv_goto (tgt := 8) hx hb dX2_numberIn_45 (by decide) ?_
          exact ih1 x_9 (om_34 LP1_h0 i_9) (om_mu hn1 (om_102 i_9) (om_103 j_2 i_4.2 i_5)) ls (lv_sub hl [0, 1, 2, 3, 4] rfl)
        · have i_8 : y_7.toInt = p1.toInt := kc_eq c_8
          refine lv_aload_n hx hb dX2_numberIn_32 rfl (lv_at hl 2 rfl) ?_
          refine va_get (D := (dC, dI)) (ci := 2) (v := .ref q_number) (C := RX2) (T := TX2) (N := 11) hx hb hts hi_2 hown hK hP 0 rfl rfl 8 (by decide) hf_37 (fun _ h9 => h9) rfl dX2_numberIn_33 ?_
          refine lv_iload_n hx hb dX2_numberIn_36 rfl (lv_at hl 1 rfl) ?_
          refine lv_iload hx hb dX2_numberIn_37 (lv_at hl 0 rfl) ?_
          refine lv_iadd hx hb dX2_numberIn_39 ?_
          refine lv_topi (fun y_10 ey_10 => ?_)
          have i_10 : y_10.toInt = y_1.toInt + i.toInt := ki_add ey_10 rfl rfl (om_97 b0 i_1 LP1_h0) (om_98 b1 i_1 j_2 i_4.2 i_5)
          refine va_iald hx hb hK hP 3 0 rfl rfl (ki_in (om_99 b0 i_1 LP1_h0 i_10) (om_100 b1 i_1 j_2 i_4.2 i_5 i_10)) dX2_numberIn_40 ?_
          refine lv_topi (fun y_11 ey_11 => ?_)
          have j_11 : y_11.toInt = (un y_10.toNatClampNeg).toInt := congrArg Int32.toInt ey_11
          exact W.iret (v := y_11) hx hb hr (hlocks := hlocks) (fun t ht hW => ⟨y_11, rfl, trivial, ht⟩) (fun q hq => by cases hq) dX2_numberIn_41
  have k_12 : (0 : Int32).toInt = 0 := rfl
  exact LP1 ((6 - 0 : Int).toNat + 1) 0 om_35 (Nat.lt_succ_self _) ls (lv_sub hl [0, 1, 2, 3, 4] rfl)

set_option maxHeartbeats 4000000 in
set_option maxRecDepth 100000 in
theorem c_X2_holding (l : Launch) (dC : Nat → ClassId) (dI : Nat → Nat → Nat) (q_t : Nat) (q_row : Nat) (q_joined : Nat) (q_from : Nat) (q_to : Nat) (q_size : Nat) (q_lossOf : Nat) (q_lessBy : Nat) (q_value : Nat) (q_number : Nat) (nodes : Int32) (here : Int32) (q_cell : Nat) (cyI : ClassId) (len : Int32) (f : Nat → Int32) (ff : Nat → Int32) (ft : Nat → Int32) (fs : Nat → Int32) (uv : Nat → Int32) (un : Nat → Int32) (p0 : Int32) (b0 : 0 ≤ nodes.toInt) (c0 : nodes.toInt ≤ 319) (s0 : sixes fs) (d0 : 0 ≤ p0.toInt) (d1 : p0.toInt < 160) : Met l yX2_holding wsX2_holding ({ frames := 1, cells := 0, slots := 0, locals := 45 }) (va_Pc [.ref q_t, .int p0] (fun U => va_P (dC, dI) vwCl [kx_2 q_t q_row q_joined q_from q_to q_size q_lossOf q_lessBy q_value q_number nodes here, kx_0 q_row q_cell len, kx_a q_cell cyI 160 f, kx_a q_from cyI 319 ff, kx_a q_to cyI 319 ft, kx_a q_size cyI 319 fs, kx_a q_value cyI 1914 uv, kx_a q_number cyI 1914 un] U.heap ∧ va_K (dC, dI) vwCl [(cyI, .int)] U)) (vp_Si (fun r : Int32 => True)) 0 0 (fun _ => False) := by
  refine kx_stS (ws := wsX2_holding) (cc := cX2_holding) (maxL := 4) (ret := (some .int)) (by decide) rfl (Nat.le_of_ble_eq_true rfl) ?_
  intro p e s m below meth c ls hx hb hr hlocks hts hown hml hP hK hl
  have hown : s.vm.findClass RX2 = some m.cls := hown
  have hl : lv_has ls 4 [(0, .ref q_t), (1, .int p0)] := hl
  have hf_50 := hts (.fieldLink RX2 50 "MajorityIndex$Tree" "nodes" "I") (List.mem_of_getElem? (i := 1) rfl)
  have hi_2 : ∀ w ∈ u_ws RX2 TX2 11, w ∈ wsX2_holding := fun w h => List.mem_cons_of_mem _ (List.mem_append_left _ (List.mem_append_right _ h))
  have hf_40 := hts (.fieldLink RX2 40 "MajorityIndex$Tree" "row" "LMajorityIndex$Row;") (List.mem_of_getElem? (i := 2) rfl)
  have hf_74 := hts (.fieldLink RX2 74 "MajorityIndex$Row" "cell" "[I") (List.mem_of_getElem? (i := 3) rfl)
  have hi_0 : ∀ w ∈ u_ws RX0 TX0 2, w ∈ wsX2_holding := fun w h => List.mem_cons_of_mem _ (List.mem_append_right _ h)
  refine lv_iconst (v := 0) hx hb dX2_holding_0 (by decide) ?_
  refine lv_istore_n (lv' := [(2, .int 0), (0, .ref q_t), (1, .int p0)]) hx hb dX2_holding_1 rfl hl (by decide) rfl (fun ls hl => ?_)
  refine lv_aload_n hx hb dX2_holding_2 rfl (lv_at hl 1 rfl) ?_
  refine va_get (D := (dC, dI)) (ci := 2) (v := .int nodes) (C := RX2) (T := TX2) (N := 11) hx hb hts hi_2 hown hK hP 0 rfl rfl 9 (by decide) hf_50 (fun _ h9 => h9) rfl dX2_holding_3 ?_
  refine lv_iconst (v := 1) hx hb dX2_holding_6 (by decide) ?_
  refine lv_isub hx hb dX2_holding_7 ?_
  refine lv_topi (fun y_1 ey_1 => ?_)
  have i_1 : y_1.toInt = nodes.toInt - 1 := ki_sub ey_1 rfl rfl (om_113 b0) (om_114 c0)
  refine lv_istore_n (lv' := [(3, .int y_1), (2, .int 0), (0, .ref q_t), (1, .int p0)]) hx hb dX2_holding_8 rfl hl (by decide) rfl (fun ls hl => ?_)
  have LP1 : ∀ (n : Nat) (many : Int32) (i : Int32), (i.toInt < nodes.toInt) → (-1 ≤ i.toInt) → (i.toInt + 1).toNat < n → ∀ (ls : Array Slot), lv_has ls 4 [(3, .int i), (2, .int many), (0, .ref q_t), (1, .int p0)] → W p l e (headSpec wsX2_holding ({ frames := 1, cells := 0, slots := 0, locals := 45 })).room s m ([.ref q_t, .int p0] : List Value).toArray below meth c s.heap [] 0 0 (MQ below (vp_Si (fun r : Int32 => True)) ([.ref q_t, .int p0] : List Value).toArray s 0 0 (fun _ => False)) (F0 m 9 ls []) := by
    intro n
    induction n with
    | zero => intro many i LP1_h0 LP1_h1 hn; exact absurd hn (Nat.not_lt_zero _)
    | succ n ih1 =>
      intro many i LP1_h0 LP1_h1 hn1 ls hl
      refine lv_iload_n hx hb dX2_holding_9 rfl (lv_at hl 0 rfl) ?_
      refine lv_if_lt (tgt := 50) hx hb dX2_holding_10 (by decide) (fun c_2 => ?_) (fun c_2 => ?_)
      · have i_2 : i.toInt < 0 := kc_lt c_2
        refine lv_iload_n hx hb dX2_holding_50 rfl (lv_at hl 1 rfl) ?_
        exact W.iret (v := many) hx hb hr (hlocks := hlocks) (fun t ht hW => ⟨many, rfl, trivial, ht⟩) (fun q hq => by cases hq) dX2_holding_51
      · have i_2 : 0 ≤ i.toInt := kc_nlt c_2
        refine lv_aload_n hx hb dX2_holding_13 rfl (lv_at hl 2 rfl) ?_
        refine lv_iload_n hx hb dX2_holding_14 rfl (lv_at hl 0 rfl) ?_
        refine lv_iload_n hx hb dX2_holding_15 rfl (lv_at hl 3 rfl) ?_
        have hPc := hP.sub (ws' := [kx_2 q_t q_row q_joined q_from q_to q_size q_lossOf q_lessBy q_value q_number nodes here, kx_a q_from cyI 319 ff, kx_a q_to cyI 319 ft]) [0, 3, 4] rfl
        have hKc := hK
        refine vp_callSi (W.runV (As := [.int i, .int p0]) (rest := []) ⟨hx, hb, hml, hown, hts⟩ (c_X2_hasPlace l dC dI q_t q_row q_joined q_from q_to q_size q_lossOf q_lessBy q_value q_number nodes here cyI ff ft i p0 i_2 (om_122 c0 LP1_h0)) (cwV 2 hts gX2_holding_X2_hasPlace rfl rfl rfl (by decide +kernel) ⟨Nat.le_of_ble_eq_true rfl, Nat.le_of_ble_eq_true rfl⟩) ⟨fun a U g mk q => by obtain ⟨q0, qP, qK⟩ := q; exact ⟨q0, qP, va_K.moved (u := U) (U := U.calling g mk a) (Vm.Alike.refl U.vm) qK⟩, kx_rc2 hKc hPc (q0 := 0) rfl, fun U hU hW => ⟨rfl, by rw [hU]; exact hPc, va_K.moved hW.alike hKc⟩⟩ rfl rfl hl.1 rfl (lv_room (Nat.le_of_ble_eq_true rfl)) dX2_holding_16 ⟨Nat.le_of_ble_eq_true rfl, Nat.le_of_ble_eq_true rfl⟩) (fun r_3 w_3 => ?_)
        rcases w_3 with ⟨rfl, w_3⟩ | ⟨rfl, w_3⟩
        · have w_3 : ((ff i.toNatClampNeg).toInt ≤ p0.toInt ∧ p0.toInt < (ft i.toNatClampNeg).toInt) := w_3
          refine lv_if_eq (tgt := 44) hx hb dX2_holding_19 (by decide) (fun c_4 => ?_) (fun c_4 => ?_)
          · exact absurd c_4 (by decide)
          · refine lv_aload_n hx hb dX2_holding_22 rfl (lv_at hl 2 rfl) ?_
            refine lv_iload_n hx hb dX2_holding_23 rfl (lv_at hl 0 rfl) ?_
            refine lv_aload_n hx hb dX2_holding_24 rfl (lv_at hl 2 rfl) ?_
            refine va_get (D := (dC, dI)) (ci := 2) (v := .ref q_row) (C := RX2) (T := TX2) (N := 11) hx hb hts hi_2 hown hK hP 0 rfl rfl 0 (by decide) hf_40 (fun _ h9 => h9) rfl dX2_holding_25 ?_
            refine va_get (D := (dC, dI)) (ci := 0) (v := .ref q_cell) (C := RX0) (T := TX0) (N := 2) hx hb hts hi_0 hown hK hP 1 rfl rfl 0 (by decide) hf_74 (fun _ h9 => h9) rfl dX2_holding_28 ?_
            refine lv_iload_n hx hb dX2_holding_31 rfl (lv_at hl 3 rfl) ?_
            refine va_iald hx hb hK hP 2 0 rfl rfl (ki_in (om_10 d0) (om_12 d1)) dX2_holding_32 ?_
            refine lv_topi (fun y_5 ey_5 => ?_)
            have j_5 : y_5.toInt = (f p0.toNatClampNeg).toInt := congrArg Int32.toInt ey_5
            have hPc := kx_selP (ws' := [kx_2 q_t q_row q_joined q_from q_to q_size q_lossOf q_lessBy q_value q_number nodes here, kx_a q_size cyI 319 fs, kx_a q_value cyI 1914 uv, kx_a q_number cyI 1914 un]) hP [true, false, false, false, false, true, true, true] rfl
            have hKc := hK
            refine vp_callSi (W.runV (As := [.int i, .int y_5]) (rest := []) ⟨hx, hb, hml, hown, hts⟩ (c_X2_numberIn l dC dI q_t q_row q_joined q_from q_to q_size q_lossOf q_lessBy q_value q_number nodes here cyI fs uv un i y_5 i_2 (om_122 c0 LP1_h0) s0) (cwV 2 hts gX2_holding_X2_numberIn rfl rfl rfl (by decide +kernel) ⟨Nat.le_of_ble_eq_true rfl, Nat.le_of_ble_eq_true rfl⟩) ⟨fun a U g mk q => by obtain ⟨q0, qP, qK⟩ := q; exact ⟨q0, qP, va_K.moved (u := U) (U := U.calling g mk a) (Vm.Alike.refl U.vm) qK⟩, kx_rc2 hKc hPc (q0 := 0) rfl, fun U hU hW => ⟨rfl, by rw [hU]; exact hPc, va_K.moved hW.alike hKc⟩⟩ rfl rfl hl.1 rfl (lv_room (Nat.le_of_ble_eq_true rfl)) dX2_holding_33 ⟨Nat.le_of_ble_eq_true rfl, Nat.le_of_ble_eq_true rfl⟩) (fun r_6 w_6 => ?_)
            refine lv_if_ne (tgt := 41) hx hb dX2_holding_36 (by decide) (fun c_7 => ?_) (fun c_7 => ?_)
            · have i_7 : ¬ r_6.toInt = 0 := kc_ne c_7
              obtain ⟨x_8, ex_8⟩ : ∃ y : Int32, y = many + 1 := ⟨_, rfl⟩
              refine lv_iinc (v := x_8) (lv' := [(2, .int x_8), (3, .int i), (0, .ref q_t), (1, .int p0)]) hx hb dX2_holding_41 hl (k := 1) rfl (by rw [ex_8]; rfl) (by decide) rfl (fun ls hl => ?_)
              obtain ⟨x_9, ex_9⟩ : ∃ y : Int32, y = i + (-1) := ⟨_, rfl⟩
              have i_9 : x_9.toInt = i.toInt + (-1) := ki_add ex_9 rfl rfl (om_116 i_2) (om_117 c0 LP1_h0)
              refine lv_iinc (v := x_9) (lv' := [(3, .int x_9), (2, .int x_8), (0, .ref q_t), (1, .int p0)]) hx hb dX2_holding_44 hl (k := 1) rfl (by rw [ex_9]; rfl) (by decide) rfl (fun ls hl => ?_)
              refine lv_goto (tgt := 9) hx hb dX2_holding_47 (by decide) ?_
              exact ih1 x_8 x_9 (om_118 LP1_h0 i_9) (om_119 i_2 i_9) (om_mu hn1 (om_120 i_9) (om_121 i_2)) ls (lv_sub hl [0, 1, 2, 3] rfl)
            · have i_7 : r_6.toInt = 0 := kc_eq c_7
              refine lv_iload_n hx hb dX2_holding_39 rfl (lv_at hl 1 rfl) ?_
              exact W.iret (v := many) hx hb hr (hlocks := hlocks) (fun t ht hW => ⟨many, rfl, trivial, ht⟩) (fun q hq => by cases hq) dX2_holding_40
        · have w_3 : (p0.toInt < (ff i.toNatClampNeg).toInt ∨ (ft i.toNatClampNeg).toInt ≤ p0.toInt) := w_3
          refine lv_if_eq (tgt := 44) hx hb dX2_holding_19 (by decide) (fun c_10 => ?_) (fun c_10 => ?_)
          · obtain ⟨x_11, ex_11⟩ : ∃ y : Int32, y = i + (-1) := ⟨_, rfl⟩
            have i_11 : x_11.toInt = i.toInt + (-1) := ki_add ex_11 rfl rfl (om_116 i_2) (om_117 c0 LP1_h0)
            refine lv_iinc (v := x_11) (lv' := [(3, .int x_11), (2, .int many), (0, .ref q_t), (1, .int p0)]) hx hb dX2_holding_44 hl (k := 0) rfl (by rw [ex_11]; rfl) (by decide) rfl (fun ls hl => ?_)
            refine lv_goto (tgt := 9) hx hb dX2_holding_47 (by decide) ?_
            exact ih1 many x_11 (om_118 LP1_h0 i_11) (om_119 i_2 i_11) (om_mu hn1 (om_120 i_11) (om_121 i_2)) ls (lv_sub hl [0, 1, 2, 3] rfl)
          · exact absurd c_10 (by decide)
  have k_12 : (0 : Int32).toInt = 0 := rfl
  exact LP1 ((y_1.toInt + 1 : Int).toNat + 1) 0 y_1 (om_123 i_1) (om_124 b0 i_1) (Nat.lt_succ_self _) ls (lv_sub hl [0, 1, 2, 3] rfl)

set_option maxHeartbeats 4000000 in
set_option maxRecDepth 100000 in
theorem c_X2_nodesWithMajority (l : Launch) (dC : Nat → ClassId) (dI : Nat → Nat → Nat) (q_t : Nat) (q_row : Nat) (q_joined : Nat) (q_from : Nat) (q_to : Nat) (q_size : Nat) (q_lossOf : Nat) (q_lessBy : Nat) (q_value : Nat) (q_number : Nat) (nodes : Int32) (here : Int32) (q_cell : Nat) (cyI : ClassId) (len : Int32) (f : Nat → Int32) (ff : Nat → Int32) (ft : Nat → Int32) (b0 : 0 ≤ nodes.toInt) (c0 : nodes.toInt ≤ 319) (c1 : len.toInt ≤ 160) (t0 : treeOk ff ft nodes.toInt len.toInt) : Met l yX2_nodesWithMajority wsX2_nodesWithMajority ({ frames := 2, cells := 0, slots := 0, locals := 90 }) (va_Pc [.ref q_t] (fun U => va_P (dC, dI) vwCl [kx_2 q_t q_row q_joined q_from q_to q_size q_lossOf q_lessBy q_value q_number nodes here, kx_0 q_row q_cell len, kx_a q_cell cyI 160 f, kx_a q_from cyI 319 ff, kx_a q_to cyI 319 ft] U.heap ∧ va_K (dC, dI) vwCl [(cyI, .int)] U ∧ va_Nw (.methodLinkNest RX0 28 yX4_isHeavy RX4) U)) (vp_Si (fun r : Int32 => True)) 0 0 (fun _ => False) := by
  refine Met.ofW (cc := cX2_nodesWithMajority) (maxL := 3) (ret := (some .int)) (by decide) rfl ?_
  intro p e s m args below meth c s₁ B hml hv
  obtain ⟨rfl, hP, hK, hN0⟩ := hv
  have hx := B.exec
  have hb := B.bytes
  have hr := B.returns
  have hts := atoms_spec (ws := wsX2_nodesWithMajority) B.pre
  have hown : s.vm.findClass RX2 = some m.cls := findClass_of_methodNamed B.named
  have hlocks := B.notSynchronized
  have hP : va_P (dC, dI) vwCl [kx_2 q_t q_row q_joined q_from q_to q_size q_lossOf q_lessBy q_value q_number nodes here, kx_0 q_row q_cell len, kx_a q_cell cyI 160 f, kx_a q_from cyI 319 ff, kx_a q_to cyI 319 ft] s.heap := hP
  have hl := lv_entry ([.ref q_t]) (n := 3) (Nat.le_of_ble_eq_true rfl)
  rw [lg_entry_eq]
  generalize (lg_sl ([.ref q_t]) ++ List.replicate (3 - (lg_sl ([.ref q_t])).length) Slot.unset).toArray = ls at hl ⊢
  have hl : lv_has ls 3 [(0, .ref q_t)] := hl
  have hf_50 := hts (.fieldLink RX2 50 "MajorityIndex$Tree" "nodes" "I") (List.mem_of_getElem? (i := 1) rfl)
  have hi_2 : ∀ w ∈ u_ws RX2 TX2 11, w ∈ wsX2_nodesWithMajority := fun w h => List.mem_cons_of_mem _ (List.mem_append_left _ (List.mem_append_right _ h))
  have hf_40 := hts (.fieldLink RX2 40 "MajorityIndex$Tree" "row" "LMajorityIndex$Row;") (List.mem_of_getElem? (i := 2) rfl)
  have hf_18 := hts (.fieldLink RX2 18 "MajorityIndex$Tree" "from" "[I") (List.mem_of_getElem? (i := 3) rfl)
  have hf_22 := hts (.fieldLink RX2 22 "MajorityIndex$Tree" "to" "[I") (List.mem_of_getElem? (i := 4) rfl)
  have hk_120 := hts (.constant RX2 120 (-40000)) (List.mem_of_getElem? (i := 5) rfl)
  refine lv_iconst (v := 0) hx hb dX2_nodesWithMajority_0 (by decide) ?_
  refine lv_istore_n (lv' := [(1, .int 0), (0, .ref q_t)]) hx hb dX2_nodesWithMajority_1 rfl hl (by decide) rfl (fun ls hl => ?_)
  refine lv_iconst (v := 0) hx hb dX2_nodesWithMajority_2 (by decide) ?_
  refine lv_istore_n (lv' := [(2, .int 0), (1, .int 0), (0, .ref q_t)]) hx hb dX2_nodesWithMajority_3 rfl hl (by decide) rfl (fun ls hl => ?_)
  have LP1 : ∀ (n : Nat) (i : Int32) (many : Int32), (0 ≤ i.toInt) → (nodes.toInt - i.toInt).toNat < n → ∀ (ls : Array Slot), lv_has ls 3 [(2, .int i), (1, .int many), (0, .ref q_t)] → W p l e (headSpec wsX2_nodesWithMajority ({ frames := 2, cells := 0, slots := 0, locals := 90 })).room s m ([.ref q_t] : List Value).toArray below meth c s.heap [] 0 0 (MQ below (vp_Si (fun r : Int32 => True)) ([.ref q_t] : List Value).toArray s 0 0 (fun _ => False)) (F0 m 4 ls []) := by
    intro n
    induction n with
    | zero => intro i many LP1_h0 hn; exact absurd hn (Nat.not_lt_zero _)
    | succ n ih1 =>
      intro i many LP1_h0 hn1 ls hl
      refine lv_iload_n hx hb dX2_nodesWithMajority_4 rfl (lv_at hl 0 rfl) ?_
      refine lv_aload_n hx hb dX2_nodesWithMajority_5 rfl (lv_at hl 2 rfl) ?_
      refine va_get (D := (dC, dI)) (ci := 2) (v := .int nodes) (C := RX2) (T := TX2) (N := 11) hx hb hts hi_2 hown hK hP 0 rfl rfl 9 (by decide) hf_50 (fun _ h9 => h9) rfl dX2_nodesWithMajority_6 ?_
      refine lv_icmp_ge (tgt := 45) hx hb dX2_nodesWithMajority_9 (by decide) (fun c_1 => ?_) (fun c_1 => ?_)
      · have i_1 : nodes.toInt ≤ i.toInt := kc_le c_1
        refine lv_iload_n hx hb dX2_nodesWithMajority_45 rfl (lv_at hl 1 rfl) ?_
        exact W.iret (v := many) hx hb hr (hlocks := hlocks) (fun t ht hW => ⟨many, rfl, trivial, ht⟩) (fun q hq => by cases hq) dX2_nodesWithMajority_46
      · have i_1 : i.toInt < nodes.toInt := kc_nle c_1
        refine lv_aload_n hx hb dX2_nodesWithMajority_12 rfl (lv_at hl 2 rfl) ?_
        refine va_get (D := (dC, dI)) (ci := 2) (v := .ref q_row) (C := RX2) (T := TX2) (N := 11) hx hb hts hi_2 hown hK hP 0 rfl rfl 0 (by decide) hf_40 (fun _ h9 => h9) rfl dX2_nodesWithMajority_13 ?_
        refine lv_aload_n hx hb dX2_nodesWithMajority_16 rfl (lv_at hl 2 rfl) ?_
        refine va_get (D := (dC, dI)) (ci := 2) (v := .ref q_from) (C := RX2) (T := TX2) (N := 11) hx hb hts hi_2 hown hK hP 0 rfl rfl 2 (by decide) hf_18 (fun _ h9 => h9) rfl dX2_nodesWithMajority_17 ?_
        refine lv_iload_n hx hb dX2_nodesWithMajority_20 rfl (lv_at hl 0 rfl) ?_
        refine va_iald hx hb hK hP 3 0 rfl rfl (ki_in (om_10 LP1_h0) (om_115 c0 i_1)) dX2_nodesWithMajority_21 ?_
        refine lv_topi (fun y_2 ey_2 => ?_)
        have j_2 : y_2.toInt = (ff i.toNatClampNeg).toInt := congrArg Int32.toInt ey_2
        have n_3 : (i.toNatClampNeg : Int) = i.toInt := ki_nat _ rfl (om_10 LP1_h0)
        have i_4 := t0 i.toNatClampNeg (by omega)
        unfold okAt at i_4
        refine lv_aload_n hx hb dX2_nodesWithMajority_22 rfl (lv_at hl 2 rfl) ?_
        refine va_get (D := (dC, dI)) (ci := 2) (v := .ref q_to) (C := RX2) (T := TX2) (N := 11) hx hb hts hi_2 hown hK hP 0 rfl rfl 3 (by decide) hf_22 (fun _ h9 => h9) rfl dX2_nodesWithMajority_23 ?_
        refine lv_iload_n hx hb dX2_nodesWithMajority_26 rfl (lv_at hl 0 rfl) ?_
        refine va_iald hx hb hK hP 4 0 rfl rfl (ki_in (om_10 LP1_h0) (om_115 c0 i_1)) dX2_nodesWithMajority_27 ?_
        refine lv_topi (fun y_5 ey_5 => ?_)
        have j_5 : y_5.toInt = (ft i.toNatClampNeg).toInt := congrArg Int32.toInt ey_5
        have n_6 : (i.toNatClampNeg : Int) = i.toInt := ki_nat _ rfl (om_10 LP1_h0)
        have i_7 := t0 i.toNatClampNeg (by omega)
        unfold okAt at i_7
        have hPc := hP.sub (ws' := [kx_0 q_row q_cell len, kx_a q_cell cyI 160 f]) [1, 2] rfl
        have hKc := hK
        refine vp_callSi (W.runV (As := [.int y_2, .int y_5]) (rest := []) ⟨hx, hb, hml, hown, hts⟩ (c_X0_leader l dC dI q_row q_cell cyI len f y_2 y_5 (by omega) (by omega)) (cwV 2 hts gX2_nodesWithMajority_X0_leader rfl rfl rfl (by decide +kernel) ⟨Nat.le_of_ble_eq_true rfl, Nat.le_of_ble_eq_true rfl⟩) ⟨fun a U g mk q => by obtain ⟨q0, qP, qK, qn0⟩ := q; exact ⟨q0, qP, va_K.moved (u := U) (U := U.calling g mk a) (Vm.Alike.refl U.vm) qK, va_Nw.same (u := U) (U := U.calling g mk a) rfl rfl qn0⟩, kx_rc0 hKc hPc (q0 := 0) rfl, fun U hU hW => ⟨rfl, by rw [hU]; exact hPc, va_K.moved hW.alike hKc, va_Nw.warmM hW hN0⟩⟩ rfl rfl hl.1 rfl (lv_room (Nat.le_of_ble_eq_true rfl)) dX2_nodesWithMajority_28 ⟨Nat.le_of_ble_eq_true rfl, Nat.le_of_ble_eq_true rfl⟩) (fun r_8 w_8 => ?_)
        refine lv_ldc (v := (-40000)) hx hb hown hk_120 dX2_nodesWithMajority_31 ?_
        refine lv_icmp_eq (tgt := 39) hx hb dX2_nodesWithMajority_33 (by decide) (fun c_9 => ?_) (fun c_9 => ?_)
        · have i_9 : r_8.toInt = (-40000) := kc_eq c_9
          obtain ⟨x_10, ex_10⟩ : ∃ y : Int32, y = i + 1 := ⟨_, rfl⟩
          have i_10 : x_10.toInt = i.toInt + 1 := ki_add ex_10 rfl rfl (om_13 LP1_h0) (om_125 c0 i_1)
          refine lv_iinc (v := x_10) (lv' := [(2, .int x_10), (1, .int many), (0, .ref q_t)]) hx hb dX2_nodesWithMajority_39 hl (k := 0) rfl (by rw [ex_10]; rfl) (by decide) rfl (fun ls hl => ?_)
          refine lv_goto (tgt := 4) hx hb dX2_nodesWithMajority_42 (by decide) ?_
          exact ih1 x_10 many (om_34 LP1_h0 i_10) (om_mu hn1 (om_5 i_10) (om_6 i_1)) ls (lv_sub hl [0, 1, 2] rfl)
        · have i_9 : ¬ r_8.toInt = (-40000) := kc_ne c_9
          obtain ⟨x_11, ex_11⟩ : ∃ y : Int32, y = many + 1 := ⟨_, rfl⟩
          refine lv_iinc (v := x_11) (lv' := [(1, .int x_11), (2, .int i), (0, .ref q_t)]) hx hb dX2_nodesWithMajority_36 hl (k := 1) rfl (by rw [ex_11]; rfl) (by decide) rfl (fun ls hl => ?_)
          obtain ⟨x_12, ex_12⟩ : ∃ y : Int32, y = i + 1 := ⟨_, rfl⟩
          have i_12 : x_12.toInt = i.toInt + 1 := ki_add ex_12 rfl rfl (om_13 LP1_h0) (om_125 c0 i_1)
          refine lv_iinc (v := x_12) (lv' := [(2, .int x_12), (1, .int x_11), (0, .ref q_t)]) hx hb dX2_nodesWithMajority_39 hl (k := 1) rfl (by rw [ex_12]; rfl) (by decide) rfl (fun ls hl => ?_)
          refine lv_goto (tgt := 4) hx hb dX2_nodesWithMajority_42 (by decide) ?_
          exact ih1 x_12 x_11 (om_34 LP1_h0 i_12) (om_mu hn1 (om_5 i_12) (om_6 i_1)) ls (lv_sub hl [0, 1, 2] rfl)
  have k_13 : (0 : Int32).toInt = 0 := rfl
  have k_14 : (0 : Int32).toInt = 0 := rfl
  exact LP1 ((nodes.toInt - 0 : Int).toNat + 1) 0 0 om_35 (Nat.lt_succ_self _) ls (lv_sub hl [0, 1, 2] rfl)

set_option maxHeartbeats 4000000 in
set_option maxRecDepth 100000 in
theorem c_X2_deepest (l : Launch) (dC : Nat → ClassId) (dI : Nat → Nat → Nat) (q_t : Nat) (q_row : Nat) (q_joined : Nat) (q_from : Nat) (q_to : Nat) (q_size : Nat) (q_lossOf : Nat) (q_lessBy : Nat) (q_value : Nat) (q_number : Nat) (nodes : Int32) (here : Int32) (q_cell : Nat) (len : Int32) (a0 : 0 ≤ len.toInt) (a1 : len.toInt ≤ 160) : Met l yX2_deepest wsX2_deepest ({ frames := 0, cells := 0, slots := 0, locals := 0 }) (va_Pc [.ref q_t] (fun U => va_P (dC, dI) vwCl [kx_2 q_t q_row q_joined q_from q_to q_size q_lossOf q_lessBy q_value q_number nodes here, kx_0 q_row q_cell len] U.heap ∧ va_K (dC, dI) vwCl [] U)) (vp_Si (fun r : Int32 => True)) 0 0 (fun _ => False) := by
  refine kx_stS (ws := wsX2_deepest) (cc := cX2_deepest) (maxL := 3) (ret := (some .int)) (by decide) rfl (Nat.le_of_ble_eq_true rfl) ?_
  intro p e s m below meth c ls hx hb hr hlocks hts hown hml hP hK hl
  have hown : s.vm.findClass RX2 = some m.cls := hown
  have hl : lv_has ls 3 [(0, .ref q_t)] := hl
  have hf_50 := hts (.fieldLink RX2 50 "MajorityIndex$Tree" "nodes" "I") (List.mem_of_getElem? (i := 1) rfl)
  have hi_2 : ∀ w ∈ u_ws RX2 TX2 11, w ∈ wsX2_deepest := fun w h => List.mem_cons_of_mem _ (List.mem_append_left _ (List.mem_append_right _ h))
  have hf_40 := hts (.fieldLink RX2 40 "MajorityIndex$Tree" "row" "LMajorityIndex$Row;") (List.mem_of_getElem? (i := 2) rfl)
  have hf_44 := hts (.fieldLink RX2 44 "MajorityIndex$Row" "length" "I") (List.mem_of_getElem? (i := 3) rfl)
  have hi_0 : ∀ w ∈ u_ws RX0 TX0 2, w ∈ wsX2_deepest := fun w h => List.mem_cons_of_mem _ (List.mem_append_right _ h)
  refine lv_aload_n hx hb dX2_deepest_0 rfl (lv_at hl 0 rfl) ?_
  refine va_get (D := (dC, dI)) (ci := 2) (v := .int nodes) (C := RX2) (T := TX2) (N := 11) hx hb hts hi_2 hown hK hP 0 rfl rfl 9 (by decide) hf_50 (fun _ h9 => h9) rfl dX2_deepest_1 ?_
  refine lv_if_ne (tgt := 11) hx hb dX2_deepest_4 (by decide) (fun c_1 => ?_) (fun c_1 => ?_)
  · have i_1 : ¬ nodes.toInt = 0 := kc_ne c_1
    refine lv_iconst (v := 1) hx hb dX2_deepest_11 (by decide) ?_
    refine lv_istore_n (lv' := [(1, .int 1), (0, .ref q_t)]) hx hb dX2_deepest_12 rfl hl (by decide) rfl (fun ls hl => ?_)
    refine lv_aload_n hx hb dX2_deepest_13 rfl (lv_at hl 1 rfl) ?_
    refine va_get (D := (dC, dI)) (ci := 2) (v := .ref q_row) (C := RX2) (T := TX2) (N := 11) hx hb hts hi_2 hown hK hP 0 rfl rfl 0 (by decide) hf_40 (fun _ h9 => h9) rfl dX2_deepest_14 ?_
    refine va_get (D := (dC, dI)) (ci := 0) (v := .int len) (C := RX0) (T := TX0) (N := 2) hx hb hts hi_0 hown hK hP 1 rfl rfl 1 (by decide) hf_44 (fun _ h9 => h9) rfl dX2_deepest_17 ?_
    refine lv_istore_n (lv' := [(2, .int len), (1, .int 1), (0, .ref q_t)]) hx hb dX2_deepest_20 rfl hl (by decide) rfl (fun ls hl => ?_)
    have LP1 : ∀ (n : Nat) (deep : Int32) (pl : Int32), (0 ≤ pl.toInt) → (pl.toInt ≤ 160) → (pl.toInt).toNat < n → ∀ (ls : Array Slot), lv_has ls 3 [(2, .int pl), (1, .int deep), (0, .ref q_t)] → W p l e (headSpec wsX2_deepest ({ frames := 0, cells := 0, slots := 0, locals := 0 })).room s m ([.ref q_t] : List Value).toArray below meth c s.heap [] 0 0 (MQ below (vp_Si (fun r : Int32 => True)) ([.ref q_t] : List Value).toArray s 0 0 (fun _ => False)) (F0 m 21 ls []) := by
      intro n
      induction n with
      | zero => intro deep pl LP1_h0 LP1_h1 hn; exact absurd hn (Nat.not_lt_zero _)
      | succ n ih1 =>
        intro deep pl LP1_h0 LP1_h1 hn1 ls hl
        refine lv_iload_n hx hb dX2_deepest_21 rfl (lv_at hl 0 rfl) ?_
        refine lv_iconst (v := 1) hx hb dX2_deepest_22 (by decide) ?_
        refine lv_icmp_le (tgt := 38) hx hb dX2_deepest_23 (by decide) (fun c_2 => ?_) (fun c_2 => ?_)
        · have i_2 : pl.toInt ≤ 1 := kc_le c_2
          refine lv_iload_n hx hb dX2_deepest_38 rfl (lv_at hl 1 rfl) ?_
          exact W.iret (v := deep) hx hb hr (hlocks := hlocks) (fun t ht hW => ⟨deep, rfl, trivial, ht⟩) (fun q hq => by cases hq) dX2_deepest_39
        · have i_2 : 1 < pl.toInt := kc_nle c_2
          obtain ⟨x_3, ex_3⟩ : ∃ y : Int32, y = deep + 1 := ⟨_, rfl⟩
          refine lv_iinc (v := x_3) (lv' := [(1, .int x_3), (2, .int pl), (0, .ref q_t)]) hx hb dX2_deepest_26 hl (k := 1) rfl (by rw [ex_3]; rfl) (by decide) rfl (fun ls hl => ?_)
          refine lv_iload_n hx hb dX2_deepest_29 rfl (lv_at hl 1 rfl) ?_
          refine lv_iload_n hx hb dX2_deepest_30 rfl (lv_at hl 1 rfl) ?_
          refine lv_iconst (v := 2) hx hb dX2_deepest_31 (by decide) ?_
          refine lv_idiv hx hb dX2_deepest_32 (by decide) ?_
          refine lv_topi (fun y_4 ey_4 => ?_)
          have i_4 : y_4.toInt = pl.toInt / 2 := ki_div2 ey_4 rfl (om_130 i_2)
          have d_5 := om_dv i_4
          refine lv_isub hx hb dX2_deepest_33 ?_
          refine lv_topi (fun y_6 ey_6 => ?_)
          have i_6 : y_6.toInt = pl.toInt - y_4.toInt := ki_sub ey_6 rfl rfl (om_131 i_2 d_5.1) (om_132 LP1_h1 d_5.2)
          refine lv_istore_n (lv' := [(2, .int y_6), (1, .int x_3), (0, .ref q_t)]) hx hb dX2_deepest_34 rfl hl (by decide) rfl (fun ls hl => ?_)
          refine lv_goto (tgt := 21) hx hb dX2_deepest_35 (by decide) ?_
          exact ih1 x_3 y_6 (om_133 i_2 d_5.1 i_6) (om_134 LP1_h1 d_5.2 i_6) (by omega) ls (lv_sub hl [0, 1, 2] rfl)
    have k_7 : (1 : Int32).toInt = 1 := rfl
    exact LP1 ((len.toInt : Int).toNat + 1) 1 len (om_10 a0) (om_136 a1) (Nat.lt_succ_self _) ls (lv_sub hl [0, 1, 2] rfl)
  · have i_1 : nodes.toInt = 0 := kc_eq c_1
    refine lv_iconst (v := 0) hx hb dX2_deepest_7 (by decide) ?_
    refine lv_goto (tgt := 12) hx hb dX2_deepest_8 (by decide) ?_
    refine lv_istore_n (lv' := [(1, .int 0), (0, .ref q_t)]) hx hb dX2_deepest_12 rfl hl (by decide) rfl (fun ls hl => ?_)
    refine lv_aload_n hx hb dX2_deepest_13 rfl (lv_at hl 1 rfl) ?_
    refine va_get (D := (dC, dI)) (ci := 2) (v := .ref q_row) (C := RX2) (T := TX2) (N := 11) hx hb hts hi_2 hown hK hP 0 rfl rfl 0 (by decide) hf_40 (fun _ h9 => h9) rfl dX2_deepest_14 ?_
    refine va_get (D := (dC, dI)) (ci := 0) (v := .int len) (C := RX0) (T := TX0) (N := 2) hx hb hts hi_0 hown hK hP 1 rfl rfl 1 (by decide) hf_44 (fun _ h9 => h9) rfl dX2_deepest_17 ?_
    refine lv_istore_n (lv' := [(2, .int len), (1, .int 0), (0, .ref q_t)]) hx hb dX2_deepest_20 rfl hl (by decide) rfl (fun ls hl => ?_)
    have LP2 : ∀ (n : Nat) (deep : Int32) (pl : Int32), (0 ≤ pl.toInt) → (pl.toInt ≤ 160) → (pl.toInt).toNat < n → ∀ (ls : Array Slot), lv_has ls 3 [(2, .int pl), (1, .int deep), (0, .ref q_t)] → W p l e (headSpec wsX2_deepest ({ frames := 0, cells := 0, slots := 0, locals := 0 })).room s m ([.ref q_t] : List Value).toArray below meth c s.heap [] 0 0 (MQ below (vp_Si (fun r : Int32 => True)) ([.ref q_t] : List Value).toArray s 0 0 (fun _ => False)) (F0 m 21 ls []) := by
      intro n
      induction n with
      | zero => intro deep pl LP2_h0 LP2_h1 hn; exact absurd hn (Nat.not_lt_zero _)
      | succ n ih2 =>
        intro deep pl LP2_h0 LP2_h1 hn2 ls hl
        refine lv_iload_n hx hb dX2_deepest_21 rfl (lv_at hl 0 rfl) ?_
        refine lv_iconst (v := 1) hx hb dX2_deepest_22 (by decide) ?_
        refine lv_icmp_le (tgt := 38) hx hb dX2_deepest_23 (by decide) (fun c_8 => ?_) (fun c_8 => ?_)
        · have i_8 : pl.toInt ≤ 1 := kc_le c_8
          refine lv_iload_n hx hb dX2_deepest_38 rfl (lv_at hl 1 rfl) ?_
          exact W.iret (v := deep) hx hb hr (hlocks := hlocks) (fun t ht hW => ⟨deep, rfl, trivial, ht⟩) (fun q hq => by cases hq) dX2_deepest_39
        · have i_8 : 1 < pl.toInt := kc_nle c_8
          obtain ⟨x_9, ex_9⟩ : ∃ y : Int32, y = deep + 1 := ⟨_, rfl⟩
          refine lv_iinc (v := x_9) (lv' := [(1, .int x_9), (2, .int pl), (0, .ref q_t)]) hx hb dX2_deepest_26 hl (k := 1) rfl (by rw [ex_9]; rfl) (by decide) rfl (fun ls hl => ?_)
          refine lv_iload_n hx hb dX2_deepest_29 rfl (lv_at hl 1 rfl) ?_
          refine lv_iload_n hx hb dX2_deepest_30 rfl (lv_at hl 1 rfl) ?_
          refine lv_iconst (v := 2) hx hb dX2_deepest_31 (by decide) ?_
          refine lv_idiv hx hb dX2_deepest_32 (by decide) ?_
          refine lv_topi (fun y_10 ey_10 => ?_)
          have i_10 : y_10.toInt = pl.toInt / 2 := ki_div2 ey_10 rfl (om_130 i_8)
          have d_11 := om_dv i_10
          refine lv_isub hx hb dX2_deepest_33 ?_
          refine lv_topi (fun y_12 ey_12 => ?_)
          have i_12 : y_12.toInt = pl.toInt - y_10.toInt := ki_sub ey_12 rfl rfl (om_131 i_8 d_11.1) (om_132 LP2_h1 d_11.2)
          refine lv_istore_n (lv' := [(2, .int y_12), (1, .int x_9), (0, .ref q_t)]) hx hb dX2_deepest_34 rfl hl (by decide) rfl (fun ls hl => ?_)
          refine lv_goto (tgt := 21) hx hb dX2_deepest_35 (by decide) ?_
          exact ih2 x_9 y_12 (om_133 i_8 d_11.1 i_12) (om_134 LP2_h1 d_11.2 i_12) (by omega) ls (lv_sub hl [0, 1, 2] rfl)
    have k_13 : (0 : Int32).toInt = 0 := rfl
    exact LP2 ((len.toInt : Int).toNat + 1) 0 len (om_10 a0) (om_136 a1) (Nat.lt_succ_self _) ls (lv_sub hl [0, 1, 2] rfl)

set_option maxHeartbeats 4000000 in
set_option maxRecDepth 100000 in
theorem c_X2_allLosses (l : Launch) (dC : Nat → ClassId) (dI : Nat → Nat → Nat) (q_t : Nat) (q_row : Nat) (q_joined : Nat) (q_from : Nat) (q_to : Nat) (q_size : Nat) (q_lossOf : Nat) (q_lessBy : Nat) (q_value : Nat) (q_number : Nat) (nodes : Int32) (here : Int32) (cyI : ClassId) (fo : Nat → Int32) (b0 : 0 ≤ nodes.toInt) (c0 : nodes.toInt ≤ 319) : Met l yX2_allLosses wsX2_allLosses ({ frames := 0, cells := 0, slots := 0, locals := 0 }) (va_Pc [.ref q_t] (fun U => va_P (dC, dI) vwCl [kx_2 q_t q_row q_joined q_from q_to q_size q_lossOf q_lessBy q_value q_number nodes here, kx_a q_lossOf cyI 319 fo] U.heap ∧ va_K (dC, dI) vwCl [(cyI, .int)] U)) (vp_Si (fun r : Int32 => True)) 0 0 (fun _ => False) := by
  refine kx_stS (ws := wsX2_allLosses) (cc := cX2_allLosses) (maxL := 3) (ret := (some .int)) (by decide) rfl (Nat.le_of_ble_eq_true rfl) ?_
  intro p e s m below meth c ls hx hb hr hlocks hts hown hml hP hK hl
  have hown : s.vm.findClass RX2 = some m.cls := hown
  have hl : lv_has ls 3 [(0, .ref q_t)] := hl
  have hf_50 := hts (.fieldLink RX2 50 "MajorityIndex$Tree" "nodes" "I") (List.mem_of_getElem? (i := 1) rfl)
  have hi_2 : ∀ w ∈ u_ws RX2 TX2 11, w ∈ wsX2_allLosses := fun w h => List.mem_cons_of_mem _ (List.mem_append_right _ h)
  have hf_28 := hts (.fieldLink RX2 28 "MajorityIndex$Tree" "lossOf" "[I") (List.mem_of_getElem? (i := 2) rfl)
  refine lv_iconst (v := 0) hx hb dX2_allLosses_0 (by decide) ?_
  refine lv_istore_n (lv' := [(1, .int 0), (0, .ref q_t)]) hx hb dX2_allLosses_1 rfl hl (by decide) rfl (fun ls hl => ?_)
  refine lv_iconst (v := 0) hx hb dX2_allLosses_2 (by decide) ?_
  refine lv_istore_n (lv' := [(2, .int 0), (1, .int 0), (0, .ref q_t)]) hx hb dX2_allLosses_3 rfl hl (by decide) rfl (fun ls hl => ?_)
  have LP1 : ∀ (n : Nat) (i : Int32) (all : Int32), (0 ≤ i.toInt) → (nodes.toInt - i.toInt).toNat < n → ∀ (ls : Array Slot), lv_has ls 3 [(2, .int i), (1, .int all), (0, .ref q_t)] → W p l e (headSpec wsX2_allLosses ({ frames := 0, cells := 0, slots := 0, locals := 0 })).room s m ([.ref q_t] : List Value).toArray below meth c s.heap [] 0 0 (MQ below (vp_Si (fun r : Int32 => True)) ([.ref q_t] : List Value).toArray s 0 0 (fun _ => False)) (F0 m 4 ls []) := by
    intro n
    induction n with
    | zero => intro i all LP1_h0 hn; exact absurd hn (Nat.not_lt_zero _)
    | succ n ih1 =>
      intro i all LP1_h0 hn1 ls hl
      refine lv_iload_n hx hb dX2_allLosses_4 rfl (lv_at hl 0 rfl) ?_
      refine lv_aload_n hx hb dX2_allLosses_5 rfl (lv_at hl 2 rfl) ?_
      refine va_get (D := (dC, dI)) (ci := 2) (v := .int nodes) (C := RX2) (T := TX2) (N := 11) hx hb hts hi_2 hown hK hP 0 rfl rfl 9 (by decide) hf_50 (fun _ h9 => h9) rfl dX2_allLosses_6 ?_
      refine lv_icmp_ge (tgt := 27) hx hb dX2_allLosses_9 (by decide) (fun c_1 => ?_) (fun c_1 => ?_)
      · have i_1 : nodes.toInt ≤ i.toInt := kc_le c_1
        refine lv_iload_n hx hb dX2_allLosses_27 rfl (lv_at hl 1 rfl) ?_
        exact W.iret (v := all) hx hb hr (hlocks := hlocks) (fun t ht hW => ⟨all, rfl, trivial, ht⟩) (fun q hq => by cases hq) dX2_allLosses_28
      · have i_1 : i.toInt < nodes.toInt := kc_nle c_1
        refine lv_iload_n hx hb dX2_allLosses_12 rfl (lv_at hl 1 rfl) ?_
        refine lv_aload_n hx hb dX2_allLosses_13 rfl (lv_at hl 2 rfl) ?_
        refine va_get (D := (dC, dI)) (ci := 2) (v := .ref q_lossOf) (C := RX2) (T := TX2) (N := 11) hx hb hts hi_2 hown hK hP 0 rfl rfl 5 (by decide) hf_28 (fun _ h9 => h9) rfl dX2_allLosses_14 ?_
        refine lv_iload_n hx hb dX2_allLosses_17 rfl (lv_at hl 0 rfl) ?_
        refine va_iald hx hb hK hP 1 0 rfl rfl (ki_in (om_10 LP1_h0) (om_115 c0 i_1)) dX2_allLosses_18 ?_
        refine lv_topi (fun y_2 ey_2 => ?_)
        have j_2 : y_2.toInt = (fo i.toNatClampNeg).toInt := congrArg Int32.toInt ey_2
        refine lv_iadd hx hb dX2_allLosses_19 ?_
        refine lv_topi (fun y_3 ey_3 => ?_)
        refine lv_istore_n (lv' := [(1, .int y_3), (2, .int i), (0, .ref q_t)]) hx hb dX2_allLosses_20 rfl hl (by decide) rfl (fun ls hl => ?_)
        obtain ⟨x_4, ex_4⟩ : ∃ y : Int32, y = i + 1 := ⟨_, rfl⟩
        have i_4 : x_4.toInt = i.toInt + 1 := ki_add ex_4 rfl rfl (om_13 LP1_h0) (om_125 c0 i_1)
        refine lv_iinc (v := x_4) (lv' := [(2, .int x_4), (1, .int y_3), (0, .ref q_t)]) hx hb dX2_allLosses_21 hl (k := 1) rfl (by rw [ex_4]; rfl) (by decide) rfl (fun ls hl => ?_)
        refine lv_goto (tgt := 4) hx hb dX2_allLosses_24 (by decide) ?_
        exact ih1 x_4 y_3 (om_34 LP1_h0 i_4) (om_mu hn1 (om_5 i_4) (om_6 i_1)) ls (lv_sub hl [0, 1, 2] rfl)
  have k_5 : (0 : Int32).toInt = 0 := rfl
  have k_6 : (0 : Int32).toInt = 0 := rfl
  exact LP1 ((nodes.toInt - 0 : Int).toNat + 1) 0 0 om_35 (Nat.lt_succ_self _) ls (lv_sub hl [0, 1, 2] rfl)



abbrev wsX10 : List Cond := u_ws RX1 TX1 4
theorem nmX1 : ∀ a, a < 4 → ∀ b, b < 4 → a ≠ b → (TX1 a).2.1 ≠ (TX1 b).2.1 := by decide +kernel
theorem tyX1_ok : ∀ k, k < 4 → parseFieldDescriptor (TX1 k).2.2.1 = some (tyX1 k) := by decide +kernel
abbrev cX1_learn : ByteArray := prog_3_method_2_code
def yX1_learn : MethodName := ⟨RX1, "learn", "(LMajorityIndex$Row;)V"⟩
abbrev cX1_clear : ByteArray := prog_3_method_3_code
def yX1_clear : MethodName := ⟨RX1, "clear", "()V"⟩
abbrev cX1_take : ByteArray := prog_3_method_4_code
def yX1_take : MethodName := ⟨RX1, "take", "(I)V"⟩
abbrev cX1_drop : ByteArray := prog_3_method_5_code
def yX1_drop : MethodName := ⟨RX1, "drop", "(I)V"⟩
abbrev cX1_hasMajority : ByteArray := prog_3_method_6_code
def yX1_hasMajority : MethodName := ⟨RX1, "hasMajority", "()Z"⟩
def RJ7 : String := "java/util/Arrays"
abbrev cJ7_fill_53178 : ByteArray := prog_13_method_103_code
def yJ7_fill_53178 : MethodName := ⟨RJ7, "fill", "([II)V"⟩
def wsX1_learn : List Cond := .code yX1_learn cX1_learn 3 none :: ([.fieldLink RX1 18 "MajorityIndex$Row" "length" "I", .fieldLink RX1 9 "MajorityIndex$Tally" "kind" "[I", .methodLink RX1 24 yX0_firstLike, .instanceMethod yX0_firstLike, .selects RX0 yX0_firstLike yX0_firstLike, .initialized RX0, .code yX0_firstLike cX0_firstLike 3 (some .int), .fieldLink RX0 9 "MajorityIndex$Row" "cell" "[I"] ++ wsX00 ++ wsX10)
def wsJ7_fill_53178 : List Cond := .code yJ7_fill_53178 cJ7_fill_53178 4 none :: ([])
def wsX1_clear : List Cond := .code yX1_clear cX1_clear 1 none :: ([.fieldLink RX1 15 "MajorityIndex$Tally" "often" "[I", .fieldLink RX1 34 "MajorityIndex$Tally" "taken" "I", .fieldLink RX1 37 "MajorityIndex$Tally" "most" "I", .methodLink RX1 28 yJ7_fill_53178, .static yJ7_fill_53178, .initialized RJ7, .code yJ7_fill_53178 cJ7_fill_53178 4 none] ++ wsX10)
def wsX1_take : List Cond := .code yX1_take cX1_take 3 none :: ([.fieldLink RX1 15 "MajorityIndex$Tally" "often" "[I", .fieldLink RX1 9 "MajorityIndex$Tally" "kind" "[I", .fieldLink RX1 34 "MajorityIndex$Tally" "taken" "I", .fieldLink RX1 37 "MajorityIndex$Tally" "most" "I"] ++ wsX10)
def wsX1_drop : List Cond := .code yX1_drop cX1_drop 2 none :: ([.fieldLink RX1 15 "MajorityIndex$Tally" "often" "[I", .fieldLink RX1 9 "MajorityIndex$Tally" "kind" "[I", .fieldLink RX1 34 "MajorityIndex$Tally" "taken" "I"] ++ wsX10)
def wsX1_hasMajority : List Cond := .code yX1_hasMajority cX1_hasMajority 1 (some .boolean) :: ([.fieldLink RX1 37 "MajorityIndex$Tally" "most" "I", .fieldLink RX1 34 "MajorityIndex$Tally" "taken" "I"] ++ wsX10)
set_option maxRecDepth 20000 in
theorem ggX1_learn_X0_firstLike : GoodIn wsX1_learn wsX0_firstLike := goodIn_r _ [7, 8, 9, 10] rfl (by decide +kernel)
set_option maxRecDepth 20000 in
theorem gX1_learn_X0_firstLike : GoodIn wsX1_learn (wsV RX1 24 RX0 yX0_firstLike wsX0_firstLike) := goodIn_app (goodIn_r _ [3, 4, 5, 6] rfl (by decide +kernel)) ggX1_learn_X0_firstLike
def dt_cX1_learn_0 : List (Nat × Nat × Nat × Nat) := [(0, 3, 0, 0), (1, 61, 0, 0), (2, 28, 0, 0), (3, 43, 0, 0), (4, 180, 2, 18), (7, 162, 2, 20), (10, 42, 0, 0), (11, 180, 2, 9), (14, 28, 0, 0), (15, 43, 0, 0), (16, 28, 0, 0), (17, 182, 2, 24), (20, 79, 0, 0), (21, 132, 2, 513), (24, 167, 2, 65514), (27, 177, 0, 0)]
theorem da_cX1_learn_0 : fw dt_cX1_learn_0 0 cX1_learn.data.toList = true := by decide +kernel
theorem dX1_learn_0 : decode cX1_learn 0 = .ok (.iconst 0, 1) := fo_3 (fw_get da_cX1_learn_0 0 rfl)
theorem dX1_learn_1 : decode cX1_learn 1 = .ok (.istore_n 2, 1) := fo_61 (fw_get da_cX1_learn_0 1 rfl)
theorem dX1_learn_2 : decode cX1_learn 2 = .ok (.iload_n 2, 1) := fo_28 (fw_get da_cX1_learn_0 2 rfl)
theorem dX1_learn_3 : decode cX1_learn 3 = .ok (.aload_n 1, 1) := fo_43 (fw_get da_cX1_learn_0 3 rfl)
theorem dX1_learn_4 : decode cX1_learn 4 = .ok (.getfield 18, 3) := fo_180 (fw_get da_cX1_learn_0 4 rfl)
theorem dX1_learn_7 : decode cX1_learn 7 = .ok (.if_icmp .ge 20, 3) := fo_162 (fw_get da_cX1_learn_0 5 rfl) (by decide +kernel)
theorem dX1_learn_10 : decode cX1_learn 10 = .ok (.aload_n 0, 1) := fo_42 (fw_get da_cX1_learn_0 6 rfl)
theorem dX1_learn_11 : decode cX1_learn 11 = .ok (.getfield 9, 3) := fo_180 (fw_get da_cX1_learn_0 7 rfl)
theorem dX1_learn_14 : decode cX1_learn 14 = .ok (.iload_n 2, 1) := fo_28 (fw_get da_cX1_learn_0 8 rfl)
theorem dX1_learn_15 : decode cX1_learn 15 = .ok (.aload_n 1, 1) := fo_43 (fw_get da_cX1_learn_0 9 rfl)
theorem dX1_learn_16 : decode cX1_learn 16 = .ok (.iload_n 2, 1) := fo_28 (fw_get da_cX1_learn_0 10 rfl)
theorem dX1_learn_17 : decode cX1_learn 17 = .ok (.invokevirtual 24, 3) := fo_182 (fw_get da_cX1_learn_0 11 rfl)
theorem dX1_learn_20 : decode cX1_learn 20 = .ok (.iastore, 1) := fo_79 (fw_get da_cX1_learn_0 12 rfl)
theorem dX1_learn_21 : decode cX1_learn 21 = .ok (.iinc 2 1, 3) := fo_132 (fw_get da_cX1_learn_0 13 rfl) rfl (by decide +kernel)
theorem dX1_learn_24 : decode cX1_learn 24 = .ok (.goto (-22), 3) := fo_167 (fw_get da_cX1_learn_0 14 rfl) (by decide +kernel)
theorem dX1_learn_27 : decode cX1_learn 27 = .ok (.return_, 1) := fo_177 (fw_get da_cX1_learn_0 15 rfl)
set_option maxRecDepth 20000 in
theorem ggX1_clear_J7_fill_53178 : GoodIn wsX1_clear wsJ7_fill_53178 := goodIn_r _ [7] rfl (by decide +kernel)
set_option maxRecDepth 20000 in
theorem gX1_clear_J7_fill_53178 : GoodIn wsX1_clear (va_wsS RX1 28 yJ7_fill_53178 wsJ7_fill_53178) := goodIn_app (goodIn_r _ [4, 5, 6] rfl (by decide +kernel)) ggX1_clear_J7_fill_53178
def dt_cX1_clear_0 : List (Nat × Nat × Nat × Nat) := [(0, 42, 0, 0), (1, 180, 2, 15), (4, 3, 0, 0), (5, 184, 2, 28), (8, 42, 0, 0), (9, 3, 0, 0), (10, 181, 2, 34), (13, 42, 0, 0), (14, 3, 0, 0), (15, 181, 2, 37), (18, 177, 0, 0)]
theorem da_cX1_clear_0 : fw dt_cX1_clear_0 0 cX1_clear.data.toList = true := by decide +kernel
theorem dX1_clear_0 : decode cX1_clear 0 = .ok (.aload_n 0, 1) := fo_42 (fw_get da_cX1_clear_0 0 rfl)
theorem dX1_clear_1 : decode cX1_clear 1 = .ok (.getfield 15, 3) := fo_180 (fw_get da_cX1_clear_0 1 rfl)
theorem dX1_clear_4 : decode cX1_clear 4 = .ok (.iconst 0, 1) := fo_3 (fw_get da_cX1_clear_0 2 rfl)
theorem dX1_clear_5 : decode cX1_clear 5 = .ok (.invokestatic 28, 3) := fo_184 (fw_get da_cX1_clear_0 3 rfl)
theorem dX1_clear_8 : decode cX1_clear 8 = .ok (.aload_n 0, 1) := fo_42 (fw_get da_cX1_clear_0 4 rfl)
theorem dX1_clear_9 : decode cX1_clear 9 = .ok (.iconst 0, 1) := fo_3 (fw_get da_cX1_clear_0 5 rfl)
theorem dX1_clear_10 : decode cX1_clear 10 = .ok (.putfield 34, 3) := fo_181 (fw_get da_cX1_clear_0 6 rfl)
theorem dX1_clear_13 : decode cX1_clear 13 = .ok (.aload_n 0, 1) := fo_42 (fw_get da_cX1_clear_0 7 rfl)
theorem dX1_clear_14 : decode cX1_clear 14 = .ok (.iconst 0, 1) := fo_3 (fw_get da_cX1_clear_0 8 rfl)
theorem dX1_clear_15 : decode cX1_clear 15 = .ok (.putfield 37, 3) := fo_181 (fw_get da_cX1_clear_0 9 rfl)
theorem dX1_clear_18 : decode cX1_clear 18 = .ok (.return_, 1) := fo_177 (fw_get da_cX1_clear_0 10 rfl)
def dt_cX1_take_0 : List (Nat × Nat × Nat × Nat) := [(0, 42, 0, 0), (1, 180, 2, 15), (4, 42, 0, 0), (5, 180, 2, 9), (8, 27, 0, 0), (9, 46, 0, 0), (10, 46, 0, 0), (11, 4, 0, 0), (12, 96, 0, 0), (13, 61, 0, 0), (14, 42, 0, 0), (15, 180, 2, 15), (18, 42, 0, 0), (19, 180, 2, 9), (22, 27, 0, 0), (23, 46, 0, 0), (24, 28, 0, 0), (25, 79, 0, 0), (26, 42, 0, 0), (27, 89, 0, 0)]
theorem da_cX1_take_0 : fw dt_cX1_take_0 0 cX1_take.data.toList = true := by decide +kernel
theorem dX1_take_0 : decode cX1_take 0 = .ok (.aload_n 0, 1) := fo_42 (fw_get da_cX1_take_0 0 rfl)
theorem dX1_take_1 : decode cX1_take 1 = .ok (.getfield 15, 3) := fo_180 (fw_get da_cX1_take_0 1 rfl)
theorem dX1_take_4 : decode cX1_take 4 = .ok (.aload_n 0, 1) := fo_42 (fw_get da_cX1_take_0 2 rfl)
theorem dX1_take_5 : decode cX1_take 5 = .ok (.getfield 9, 3) := fo_180 (fw_get da_cX1_take_0 3 rfl)
theorem dX1_take_8 : decode cX1_take 8 = .ok (.iload_n 1, 1) := fo_27 (fw_get da_cX1_take_0 4 rfl)
theorem dX1_take_9 : decode cX1_take 9 = .ok (.iaload, 1) := fo_46 (fw_get da_cX1_take_0 5 rfl)
theorem dX1_take_10 : decode cX1_take 10 = .ok (.iaload, 1) := fo_46 (fw_get da_cX1_take_0 6 rfl)
theorem dX1_take_11 : decode cX1_take 11 = .ok (.iconst 1, 1) := fo_4 (fw_get da_cX1_take_0 7 rfl)
theorem dX1_take_12 : decode cX1_take 12 = .ok (.iadd, 1) := fo_96 (fw_get da_cX1_take_0 8 rfl)
theorem dX1_take_13 : decode cX1_take 13 = .ok (.istore_n 2, 1) := fo_61 (fw_get da_cX1_take_0 9 rfl)
theorem dX1_take_14 : decode cX1_take 14 = .ok (.aload_n 0, 1) := fo_42 (fw_get da_cX1_take_0 10 rfl)
theorem dX1_take_15 : decode cX1_take 15 = .ok (.getfield 15, 3) := fo_180 (fw_get da_cX1_take_0 11 rfl)
theorem dX1_take_18 : decode cX1_take 18 = .ok (.aload_n 0, 1) := fo_42 (fw_get da_cX1_take_0 12 rfl)
theorem dX1_take_19 : decode cX1_take 19 = .ok (.getfield 9, 3) := fo_180 (fw_get da_cX1_take_0 13 rfl)
theorem dX1_take_22 : decode cX1_take 22 = .ok (.iload_n 1, 1) := fo_27 (fw_get da_cX1_take_0 14 rfl)
theorem dX1_take_23 : decode cX1_take 23 = .ok (.iaload, 1) := fo_46 (fw_get da_cX1_take_0 15 rfl)
theorem dX1_take_24 : decode cX1_take 24 = .ok (.iload_n 2, 1) := fo_28 (fw_get da_cX1_take_0 16 rfl)
theorem dX1_take_25 : decode cX1_take 25 = .ok (.iastore, 1) := fo_79 (fw_get da_cX1_take_0 17 rfl)
theorem dX1_take_26 : decode cX1_take 26 = .ok (.aload_n 0, 1) := fo_42 (fw_get da_cX1_take_0 18 rfl)
theorem dX1_take_27 : decode cX1_take 27 = .ok (.dup, 1) := fo_89 (fw_get da_cX1_take_0 19 rfl)
def dt_cX1_take_1 : List (Nat × Nat × Nat × Nat) := [(28, 180, 2, 34), (31, 4, 0, 0), (32, 96, 0, 0), (33, 181, 2, 34), (36, 28, 0, 0), (37, 42, 0, 0), (38, 180, 2, 37), (41, 164, 2, 8), (44, 42, 0, 0), (45, 28, 0, 0), (46, 181, 2, 37), (49, 177, 0, 0)]
theorem da_cX1_take_1 : fw dt_cX1_take_1 0 cX1_take.data.toList = true := by decide +kernel
theorem dX1_take_28 : decode cX1_take 28 = .ok (.getfield 34, 3) := fo_180 (fw_get da_cX1_take_1 0 rfl)
theorem dX1_take_31 : decode cX1_take 31 = .ok (.iconst 1, 1) := fo_4 (fw_get da_cX1_take_1 1 rfl)
theorem dX1_take_32 : decode cX1_take 32 = .ok (.iadd, 1) := fo_96 (fw_get da_cX1_take_1 2 rfl)
theorem dX1_take_33 : decode cX1_take 33 = .ok (.putfield 34, 3) := fo_181 (fw_get da_cX1_take_1 3 rfl)
theorem dX1_take_36 : decode cX1_take 36 = .ok (.iload_n 2, 1) := fo_28 (fw_get da_cX1_take_1 4 rfl)
theorem dX1_take_37 : decode cX1_take 37 = .ok (.aload_n 0, 1) := fo_42 (fw_get da_cX1_take_1 5 rfl)
theorem dX1_take_38 : decode cX1_take 38 = .ok (.getfield 37, 3) := fo_180 (fw_get da_cX1_take_1 6 rfl)
theorem dX1_take_41 : decode cX1_take 41 = .ok (.if_icmp .le 8, 3) := fo_164 (fw_get da_cX1_take_1 7 rfl) (by decide +kernel)
theorem dX1_take_44 : decode cX1_take 44 = .ok (.aload_n 0, 1) := fo_42 (fw_get da_cX1_take_1 8 rfl)
theorem dX1_take_45 : decode cX1_take 45 = .ok (.iload_n 2, 1) := fo_28 (fw_get da_cX1_take_1 9 rfl)
theorem dX1_take_46 : decode cX1_take 46 = .ok (.putfield 37, 3) := fo_181 (fw_get da_cX1_take_1 10 rfl)
theorem dX1_take_49 : decode cX1_take 49 = .ok (.return_, 1) := fo_177 (fw_get da_cX1_take_1 11 rfl)
def dt_cX1_drop_0 : List (Nat × Nat × Nat × Nat) := [(0, 42, 0, 0), (1, 180, 2, 15), (4, 42, 0, 0), (5, 180, 2, 9), (8, 27, 0, 0), (9, 46, 0, 0), (10, 92, 0, 0), (11, 46, 0, 0), (12, 4, 0, 0), (13, 100, 0, 0), (14, 79, 0, 0), (15, 42, 0, 0), (16, 89, 0, 0), (17, 180, 2, 34), (20, 4, 0, 0), (21, 100, 0, 0), (22, 181, 2, 34), (25, 177, 0, 0)]
theorem da_cX1_drop_0 : fw dt_cX1_drop_0 0 cX1_drop.data.toList = true := by decide +kernel
theorem dX1_drop_0 : decode cX1_drop 0 = .ok (.aload_n 0, 1) := fo_42 (fw_get da_cX1_drop_0 0 rfl)
theorem dX1_drop_1 : decode cX1_drop 1 = .ok (.getfield 15, 3) := fo_180 (fw_get da_cX1_drop_0 1 rfl)
theorem dX1_drop_4 : decode cX1_drop 4 = .ok (.aload_n 0, 1) := fo_42 (fw_get da_cX1_drop_0 2 rfl)
theorem dX1_drop_5 : decode cX1_drop 5 = .ok (.getfield 9, 3) := fo_180 (fw_get da_cX1_drop_0 3 rfl)
theorem dX1_drop_8 : decode cX1_drop 8 = .ok (.iload_n 1, 1) := fo_27 (fw_get da_cX1_drop_0 4 rfl)
theorem dX1_drop_9 : decode cX1_drop 9 = .ok (.iaload, 1) := fo_46 (fw_get da_cX1_drop_0 5 rfl)
theorem dX1_drop_10 : decode cX1_drop 10 = .ok (.dup2, 1) := fo_92 (fw_get da_cX1_drop_0 6 rfl)
theorem dX1_drop_11 : decode cX1_drop 11 = .ok (.iaload, 1) := fo_46 (fw_get da_cX1_drop_0 7 rfl)
theorem dX1_drop_12 : decode cX1_drop 12 = .ok (.iconst 1, 1) := fo_4 (fw_get da_cX1_drop_0 8 rfl)
theorem dX1_drop_13 : decode cX1_drop 13 = .ok (.isub, 1) := fo_100 (fw_get da_cX1_drop_0 9 rfl)
theorem dX1_drop_14 : decode cX1_drop 14 = .ok (.iastore, 1) := fo_79 (fw_get da_cX1_drop_0 10 rfl)
theorem dX1_drop_15 : decode cX1_drop 15 = .ok (.aload_n 0, 1) := fo_42 (fw_get da_cX1_drop_0 11 rfl)
theorem dX1_drop_16 : decode cX1_drop 16 = .ok (.dup, 1) := fo_89 (fw_get da_cX1_drop_0 12 rfl)
theorem dX1_drop_17 : decode cX1_drop 17 = .ok (.getfield 34, 3) := fo_180 (fw_get da_cX1_drop_0 13 rfl)
theorem dX1_drop_20 : decode cX1_drop 20 = .ok (.iconst 1, 1) := fo_4 (fw_get da_cX1_drop_0 14 rfl)
theorem dX1_drop_21 : decode cX1_drop 21 = .ok (.isub, 1) := fo_100 (fw_get da_cX1_drop_0 15 rfl)
theorem dX1_drop_22 : decode cX1_drop 22 = .ok (.putfield 34, 3) := fo_181 (fw_get da_cX1_drop_0 16 rfl)
theorem dX1_drop_25 : decode cX1_drop 25 = .ok (.return_, 1) := fo_177 (fw_get da_cX1_drop_0 17 rfl)
def dt_cX1_hasMajority_0 : List (Nat × Nat × Nat × Nat) := [(0, 5, 0, 0), (1, 42, 0, 0), (2, 180, 2, 37), (5, 104, 0, 0), (6, 42, 0, 0), (7, 180, 2, 34), (10, 164, 2, 7), (13, 4, 0, 0), (14, 167, 2, 4), (17, 3, 0, 0), (18, 172, 0, 0)]
theorem da_cX1_hasMajority_0 : fw dt_cX1_hasMajority_0 0 cX1_hasMajority.data.toList = true := by decide +kernel
theorem dX1_hasMajority_0 : decode cX1_hasMajority 0 = .ok (.iconst 2, 1) := fo_5 (fw_get da_cX1_hasMajority_0 0 rfl)
theorem dX1_hasMajority_1 : decode cX1_hasMajority 1 = .ok (.aload_n 0, 1) := fo_42 (fw_get da_cX1_hasMajority_0 1 rfl)
theorem dX1_hasMajority_2 : decode cX1_hasMajority 2 = .ok (.getfield 37, 3) := fo_180 (fw_get da_cX1_hasMajority_0 2 rfl)
theorem dX1_hasMajority_5 : decode cX1_hasMajority 5 = .ok (.imul, 1) := fo_104 (fw_get da_cX1_hasMajority_0 3 rfl)
theorem dX1_hasMajority_6 : decode cX1_hasMajority 6 = .ok (.aload_n 0, 1) := fo_42 (fw_get da_cX1_hasMajority_0 4 rfl)
theorem dX1_hasMajority_7 : decode cX1_hasMajority 7 = .ok (.getfield 34, 3) := fo_180 (fw_get da_cX1_hasMajority_0 5 rfl)
theorem dX1_hasMajority_10 : decode cX1_hasMajority 10 = .ok (.if_icmp .le 7, 3) := fo_164 (fw_get da_cX1_hasMajority_0 6 rfl) (by decide +kernel)
theorem dX1_hasMajority_13 : decode cX1_hasMajority 13 = .ok (.iconst 1, 1) := fo_4 (fw_get da_cX1_hasMajority_0 7 rfl)
theorem dX1_hasMajority_14 : decode cX1_hasMajority 14 = .ok (.goto 4, 3) := fo_167 (fw_get da_cX1_hasMajority_0 8 rfl) (by decide +kernel)
theorem dX1_hasMajority_17 : decode cX1_hasMajority 17 = .ok (.iconst 0, 1) := fo_3 (fw_get da_cX1_hasMajority_0 9 rfl)
theorem dX1_hasMajority_18 : decode cX1_hasMajority 18 = .ok (.ireturn, 1) := fo_172 (fw_get da_cX1_hasMajority_0 10 rfl)
def dt_cJ7_fill_53178_0 : List (Nat × Nat × Nat × Nat) := [(0, 3, 0, 0), (1, 61, 0, 0), (2, 42, 0, 0), (3, 190, 0, 0), (4, 62, 0, 0), (5, 28, 0, 0), (6, 29, 0, 0), (7, 162, 2, 13), (10, 42, 0, 0), (11, 28, 0, 0), (12, 27, 0, 0), (13, 79, 0, 0), (14, 132, 2, 513), (17, 167, 2, 65524), (20, 177, 0, 0)]
theorem da_cJ7_fill_53178_0 : fw dt_cJ7_fill_53178_0 0 cJ7_fill_53178.data.toList = true := by decide +kernel
theorem dJ7_fill_53178_0 : decode cJ7_fill_53178 0 = .ok (.iconst 0, 1) := fo_3 (fw_get da_cJ7_fill_53178_0 0 rfl)
theorem dJ7_fill_53178_1 : decode cJ7_fill_53178 1 = .ok (.istore_n 2, 1) := fo_61 (fw_get da_cJ7_fill_53178_0 1 rfl)
theorem dJ7_fill_53178_2 : decode cJ7_fill_53178 2 = .ok (.aload_n 0, 1) := fo_42 (fw_get da_cJ7_fill_53178_0 2 rfl)
theorem dJ7_fill_53178_3 : decode cJ7_fill_53178 3 = .ok (.arraylength, 1) := fo_190 (fw_get da_cJ7_fill_53178_0 3 rfl)
theorem dJ7_fill_53178_4 : decode cJ7_fill_53178 4 = .ok (.istore_n 3, 1) := fo_62 (fw_get da_cJ7_fill_53178_0 4 rfl)
theorem dJ7_fill_53178_5 : decode cJ7_fill_53178 5 = .ok (.iload_n 2, 1) := fo_28 (fw_get da_cJ7_fill_53178_0 5 rfl)
theorem dJ7_fill_53178_6 : decode cJ7_fill_53178 6 = .ok (.iload_n 3, 1) := fo_29 (fw_get da_cJ7_fill_53178_0 6 rfl)
theorem dJ7_fill_53178_7 : decode cJ7_fill_53178 7 = .ok (.if_icmp .ge 13, 3) := fo_162 (fw_get da_cJ7_fill_53178_0 7 rfl) (by decide +kernel)
theorem dJ7_fill_53178_10 : decode cJ7_fill_53178 10 = .ok (.aload_n 0, 1) := fo_42 (fw_get da_cJ7_fill_53178_0 8 rfl)
theorem dJ7_fill_53178_11 : decode cJ7_fill_53178 11 = .ok (.iload_n 2, 1) := fo_28 (fw_get da_cJ7_fill_53178_0 9 rfl)
theorem dJ7_fill_53178_12 : decode cJ7_fill_53178 12 = .ok (.iload_n 1, 1) := fo_27 (fw_get da_cJ7_fill_53178_0 10 rfl)
theorem dJ7_fill_53178_13 : decode cJ7_fill_53178 13 = .ok (.iastore, 1) := fo_79 (fw_get da_cJ7_fill_53178_0 11 rfl)
theorem dJ7_fill_53178_14 : decode cJ7_fill_53178 14 = .ok (.iinc 2 1, 3) := fo_132 (fw_get da_cJ7_fill_53178_0 12 rfl) rfl (by decide +kernel)
theorem dJ7_fill_53178_17 : decode cJ7_fill_53178 17 = .ok (.goto (-12), 3) := fo_167 (fw_get da_cJ7_fill_53178_0 13 rfl) (by decide +kernel)
theorem dJ7_fill_53178_20 : decode cJ7_fill_53178 20 = .ok (.return_, 1) := fo_177 (fw_get da_cJ7_fill_53178_0 14 rfl)


def kindOk (f : Nat → Int32) (n : Int) : Prop := ∀ k : Nat, (k : Int) < n → 0 ≤ (f k).toInt ∧ (f k).toInt ≤ (k : Int)
theorem kindOk_0 (f : Nat → Int32) {n : Int} (h : n ≤ 0) : kindOk f n := fun k hk => absurd hk (by omega)
theorem kindOk_upd {f : Nat → Int32} {n n2 : Int} {k : Nat} {x : Int32} (h : kindOk f n) (hk : (k : Int) = n) (h2 : n2 = n + 1) (h0 : 0 ≤ x.toInt) (h1 : x.toInt ≤ n) : kindOk (upd f k x) n2 := by
  intro j hj
  unfold upd
  split
  · omega
  · exact h j (by omega)

set_option maxHeartbeats 4000000 in
set_option maxRecDepth 100000 in
theorem c_J7_fill_160 (l : Launch) (dC : Nat → ClassId) (dI : Nat → Nat → Nat) (a_ : Nat) (cyI : ClassId) (f : Nat → Int32) (p0 : Int32) (sz : Nat) : kx_MQ l (dC, dI) yJ7_fill_53178 wsJ7_fill_53178 ({ frames := 0, cells := 0, slots := 0, locals := 0 }) [.ref a_, .int p0] [kx_a a_ cyI 160 f] [(cyI, .int)] sz (fun A => va_Qv (fun u : (Nat → Int32) => ∀ k : Nat, k < 160 → u k = p0) (fun (u : (Nat → Int32)) (t : State) => va_P (dC, dI) vwCl [kx_a a_ cyI 160 u] t.heap ∧ va_K (dC, dI) vwCl [(cyI, .int)] t ∧ va_D A [kx_a a_ cyI 160 u]) A) := by
  refine kx_stQ (ws := wsJ7_fill_53178) (cc := cJ7_fill_53178) (maxL := 4) (ret := none) (by decide) rfl (Nat.le_of_ble_eq_true rfl) ?_
  intro p e s m below meth c A ls hx hb hr hlocks hts hown hml hA hS hP hK hD hl
  have hown : s.vm.findClass RJ7 = some m.cls := hown
  have hl : lv_has ls 4 [(0, .ref a_), (1, .int p0)] := hl
  refine lv_iconst (v := 0) hx hb dJ7_fill_53178_0 (by decide) ?_
  refine lv_istore_n (lv' := [(2, .int 0), (0, .ref a_), (1, .int p0)]) hx hb dJ7_fill_53178_1 rfl hl (by decide) rfl (fun ls hl => ?_)
  refine lv_aload_n hx hb dJ7_fill_53178_2 rfl (lv_at hl 1 rfl) ?_
  refine va_alen (v := 160) hx hb hK hP 0 0 rfl rfl rfl dJ7_fill_53178_3 ?_
  refine lv_istore_n (lv' := [(3, .int 160), (2, .int 0), (0, .ref a_), (1, .int p0)]) hx hb dJ7_fill_53178_4 rfl hl (by decide) rfl (fun ls hl => ?_)
  have LP1 : ∀ (n : Nat) (i : Int32) (g : Nat → Int32), (0 ≤ i.toInt) → (∀ k : Nat, k < i.toNatClampNeg → g k = p0) → (160 - i.toInt).toNat < n → ∀ (H : Heap) (locs : List Loc), va_P (dC, dI) vwCl [kx_a a_ cyI 160 g] H → va_D A [kx_a a_ cyI 160 g] → va_S A s.heap H locs → ∀ (ls : Array Slot), lv_has ls 4 [(3, .int 160), (2, .int i), (0, .ref a_), (1, .int p0)] → W p l e (headSpec wsJ7_fill_53178 ({ frames := 0, cells := 0, slots := 0, locals := 0 })).room s m ([.ref a_, .int p0] : List Value).toArray below meth c H locs 0 0 (MQ below (va_Qv (fun u : (Nat → Int32) => ∀ k : Nat, k < 160 → u k = p0) (fun (u : (Nat → Int32)) (t : State) => va_P (dC, dI) vwCl [kx_a a_ cyI 160 u] t.heap ∧ va_K (dC, dI) vwCl [(cyI, .int)] t ∧ va_D A [kx_a a_ cyI 160 u]) A) ([.ref a_, .int p0] : List Value).toArray s 0 0 A) (F0 m 5 ls []) := by
    intro n
    induction n with
    | zero => intro i g LP1_h0 LP1_h1 hn; exact absurd hn (Nat.not_lt_zero _)
    | succ n ih1 =>
      intro i g LP1_h0 LP1_h1 hn1 H locs hP hD hS ls hl
      have n_i := ki_nat i rfl (by omega)
      refine lv_iload_n hx hb dJ7_fill_53178_5 rfl (lv_at hl 1 rfl) ?_
      refine lv_iload_n hx hb dJ7_fill_53178_6 rfl (lv_at hl 0 rfl) ?_
      refine lv_icmp_ge (tgt := 20) hx hb dJ7_fill_53178_7 (by decide) (fun c_1 => ?_) (fun c_1 => ?_)
      · have i_1 : 160 ≤ i.toInt := kc_le c_1
        have hP9 := hP
        have hD9 := hD
        have hK9 := hK
        exact W.vret hx hb hr (hlocks := hlocks) (fun t ht hW => ⟨⟨(g), rfl, (fun k hk => LP1_h1 k (by (try dsimp only); omega)), by rw [ht]; exact hP9, va_K.moved hW.alike hK9, hD9⟩, hS.F ht⟩) hS.2.2 dJ7_fill_53178_20
      · have i_1 : i.toInt < 160 := kc_nle c_1
        refine lv_aload_n hx hb dJ7_fill_53178_10 rfl (lv_at hl 2 rfl) ?_
        refine lv_iload_n hx hb dJ7_fill_53178_11 rfl (lv_at hl 1 rfl) ?_
        refine lv_iload_n hx hb dJ7_fill_53178_12 rfl (lv_at hl 3 rfl) ?_
        refine va_iast hx hb hK hP hD hS 0 0 rfl rfl (ki_in (om_10 LP1_h0) (om_12 i_1)) dJ7_fill_53178_13 (fun H locs hP hD hS => ?_)
        obtain ⟨hP, hD⟩ := kx_re (w2 := [kx_a a_ cyI 160 (upd g i.toNatClampNeg p0)]) hP hD rfl
        obtain ⟨x_2, ex_2⟩ : ∃ y : Int32, y = i + 1 := ⟨_, rfl⟩
        have i_2 : x_2.toInt = i.toInt + 1 := ki_add ex_2 rfl rfl (om_13 LP1_h0) (om_14 i_1)
        refine lv_iinc (v := x_2) (lv' := [(2, .int x_2), (3, .int 160), (0, .ref a_), (1, .int p0)]) hx hb dJ7_fill_53178_14 hl (k := 1) rfl (by rw [ex_2]; rfl) (by decide) rfl (fun ls hl => ?_)
        refine lv_goto (tgt := 5) hx hb dJ7_fill_53178_17 (by decide) ?_
        have n_x := ki_nat x_2 rfl (by omega)
        exact ih1 x_2 (upd g i.toNatClampNeg p0) (om_34 LP1_h0 i_2) (fun k hk => by unfold upd; split <;> first | rfl | exact LP1_h1 k (by omega)) (om_mu hn1 (om_137 i_2) (om_138 i_1)) _ _ hP hD hS ls (lv_sub hl [1, 0, 2, 3] rfl)
  have k_3 : (0 : Int32).toInt = 0 := rfl
  exact LP1 ((160 - 0 : Int).toNat + 1) 0 f om_35 (fun k hk => absurd hk (Nat.not_lt_zero k)) (Nat.lt_succ_self _) _ _ hP hD hS ls (lv_sub hl [0, 1, 2, 3] rfl)

set_option maxHeartbeats 4000000 in
set_option maxRecDepth 100000 in
theorem c_J7_fill_161 (l : Launch) (dC : Nat → ClassId) (dI : Nat → Nat → Nat) (a_ : Nat) (cyI : ClassId) (f : Nat → Int32) (p0 : Int32) (sz : Nat) : kx_MQ l (dC, dI) yJ7_fill_53178 wsJ7_fill_53178 ({ frames := 0, cells := 0, slots := 0, locals := 0 }) [.ref a_, .int p0] [kx_a a_ cyI 161 f] [(cyI, .int)] sz (fun A => va_Qv (fun u : (Nat → Int32) => ∀ k : Nat, k < 161 → u k = p0) (fun (u : (Nat → Int32)) (t : State) => va_P (dC, dI) vwCl [kx_a a_ cyI 161 u] t.heap ∧ va_K (dC, dI) vwCl [(cyI, .int)] t ∧ va_D A [kx_a a_ cyI 161 u]) A) := by
  refine kx_stQ (ws := wsJ7_fill_53178) (cc := cJ7_fill_53178) (maxL := 4) (ret := none) (by decide) rfl (Nat.le_of_ble_eq_true rfl) ?_
  intro p e s m below meth c A ls hx hb hr hlocks hts hown hml hA hS hP hK hD hl
  have hown : s.vm.findClass RJ7 = some m.cls := hown
  have hl : lv_has ls 4 [(0, .ref a_), (1, .int p0)] := hl
  refine lv_iconst (v := 0) hx hb dJ7_fill_53178_0 (by decide) ?_
  refine lv_istore_n (lv' := [(2, .int 0), (0, .ref a_), (1, .int p0)]) hx hb dJ7_fill_53178_1 rfl hl (by decide) rfl (fun ls hl => ?_)
  refine lv_aload_n hx hb dJ7_fill_53178_2 rfl (lv_at hl 1 rfl) ?_
  refine va_alen (v := 161) hx hb hK hP 0 0 rfl rfl rfl dJ7_fill_53178_3 ?_
  refine lv_istore_n (lv' := [(3, .int 161), (2, .int 0), (0, .ref a_), (1, .int p0)]) hx hb dJ7_fill_53178_4 rfl hl (by decide) rfl (fun ls hl => ?_)
  have LP1 : ∀ (n : Nat) (i : Int32) (g : Nat → Int32), (0 ≤ i.toInt) → (∀ k : Nat, k < i.toNatClampNeg → g k = p0) → (161 - i.toInt).toNat < n → ∀ (H : Heap) (locs : List Loc), va_P (dC, dI) vwCl [kx_a a_ cyI 161 g] H → va_D A [kx_a a_ cyI 161 g] → va_S A s.heap H locs → ∀ (ls : Array Slot), lv_has ls 4 [(3, .int 161), (2, .int i), (0, .ref a_), (1, .int p0)] → W p l e (headSpec wsJ7_fill_53178 ({ frames := 0, cells := 0, slots := 0, locals := 0 })).room s m ([.ref a_, .int p0] : List Value).toArray below meth c H locs 0 0 (MQ below (va_Qv (fun u : (Nat → Int32) => ∀ k : Nat, k < 161 → u k = p0) (fun (u : (Nat → Int32)) (t : State) => va_P (dC, dI) vwCl [kx_a a_ cyI 161 u] t.heap ∧ va_K (dC, dI) vwCl [(cyI, .int)] t ∧ va_D A [kx_a a_ cyI 161 u]) A) ([.ref a_, .int p0] : List Value).toArray s 0 0 A) (F0 m 5 ls []) := by
    intro n
    induction n with
    | zero => intro i g LP1_h0 LP1_h1 hn; exact absurd hn (Nat.not_lt_zero _)
    | succ n ih1 =>
      intro i g LP1_h0 LP1_h1 hn1 H locs hP hD hS ls hl
      have n_i := ki_nat i rfl (by omega)
      refine lv_iload_n hx hb dJ7_fill_53178_5 rfl (lv_at hl 1 rfl) ?_
      refine lv_iload_n hx hb dJ7_fill_53178_6 rfl (lv_at hl 0 rfl) ?_
      refine lv_icmp_ge (tgt := 20) hx hb dJ7_fill_53178_7 (by decide) (fun c_1 => ?_) (fun c_1 => ?_)
      · have i_1 : 161 ≤ i.toInt := kc_le c_1
        have hP9 := hP
        have hD9 := hD
        have hK9 := hK
        exact W.vret hx hb hr (hlocks := hlocks) (fun t ht hW => ⟨⟨(g), rfl, (fun k hk => LP1_h1 k (by (try dsimp only); omega)), by rw [ht]; exact hP9, va_K.moved hW.alike hK9, hD9⟩, hS.F ht⟩) hS.2.2 dJ7_fill_53178_20
      · have i_1 : i.toInt < 161 := kc_nle c_1
        refine lv_aload_n hx hb dJ7_fill_53178_10 rfl (lv_at hl 2 rfl) ?_
        refine lv_iload_n hx hb dJ7_fill_53178_11 rfl (lv_at hl 1 rfl) ?_
        refine lv_iload_n hx hb dJ7_fill_53178_12 rfl (lv_at hl 3 rfl) ?_
        refine va_iast hx hb hK hP hD hS 0 0 rfl rfl (ki_in (om_10 LP1_h0) (om_139 i_1)) dJ7_fill_53178_13 (fun H locs hP hD hS => ?_)
        obtain ⟨hP, hD⟩ := kx_re (w2 := [kx_a a_ cyI 161 (upd g i.toNatClampNeg p0)]) hP hD rfl
        obtain ⟨x_2, ex_2⟩ : ∃ y : Int32, y = i + 1 := ⟨_, rfl⟩
        have i_2 : x_2.toInt = i.toInt + 1 := ki_add ex_2 rfl rfl (om_13 LP1_h0) (om_140 i_1)
        refine lv_iinc (v := x_2) (lv' := [(2, .int x_2), (3, .int 161), (0, .ref a_), (1, .int p0)]) hx hb dJ7_fill_53178_14 hl (k := 1) rfl (by rw [ex_2]; rfl) (by decide) rfl (fun ls hl => ?_)
        refine lv_goto (tgt := 5) hx hb dJ7_fill_53178_17 (by decide) ?_
        have n_x := ki_nat x_2 rfl (by omega)
        exact ih1 x_2 (upd g i.toNatClampNeg p0) (om_34 LP1_h0 i_2) (fun k hk => by unfold upd; split <;> first | rfl | exact LP1_h1 k (by omega)) (om_mu hn1 (om_141 i_2) (om_142 i_1)) _ _ hP hD hS ls (lv_sub hl [1, 0, 2, 3] rfl)
  have k_3 : (0 : Int32).toInt = 0 := rfl
  exact LP1 ((161 - 0 : Int).toNat + 1) 0 f om_35 (fun k hk => absurd hk (Nat.not_lt_zero k)) (Nat.lt_succ_self _) _ _ hP hD hS ls (lv_sub hl [0, 1, 2, 3] rfl)

set_option maxHeartbeats 4000000 in
set_option maxRecDepth 100000 in
theorem c_X1_learn (l : Launch) (dC : Nat → ClassId) (dI : Nat → Nat → Nat) (t_ : Nat) (t_k : Nat) (t_o : Nat) (cyI : ClassId) (tk : Int32) (mo : Int32) (fk : Nat → Int32) (q_row : Nat) (q_cell : Nat) (len : Int32) (f : Nat → Int32) (sz : Nat) (a0 : 0 ≤ len.toInt) (a1 : len.toInt ≤ 160) : kx_MQ l (dC, dI) yX1_learn wsX1_learn ({ frames := 1, cells := 0, slots := 0, locals := 45 }) [.ref t_, .ref q_row] [kx_1 t_ t_k t_o tk mo, kx_a t_k cyI 160 fk, kx_0 q_row q_cell len, kx_a q_cell cyI 160 f] [(cyI, .int)] sz (fun A => va_Qv (fun u : (Nat → Int32) => kindOk u len.toInt) (fun (u : (Nat → Int32)) (t : State) => va_P (dC, dI) vwCl [kx_1 t_ t_k t_o tk mo, kx_a t_k cyI 160 u, kx_0 q_row q_cell len, kx_a q_cell cyI 160 f] t.heap ∧ va_K (dC, dI) vwCl [(cyI, .int)] t ∧ va_D A [kx_1 t_ t_k t_o tk mo, kx_a t_k cyI 160 u, kx_0 q_row q_cell len, kx_a q_cell cyI 160 f]) A) := by
  refine kx_stQ (ws := wsX1_learn) (cc := cX1_learn) (maxL := 3) (ret := none) (by decide) rfl (Nat.le_of_ble_eq_true rfl) ?_
  intro p e s m below meth c A ls hx hb hr hlocks hts hown hml hA hS hP hK hD hl
  have hown : s.vm.findClass RX1 = some m.cls := hown
  have hl : lv_has ls 3 [(0, .ref t_), (1, .ref q_row)] := hl
  have hf_18 := hts (.fieldLink RX1 18 "MajorityIndex$Row" "length" "I") (List.mem_of_getElem? (i := 1) rfl)
  have hi_0 : ∀ w ∈ u_ws RX0 TX0 2, w ∈ wsX1_learn := fun w h => List.mem_cons_of_mem _ (List.mem_append_left _ (List.mem_append_right _ h))
  have hf_9 := hts (.fieldLink RX1 9 "MajorityIndex$Tally" "kind" "[I") (List.mem_of_getElem? (i := 2) rfl)
  have hi_1 : ∀ w ∈ u_ws RX1 TX1 4, w ∈ wsX1_learn := fun w h => List.mem_cons_of_mem _ (List.mem_append_right _ h)
  refine lv_iconst (v := 0) hx hb dX1_learn_0 (by decide) ?_
  refine lv_istore_n (lv' := [(2, .int 0), (0, .ref t_), (1, .ref q_row)]) hx hb dX1_learn_1 rfl hl (by decide) rfl (fun ls hl => ?_)
  have LP1 : ∀ (n : Nat) (i : Int32) (gk : Nat → Int32), (0 ≤ i.toInt) → (kindOk gk i.toInt) → (len.toInt - i.toInt).toNat < n → ∀ (H : Heap) (locs : List Loc), va_P (dC, dI) vwCl [kx_1 t_ t_k t_o tk mo, kx_a t_k cyI 160 gk, kx_0 q_row q_cell len, kx_a q_cell cyI 160 f] H → va_D A [kx_1 t_ t_k t_o tk mo, kx_a t_k cyI 160 gk, kx_0 q_row q_cell len, kx_a q_cell cyI 160 f] → va_S A s.heap H locs → ∀ (ls : Array Slot), lv_has ls 3 [(2, .int i), (0, .ref t_), (1, .ref q_row)] → W p l e (headSpec wsX1_learn ({ frames := 1, cells := 0, slots := 0, locals := 45 })).room s m ([.ref t_, .ref q_row] : List Value).toArray below meth c H locs 0 0 (MQ below (va_Qv (fun u : (Nat → Int32) => kindOk u len.toInt) (fun (u : (Nat → Int32)) (t : State) => va_P (dC, dI) vwCl [kx_1 t_ t_k t_o tk mo, kx_a t_k cyI 160 u, kx_0 q_row q_cell len, kx_a q_cell cyI 160 f] t.heap ∧ va_K (dC, dI) vwCl [(cyI, .int)] t ∧ va_D A [kx_1 t_ t_k t_o tk mo, kx_a t_k cyI 160 u, kx_0 q_row q_cell len, kx_a q_cell cyI 160 f]) A) ([.ref t_, .ref q_row] : List Value).toArray s 0 0 A) (F0 m 2 ls []) := by
    intro n
    induction n with
    | zero => intro i gk LP1_h0 LP1_h1 hn; exact absurd hn (Nat.not_lt_zero _)
    | succ n ih1 =>
      intro i gk LP1_h0 LP1_h1 hn1 H locs hP hD hS ls hl
      refine lv_iload_n hx hb dX1_learn_2 rfl (lv_at hl 0 rfl) ?_
      refine lv_aload_n hx hb dX1_learn_3 rfl (lv_at hl 2 rfl) ?_
      refine va_get (D := (dC, dI)) (ci := 0) (v := .int len) (C := RX0) (T := TX0) (N := 2) hx hb hts hi_0 hown hK hP 2 rfl rfl 1 (by decide) hf_18 (fun _ h9 => h9) rfl dX1_learn_4 ?_
      refine lv_icmp_ge (tgt := 27) hx hb dX1_learn_7 (by decide) (fun c_1 => ?_) (fun c_1 => ?_)
      · have i_1 : len.toInt ≤ i.toInt := kc_le c_1
        have hP9 := hP
        have hD9 := hD
        have hK9 := hK
        exact W.vret hx hb hr (hlocks := hlocks) (fun t ht hW => ⟨⟨(gk), rfl, (fun k hk => LP1_h1 k (by (try dsimp only); omega)), by rw [ht]; exact hP9, va_K.moved hW.alike hK9, hD9⟩, hS.F ht⟩) hS.2.2 dX1_learn_27
      · have i_1 : i.toInt < len.toInt := kc_nle c_1
        refine lv_aload_n hx hb dX1_learn_10 rfl (lv_at hl 1 rfl) ?_
        refine va_get (D := (dC, dI)) (ci := 1) (v := .ref t_k) (C := RX1) (T := TX1) (N := 4) hx hb hts hi_1 hown hK hP 0 rfl rfl 0 (by decide) hf_9 (fun _ h9 => h9) rfl dX1_learn_11 ?_
        refine lv_iload_n hx hb dX1_learn_14 rfl (lv_at hl 0 rfl) ?_
        refine lv_aload_n hx hb dX1_learn_15 rfl (lv_at hl 2 rfl) ?_
        refine lv_iload_n hx hb dX1_learn_16 rfl (lv_at hl 0 rfl) ?_
        have hPc := hP.sub (ws' := [kx_0 q_row q_cell len, kx_a q_cell cyI 160 f]) [2, 3] rfl
        have hKc := hK
        refine vp_callSi (W.runV (As := [.int i]) (rest := [.int i, .ref t_k]) ⟨hx, hb, hml, hown, hts⟩ (c_X0_firstLike l dC dI q_row q_cell cyI len f i LP1_h0 (om_143 a1 i_1)) (cwV 1 hts gX1_learn_X0_firstLike rfl rfl rfl (by decide +kernel) ⟨Nat.le_of_ble_eq_true rfl, Nat.le_of_ble_eq_true rfl⟩) ⟨fun a U g mk q => by obtain ⟨q0, qP, qK⟩ := q; exact ⟨q0, qP, va_K.moved (u := U) (U := U.calling g mk a) (Vm.Alike.refl U.vm) qK⟩, kx_rc0 hKc hPc (q0 := 0) rfl, fun U hU hW => ⟨rfl, by rw [hU]; exact hPc, va_K.moved hW.alike hKc⟩⟩ rfl rfl hl.1 rfl (lv_room (Nat.le_of_ble_eq_true rfl)) dX1_learn_17 ⟨Nat.le_of_ble_eq_true rfl, Nat.le_of_ble_eq_true rfl⟩) (fun r_2 w_2 => ?_)
        have w_2 : 0 ≤ r_2.toInt ∧ r_2.toInt ≤ i.toInt := w_2
        refine va_iast hx hb hK hP hD hS 1 0 rfl rfl (ki_in (om_10 LP1_h0) (om_1 a1 i_1)) dX1_learn_20 (fun H locs hP hD hS => ?_)
        obtain ⟨hP, hD⟩ := kx_re (w2 := [kx_1 t_ t_k t_o tk mo, kx_a t_k cyI 160 (upd gk i.toNatClampNeg r_2), kx_0 q_row q_cell len, kx_a q_cell cyI 160 f]) hP hD rfl
        obtain ⟨x_3, ex_3⟩ : ∃ y : Int32, y = i + 1 := ⟨_, rfl⟩
        have i_3 : x_3.toInt = i.toInt + 1 := ki_add ex_3 rfl rfl (om_13 LP1_h0) (om_3 a1 i_1)
        refine lv_iinc (v := x_3) (lv' := [(2, .int x_3), (0, .ref t_), (1, .ref q_row)]) hx hb dX1_learn_21 hl (k := 0) rfl (by rw [ex_3]; rfl) (by decide) rfl (fun ls hl => ?_)
        refine lv_goto (tgt := 2) hx hb dX1_learn_24 (by decide) ?_
        have n_i := ki_nat i rfl (by omega)
        exact ih1 x_3 (upd gk i.toNatClampNeg r_2) (om_34 LP1_h0 i_3) (kindOk_upd LP1_h1 (by omega) (by omega) (by omega) (by omega)) (om_mu hn1 (om_5 i_3) (om_6 i_1)) _ _ hP hD hS ls (lv_sub hl [0, 1, 2] rfl)
  have k_4 : (0 : Int32).toInt = 0 := rfl
  exact LP1 ((len.toInt - 0 : Int).toNat + 1) 0 fk om_35 (kindOk_0 _ (by omega)) (Nat.lt_succ_self _) _ _ hP hD hS ls (lv_sub hl [0, 1, 2] rfl)

set_option maxHeartbeats 4000000 in
set_option maxRecDepth 100000 in
theorem c_X1_clear (l : Launch) (dC : Nat → ClassId) (dI : Nat → Nat → Nat) (t_ : Nat) (t_k : Nat) (t_o : Nat) (cyI : ClassId) (tk : Int32) (mo : Int32) (fq : Nat → Int32) (sz : Nat) : kx_MQ l (dC, dI) yX1_clear wsX1_clear ({ frames := 1, cells := 0, slots := 0, locals := 45 }) [.ref t_] [kx_1 t_ t_k t_o tk mo, kx_a t_o cyI 160 fq] [(cyI, .int)] sz (fun A => va_Qv (fun u : (Nat → Int32) => ∀ k : Nat, k < 160 → u k = 0) (fun (u : (Nat → Int32)) (t : State) => va_P (dC, dI) vwCl [kx_1 t_ t_k t_o 0 0, kx_a t_o cyI 160 u] t.heap ∧ va_K (dC, dI) vwCl [(cyI, .int)] t ∧ va_D A [kx_1 t_ t_k t_o 0 0, kx_a t_o cyI 160 u]) A) := by
  refine kx_stQ (ws := wsX1_clear) (cc := cX1_clear) (maxL := 1) (ret := none) (by decide) rfl (Nat.le_of_ble_eq_true rfl) ?_
  intro p e s m below meth c A ls hx hb hr hlocks hts hown hml hA hS hP hK hD hl
  have hown : s.vm.findClass RX1 = some m.cls := hown
  have hl : lv_has ls 1 [(0, .ref t_)] := hl
  have hf_15 := hts (.fieldLink RX1 15 "MajorityIndex$Tally" "often" "[I") (List.mem_of_getElem? (i := 1) rfl)
  have hi_1 : ∀ w ∈ u_ws RX1 TX1 4, w ∈ wsX1_clear := fun w h => List.mem_cons_of_mem _ (List.mem_append_right _ h)
  have hf_34 := hts (.fieldLink RX1 34 "MajorityIndex$Tally" "taken" "I") (List.mem_of_getElem? (i := 2) rfl)
  have hf_37 := hts (.fieldLink RX1 37 "MajorityIndex$Tally" "most" "I") (List.mem_of_getElem? (i := 3) rfl)
  refine lv_aload_n hx hb dX1_clear_0 rfl (lv_at hl 0 rfl) ?_
  refine va_get (D := (dC, dI)) (ci := 1) (v := .ref t_o) (C := RX1) (T := TX1) (N := 4) hx hb hts hi_1 hown hK hP 0 rfl rfl 1 (by decide) hf_15 (fun _ h9 => h9) rfl dX1_clear_1 ?_
  refine lv_iconst (v := 0) hx hb dX1_clear_4 (by decide) ?_
  obtain ⟨hPc, hDc, hFc, hCc⟩ := kx_preM (wc := [kx_a t_o cyI 160 fq]) hP hD hS hA [false, true] rfl
  have hKc := hK
  refine va_callv (va_runS (As := [.ref t_o, .int 0]) (rest := []) ⟨hx, hb, hml, hown, hts⟩ (kx_un (c_J7_fill_160 l dC dI t_o cyI fq 0 s.heap.size)) (va_cwS 2 hts gX1_clear_J7_fill_53178 rfl rfl rfl (by decide +kernel) ⟨Nat.le_of_ble_eq_true rfl, Nat.le_of_ble_eq_true rfl⟩) ⟨fun a U g mk q => by obtain ⟨q0, q1, qP, qK, qD⟩ := q; exact ⟨q0, q1, qP, va_K.moved (u := U) (U := U.calling g mk a) (Vm.Alike.refl U.vm) qK, qD⟩, fun U hU hW => ⟨rfl, by rw [hU], by rw [hU]; exact hPc, va_K.moved hW.alike hKc, hDc.weaken (fun _ _ _ _ => trivial)⟩⟩ rfl rfl hl.1 rfl (lv_room (Nat.le_of_ble_eq_true rfl)) dX1_clear_5 ⟨Nat.le_of_ble_eq_true rfl, Nat.le_of_ble_eq_true rfl⟩) hS (fun q _ h => hFc q h) hFc (fun u t H1 locs ht hvm w_1 hB hz1 hk1 hS => ?_)
  obtain ⟨o_2, rfl⟩ : ∃ z, z = u := ⟨_, rfl⟩
  obtain ⟨hP1, hK1, hD1⟩ := hB
  rw [ht] at hP1
  have hK1 := va_K.moved hvm.symm hK1
  obtain ⟨hP, hD⟩ := kx_joinM (w2 := [kx_1 t_ t_k t_o tk mo, kx_a t_o cyI 160 o_2]) hP hD hP1 hD1 hk1 hFc [false, true] hCc rfl
  clear hP1 hD1 hK1 hk1 hz1 hFc hDc hPc hKc hCc
  generalize H1 = H at hP hS ⊢
  have w_1 : ∀ k : Nat, k < 160 → o_2 k = 0 := w_1
  refine lv_aload_n hx hb dX1_clear_8 rfl (lv_at hl 0 rfl) ?_
  refine lv_iconst (v := 0) hx hb dX1_clear_9 (by decide) ?_
  refine va_put (D := (dC, dI)) (ci := 1) (v := .int 0) (ty := .int) (C := RX1) (T := TX1) (N := 4) hx hb hts hi_1 tyX1 tyX1_ok nmX1 hown hK hP hD hS 0 rfl rfl 2 (by decide) hf_34 (fun _ h9 => h9) rfl (by decide +kernel) rfl rfl (Nat.le_of_ble_eq_true rfl) dX1_clear_10 (fun H locs hP hD hS => ?_)
  obtain ⟨hP, hD⟩ := kx_re (w2 := [kx_1 t_ t_k t_o 0 mo, kx_a t_o cyI 160 o_2]) hP hD rfl
  refine lv_aload_n hx hb dX1_clear_13 rfl (lv_at hl 0 rfl) ?_
  refine lv_iconst (v := 0) hx hb dX1_clear_14 (by decide) ?_
  refine va_put (D := (dC, dI)) (ci := 1) (v := .int 0) (ty := .int) (C := RX1) (T := TX1) (N := 4) hx hb hts hi_1 tyX1 tyX1_ok nmX1 hown hK hP hD hS 0 rfl rfl 3 (by decide) hf_37 (fun _ h9 => h9) rfl (by decide +kernel) rfl rfl (Nat.le_of_ble_eq_true rfl) dX1_clear_15 (fun H locs hP hD hS => ?_)
  obtain ⟨hP, hD⟩ := kx_re (w2 := [kx_1 t_ t_k t_o 0 0, kx_a t_o cyI 160 o_2]) hP hD rfl
  have hP9 := hP
  have hD9 := hD
  have hK9 := hK
  exact W.vret hx hb hr (hlocks := hlocks) (fun t ht hW => ⟨⟨(o_2), rfl, w_1, by rw [ht]; exact hP9, va_K.moved hW.alike hK9, hD9⟩, hS.F ht⟩) hS.2.2 dX1_clear_18

set_option maxHeartbeats 4000000 in
set_option maxRecDepth 100000 in
theorem c_X1_take (l : Launch) (dC : Nat → ClassId) (dI : Nat → Nat → Nat) (t_ : Nat) (t_k : Nat) (t_o : Nat) (cyI : ClassId) (tk : Int32) (mo : Int32) (fk : Nat → Int32) (fq : Nat → Int32) (nn : Int) (p0 : Int32) (sz : Nat) (k0 : kindOk fk nn) (b0 : 0 ≤ p0.toInt) (b1 : p0.toInt < nn) (b2 : nn ≤ 160) : kx_MQ l (dC, dI) yX1_take wsX1_take ({ frames := 0, cells := 0, slots := 0, locals := 0 }) [.ref t_, .int p0] [kx_1 t_ t_k t_o tk mo, kx_a t_k cyI 160 fk, kx_a t_o cyI 160 fq] [(cyI, .int)] sz (fun A => va_Qv (fun u : Int32 × Int32 × (Nat → Int32) => True) (fun (u : Int32 × Int32 × (Nat → Int32)) (t : State) => va_P (dC, dI) vwCl [kx_1 t_ t_k t_o u.1 u.2.1, kx_a t_k cyI 160 fk, kx_a t_o cyI 160 u.2.2] t.heap ∧ va_K (dC, dI) vwCl [(cyI, .int)] t ∧ va_D A [kx_1 t_ t_k t_o u.1 u.2.1, kx_a t_k cyI 160 fk, kx_a t_o cyI 160 u.2.2]) A) := by
  refine kx_stQ (ws := wsX1_take) (cc := cX1_take) (maxL := 3) (ret := none) (by decide) rfl (Nat.le_of_ble_eq_true rfl) ?_
  intro p e s m below meth c A ls hx hb hr hlocks hts hown hml hA hS hP hK hD hl
  have hown : s.vm.findClass RX1 = some m.cls := hown
  have hl : lv_has ls 3 [(0, .ref t_), (1, .int p0)] := hl
  have hf_15 := hts (.fieldLink RX1 15 "MajorityIndex$Tally" "often" "[I") (List.mem_of_getElem? (i := 1) rfl)
  have hi_1 : ∀ w ∈ u_ws RX1 TX1 4, w ∈ wsX1_take := fun w h => List.mem_cons_of_mem _ (List.mem_append_right _ h)
  have hf_9 := hts (.fieldLink RX1 9 "MajorityIndex$Tally" "kind" "[I") (List.mem_of_getElem? (i := 2) rfl)
  have hf_34 := hts (.fieldLink RX1 34 "MajorityIndex$Tally" "taken" "I") (List.mem_of_getElem? (i := 3) rfl)
  have hf_37 := hts (.fieldLink RX1 37 "MajorityIndex$Tally" "most" "I") (List.mem_of_getElem? (i := 4) rfl)
  refine lv_aload_n hx hb dX1_take_0 rfl (lv_at hl 0 rfl) ?_
  refine va_get (D := (dC, dI)) (ci := 1) (v := .ref t_o) (C := RX1) (T := TX1) (N := 4) hx hb hts hi_1 hown hK hP 0 rfl rfl 1 (by decide) hf_15 (fun _ h9 => h9) rfl dX1_take_1 ?_
  refine lv_aload_n hx hb dX1_take_4 rfl (lv_at hl 0 rfl) ?_
  refine va_get (D := (dC, dI)) (ci := 1) (v := .ref t_k) (C := RX1) (T := TX1) (N := 4) hx hb hts hi_1 hown hK hP 0 rfl rfl 0 (by decide) hf_9 (fun _ h9 => h9) rfl dX1_take_5 ?_
  refine lv_iload_n hx hb dX1_take_8 rfl (lv_at hl 1 rfl) ?_
  refine va_iald hx hb hK hP 1 0 rfl rfl (ki_in (om_10 b0) (by omega)) dX1_take_9 ?_
  refine lv_topi (fun y_1 ey_1 => ?_)
  have j_1 : y_1.toInt = (fk p0.toNatClampNeg).toInt := congrArg Int32.toInt ey_1
  have n_2 : (p0.toNatClampNeg : Int) = p0.toInt := ki_nat _ rfl (om_10 b0)
  have i_3 := k0 p0.toNatClampNeg (by omega)
  refine va_iald hx hb hK hP 2 0 rfl rfl (ki_in (om_144 j_1 i_3.1) (by omega)) dX1_take_10 ?_
  refine lv_topi (fun y_4 ey_4 => ?_)
  have j_4 : y_4.toInt = (fq y_1.toNatClampNeg).toInt := congrArg Int32.toInt ey_4
  refine lv_iconst (v := 1) hx hb dX1_take_11 (by decide) ?_
  refine lv_iadd hx hb dX1_take_12 ?_
  refine lv_topi (fun y_5 ey_5 => ?_)
  refine lv_istore_n (lv' := [(2, .int y_5), (0, .ref t_), (1, .int p0)]) hx hb dX1_take_13 rfl hl (by decide) rfl (fun ls hl => ?_)
  refine lv_aload_n hx hb dX1_take_14 rfl (lv_at hl 1 rfl) ?_
  refine va_get (D := (dC, dI)) (ci := 1) (v := .ref t_o) (C := RX1) (T := TX1) (N := 4) hx hb hts hi_1 hown hK hP 0 rfl rfl 1 (by decide) hf_15 (fun _ h9 => h9) rfl dX1_take_15 ?_
  refine lv_aload_n hx hb dX1_take_18 rfl (lv_at hl 1 rfl) ?_
  refine va_get (D := (dC, dI)) (ci := 1) (v := .ref t_k) (C := RX1) (T := TX1) (N := 4) hx hb hts hi_1 hown hK hP 0 rfl rfl 0 (by decide) hf_9 (fun _ h9 => h9) rfl dX1_take_19 ?_
  refine lv_iload_n hx hb dX1_take_22 rfl (lv_at hl 2 rfl) ?_
  refine va_iald hx hb hK hP 1 0 rfl rfl (ki_in (om_10 b0) (by omega)) dX1_take_23 ?_
  refine lv_topi (fun y_6 ey_6 => ?_)
  have j_6 : y_6.toInt = (fk p0.toNatClampNeg).toInt := congrArg Int32.toInt ey_6
  have n_7 : (p0.toNatClampNeg : Int) = p0.toInt := ki_nat _ rfl (om_10 b0)
  have i_8 := k0 p0.toNatClampNeg (by omega)
  refine lv_iload_n hx hb dX1_take_24 rfl (lv_at hl 0 rfl) ?_
  refine va_iast hx hb hK hP hD hS 2 0 rfl rfl (ki_in (om_144 j_6 i_8.1) (by omega)) dX1_take_25 (fun H locs hP hD hS => ?_)
  obtain ⟨hP, hD⟩ := kx_re (w2 := [kx_1 t_ t_k t_o tk mo, kx_a t_k cyI 160 fk, kx_a t_o cyI 160 (upd fq y_6.toNatClampNeg y_5)]) hP hD rfl
  refine lv_aload_n hx hb dX1_take_26 rfl (lv_at hl 1 rfl) ?_
  refine lv_dup hx hb dX1_take_27 rfl ?_
  refine va_get (D := (dC, dI)) (ci := 1) (v := .int tk) (C := RX1) (T := TX1) (N := 4) hx hb hts hi_1 hown hK hP 0 rfl rfl 2 (by decide) hf_34 (fun _ h9 => h9) rfl dX1_take_28 ?_
  refine lv_iconst (v := 1) hx hb dX1_take_31 (by decide) ?_
  refine lv_iadd hx hb dX1_take_32 ?_
  refine lv_topi (fun y_9 ey_9 => ?_)
  refine va_put (D := (dC, dI)) (ci := 1) (v := .int y_9) (ty := .int) (C := RX1) (T := TX1) (N := 4) hx hb hts hi_1 tyX1 tyX1_ok nmX1 hown hK hP hD hS 0 rfl rfl 2 (by decide) hf_34 (fun _ h9 => h9) rfl (by decide +kernel) rfl rfl (Nat.le_of_ble_eq_true rfl) dX1_take_33 (fun H locs hP hD hS => ?_)
  obtain ⟨hP, hD⟩ := kx_re (w2 := [kx_1 t_ t_k t_o y_9 mo, kx_a t_k cyI 160 fk, kx_a t_o cyI 160 (upd fq y_6.toNatClampNeg y_5)]) hP hD rfl
  refine lv_iload_n hx hb dX1_take_36 rfl (lv_at hl 0 rfl) ?_
  refine lv_aload_n hx hb dX1_take_37 rfl (lv_at hl 1 rfl) ?_
  refine va_get (D := (dC, dI)) (ci := 1) (v := .int mo) (C := RX1) (T := TX1) (N := 4) hx hb hts hi_1 hown hK hP 0 rfl rfl 3 (by decide) hf_37 (fun _ h9 => h9) rfl dX1_take_38 ?_
  refine lv_icmp_le (tgt := 49) hx hb dX1_take_41 (by decide) (fun c_10 => ?_) (fun c_10 => ?_)
  · have i_10 : y_5.toInt ≤ mo.toInt := kc_le c_10
    have hP9 := hP
    have hD9 := hD
    have hK9 := hK
    exact W.vret hx hb hr (hlocks := hlocks) (fun t ht hW => ⟨⟨(y_9, mo, (upd fq y_6.toNatClampNeg y_5)), rfl, trivial, by rw [ht]; exact hP9, va_K.moved hW.alike hK9, hD9⟩, hS.F ht⟩) hS.2.2 dX1_take_49
  · have i_10 : mo.toInt < y_5.toInt := kc_nle c_10
    refine lv_aload_n hx hb dX1_take_44 rfl (lv_at hl 1 rfl) ?_
    refine lv_iload_n hx hb dX1_take_45 rfl (lv_at hl 0 rfl) ?_
    refine va_put (D := (dC, dI)) (ci := 1) (v := .int y_5) (ty := .int) (C := RX1) (T := TX1) (N := 4) hx hb hts hi_1 tyX1 tyX1_ok nmX1 hown hK hP hD hS 0 rfl rfl 3 (by decide) hf_37 (fun _ h9 => h9) rfl (by decide +kernel) rfl rfl (Nat.le_of_ble_eq_true rfl) dX1_take_46 (fun H locs hP hD hS => ?_)
    obtain ⟨hP, hD⟩ := kx_re (w2 := [kx_1 t_ t_k t_o y_9 y_5, kx_a t_k cyI 160 fk, kx_a t_o cyI 160 (upd fq y_6.toNatClampNeg y_5)]) hP hD rfl
    have hP9 := hP
    have hD9 := hD
    have hK9 := hK
    exact W.vret hx hb hr (hlocks := hlocks) (fun t ht hW => ⟨⟨(y_9, y_5, (upd fq y_6.toNatClampNeg y_5)), rfl, trivial, by rw [ht]; exact hP9, va_K.moved hW.alike hK9, hD9⟩, hS.F ht⟩) hS.2.2 dX1_take_49

set_option maxHeartbeats 4000000 in
set_option maxRecDepth 100000 in
theorem c_X1_drop (l : Launch) (dC : Nat → ClassId) (dI : Nat → Nat → Nat) (t_ : Nat) (t_k : Nat) (t_o : Nat) (cyI : ClassId) (tk : Int32) (mo : Int32) (fk : Nat → Int32) (fq : Nat → Int32) (nn : Int) (p0 : Int32) (sz : Nat) (k0 : kindOk fk nn) (b0 : 0 ≤ p0.toInt) (b1 : p0.toInt < nn) (b2 : nn ≤ 160) : kx_MQ l (dC, dI) yX1_drop wsX1_drop ({ frames := 0, cells := 0, slots := 0, locals := 0 }) [.ref t_, .int p0] [kx_1 t_ t_k t_o tk mo, kx_a t_k cyI 160 fk, kx_a t_o cyI 160 fq] [(cyI, .int)] sz (fun A => va_Qv (fun u : Int32 × (Nat → Int32) => True) (fun (u : Int32 × (Nat → Int32)) (t : State) => va_P (dC, dI) vwCl [kx_1 t_ t_k t_o u.1 mo, kx_a t_k cyI 160 fk, kx_a t_o cyI 160 u.2] t.heap ∧ va_K (dC, dI) vwCl [(cyI, .int)] t ∧ va_D A [kx_1 t_ t_k t_o u.1 mo, kx_a t_k cyI 160 fk, kx_a t_o cyI 160 u.2]) A) := by
  refine kx_stQ (ws := wsX1_drop) (cc := cX1_drop) (maxL := 2) (ret := none) (by decide) rfl (Nat.le_of_ble_eq_true rfl) ?_
  intro p e s m below meth c A ls hx hb hr hlocks hts hown hml hA hS hP hK hD hl
  have hown : s.vm.findClass RX1 = some m.cls := hown
  have hl : lv_has ls 2 [(0, .ref t_), (1, .int p0)] := hl
  have hf_15 := hts (.fieldLink RX1 15 "MajorityIndex$Tally" "often" "[I") (List.mem_of_getElem? (i := 1) rfl)
  have hi_1 : ∀ w ∈ u_ws RX1 TX1 4, w ∈ wsX1_drop := fun w h => List.mem_cons_of_mem _ (List.mem_append_right _ h)
  have hf_9 := hts (.fieldLink RX1 9 "MajorityIndex$Tally" "kind" "[I") (List.mem_of_getElem? (i := 2) rfl)
  have hf_34 := hts (.fieldLink RX1 34 "MajorityIndex$Tally" "taken" "I") (List.mem_of_getElem? (i := 3) rfl)
  refine lv_aload_n hx hb dX1_drop_0 rfl (lv_at hl 0 rfl) ?_
  refine va_get (D := (dC, dI)) (ci := 1) (v := .ref t_o) (C := RX1) (T := TX1) (N := 4) hx hb hts hi_1 hown hK hP 0 rfl rfl 1 (by decide) hf_15 (fun _ h9 => h9) rfl dX1_drop_1 ?_
  refine lv_aload_n hx hb dX1_drop_4 rfl (lv_at hl 0 rfl) ?_
  refine va_get (D := (dC, dI)) (ci := 1) (v := .ref t_k) (C := RX1) (T := TX1) (N := 4) hx hb hts hi_1 hown hK hP 0 rfl rfl 0 (by decide) hf_9 (fun _ h9 => h9) rfl dX1_drop_5 ?_
  refine lv_iload_n hx hb dX1_drop_8 rfl (lv_at hl 1 rfl) ?_
  refine va_iald hx hb hK hP 1 0 rfl rfl (ki_in (om_10 b0) (by omega)) dX1_drop_9 ?_
  refine lv_topi (fun y_1 ey_1 => ?_)
  have j_1 : y_1.toInt = (fk p0.toNatClampNeg).toInt := congrArg Int32.toInt ey_1
  have n_2 : (p0.toNatClampNeg : Int) = p0.toInt := ki_nat _ rfl (om_10 b0)
  have i_3 := k0 p0.toNatClampNeg (by omega)
  refine lv_dup2_11 hx hb dX1_drop_10 rfl rfl ?_
  refine va_iald hx hb hK hP 2 0 rfl rfl (ki_in (om_144 j_1 i_3.1) (by omega)) dX1_drop_11 ?_
  refine lv_topi (fun y_4 ey_4 => ?_)
  have j_4 : y_4.toInt = (fq y_1.toNatClampNeg).toInt := congrArg Int32.toInt ey_4
  refine lv_iconst (v := 1) hx hb dX1_drop_12 (by decide) ?_
  refine lv_isub hx hb dX1_drop_13 ?_
  refine lv_topi (fun y_5 ey_5 => ?_)
  refine va_iast hx hb hK hP hD hS 2 0 rfl rfl (ki_in (om_144 j_1 i_3.1) (by omega)) dX1_drop_14 (fun H locs hP hD hS => ?_)
  obtain ⟨hP, hD⟩ := kx_re (w2 := [kx_1 t_ t_k t_o tk mo, kx_a t_k cyI 160 fk, kx_a t_o cyI 160 (upd fq y_1.toNatClampNeg y_5)]) hP hD rfl
  refine lv_aload_n hx hb dX1_drop_15 rfl (lv_at hl 0 rfl) ?_
  refine lv_dup hx hb dX1_drop_16 rfl ?_
  refine va_get (D := (dC, dI)) (ci := 1) (v := .int tk) (C := RX1) (T := TX1) (N := 4) hx hb hts hi_1 hown hK hP 0 rfl rfl 2 (by decide) hf_34 (fun _ h9 => h9) rfl dX1_drop_17 ?_
  refine lv_iconst (v := 1) hx hb dX1_drop_20 (by decide) ?_
  refine lv_isub hx hb dX1_drop_21 ?_
  refine lv_topi (fun y_6 ey_6 => ?_)
  refine va_put (D := (dC, dI)) (ci := 1) (v := .int y_6) (ty := .int) (C := RX1) (T := TX1) (N := 4) hx hb hts hi_1 tyX1 tyX1_ok nmX1 hown hK hP hD hS 0 rfl rfl 2 (by decide) hf_34 (fun _ h9 => h9) rfl (by decide +kernel) rfl rfl (Nat.le_of_ble_eq_true rfl) dX1_drop_22 (fun H locs hP hD hS => ?_)
  obtain ⟨hP, hD⟩ := kx_re (w2 := [kx_1 t_ t_k t_o y_6 mo, kx_a t_k cyI 160 fk, kx_a t_o cyI 160 (upd fq y_1.toNatClampNeg y_5)]) hP hD rfl
  have hP9 := hP
  have hD9 := hD
  have hK9 := hK
  exact W.vret hx hb hr (hlocks := hlocks) (fun t ht hW => ⟨⟨(y_6, (upd fq y_1.toNatClampNeg y_5)), rfl, trivial, by rw [ht]; exact hP9, va_K.moved hW.alike hK9, hD9⟩, hS.F ht⟩) hS.2.2 dX1_drop_25

set_option maxHeartbeats 4000000 in
set_option maxRecDepth 100000 in
theorem c_X1_hasMajority (l : Launch) (dC : Nat → ClassId) (dI : Nat → Nat → Nat) (t_ : Nat) (t_k : Nat) (t_o : Nat) (tk : Int32) (mo : Int32) : Met l yX1_hasMajority wsX1_hasMajority ({ frames := 0, cells := 0, slots := 0, locals := 0 }) (va_Pc [.ref t_] (fun U => va_P (dC, dI) vwCl [kx_1 t_ t_k t_o tk mo] U.heap ∧ va_K (dC, dI) vwCl [] U)) (vp_Si (fun r : Int32 => (r = 1 ∧ (0 : Int) ≤ 1) ∨ (r = 0 ∧ (0 : Int) ≤ 1))) 0 0 (fun _ => False) := by
  refine kx_stS (ws := wsX1_hasMajority) (cc := cX1_hasMajority) (maxL := 1) (ret := (some .boolean)) (by decide) rfl (Nat.le_of_ble_eq_true rfl) ?_
  intro p e s m below meth c ls hx hb hr hlocks hts hown hml hP hK hl
  have hown : s.vm.findClass RX1 = some m.cls := hown
  have hl : lv_has ls 1 [(0, .ref t_)] := hl
  have hf_37 := hts (.fieldLink RX1 37 "MajorityIndex$Tally" "most" "I") (List.mem_of_getElem? (i := 1) rfl)
  have hi_1 : ∀ w ∈ u_ws RX1 TX1 4, w ∈ wsX1_hasMajority := fun w h => List.mem_cons_of_mem _ (List.mem_append_right _ h)
  have hf_34 := hts (.fieldLink RX1 34 "MajorityIndex$Tally" "taken" "I") (List.mem_of_getElem? (i := 2) rfl)
  refine lv_iconst (v := 2) hx hb dX1_hasMajority_0 (by decide) ?_
  refine lv_aload_n hx hb dX1_hasMajority_1 rfl (lv_at hl 0 rfl) ?_
  refine va_get (D := (dC, dI)) (ci := 1) (v := .int mo) (C := RX1) (T := TX1) (N := 4) hx hb hts hi_1 hown hK hP 0 rfl rfl 3 (by decide) hf_37 (fun _ h9 => h9) rfl dX1_hasMajority_2 ?_
  refine lv_imul hx hb dX1_hasMajority_5 ?_
  refine lv_topi (fun y_1 ey_1 => ?_)
  refine lv_aload_n hx hb dX1_hasMajority_6 rfl (lv_at hl 0 rfl) ?_
  refine va_get (D := (dC, dI)) (ci := 1) (v := .int tk) (C := RX1) (T := TX1) (N := 4) hx hb hts hi_1 hown hK hP 0 rfl rfl 2 (by decide) hf_34 (fun _ h9 => h9) rfl dX1_hasMajority_7 ?_
  refine lv_icmp_le (tgt := 17) hx hb dX1_hasMajority_10 (by decide) (fun c_2 => ?_) (fun c_2 => ?_)
  · have i_2 : y_1.toInt ≤ tk.toInt := kc_le c_2
    refine lv_iconst (v := 0) hx hb dX1_hasMajority_17 (by decide) ?_
    exact W.zret (v := 0) hx hb hr (by decide) (hlocks := hlocks) (fun t ht hW => ⟨0, rfl, Or.inr (⟨rfl, om_29⟩), ht⟩) (fun q hq => by cases hq) dX1_hasMajority_18
  · have i_2 : tk.toInt < y_1.toInt := kc_nle c_2
    refine lv_iconst (v := 1) hx hb dX1_hasMajority_13 (by decide) ?_
    refine lv_goto (tgt := 18) hx hb dX1_hasMajority_14 (by decide) ?_
    exact W.zret (v := 1) hx hb hr (by decide) (hlocks := hlocks) (fun t ht hW => ⟨1, rfl, Or.inl ⟨rfl, om_29⟩, ht⟩) (fun q hq => by cases hq) dX1_hasMajority_18



abbrev wsX40 : List Cond := u_ws RX4 TX4 9
theorem nmX4 : ∀ a, a < 9 → ∀ b, b < 9 → a ≠ b → (TX4 a).2.1 ≠ (TX4 b).2.1 := by decide +kernel
theorem tyX4_ok : ∀ k, k < 9 → parseFieldDescriptor (TX4 k).2.2.1 = some (tyX4 k) := by decide +kernel
abbrev cX4_feed : ByteArray := prog_1_method_2_code
def yX4_feed : MethodName := ⟨RX4, "feed", "(II)I"⟩
abbrev cX4_end : ByteArray := prog_1_method_3_code
def yX4_end : MethodName := ⟨RX4, "end", "(I)I"⟩
abbrev cX4_slots : ByteArray := prog_1_method_4_code
def yX4_slots : MethodName := ⟨RX4, "slots", "(I)I"⟩
abbrev cX4_insert : ByteArray := prog_1_method_9_code
def yX4_insert : MethodName := ⟨RX4, "insert", "(II)I"⟩
abbrev cX4_remove : ByteArray := prog_1_method_10_code
def yX4_remove : MethodName := ⟨RX4, "remove", "(I)I"⟩
abbrev cX4_isValue : ByteArray := prog_1_method_46_code
def yX4_isValue : MethodName := ⟨RX4, "isValue", "(I)Z"⟩
abbrev cX4_isShare : ByteArray := prog_1_method_47_code
def yX4_isShare : MethodName := ⟨RX4, "isShare", "(II)Z"⟩
abbrev cX4_laidTree : ByteArray := prog_1_method_51_code
def yX4_laidTree : MethodName := ⟨RX4, "laidTree", "()LMajorityIndex$Tree;"⟩
def wsX4_feed : List Cond := .code yX4_feed cX4_feed 3 (some .int) :: ([.fieldLink RX4 12 "MajorityIndex" "row" "LMajorityIndex$Row;", .fieldLink RX4 57 "MajorityIndex$Row" "length" "I", .fieldLink RX4 53 "MajorityIndex" "treeIsOld" "Z", .methodLink RX4 60 yX0_append, .instanceMethod yX0_append, .selects RX0 yX0_append yX0_append, .initialized RX0, .code yX0_append cX0_append 2 none, .fieldLink RX0 15 "MajorityIndex$Row" "length" "I", .fieldLink RX0 9 "MajorityIndex$Row" "cell" "[I"] ++ wsX40 ++ wsX00)
def wsX4_end : List Cond := .code yX4_end cX4_end 2 (some .int) :: ([.fieldLink RX4 12 "MajorityIndex" "row" "LMajorityIndex$Row;", .fieldLink RX4 57 "MajorityIndex$Row" "length" "I", .fieldLink RX4 53 "MajorityIndex" "treeIsOld" "Z"] ++ wsX40 ++ wsX00)
def wsX4_slots : List Cond := .code yX4_slots cX4_slots 3 (some .int) :: ([.fieldLink RX4 49 "MajorityIndex" "slotsNow" "I", .fieldLink RX4 53 "MajorityIndex" "treeIsOld" "Z"] ++ wsX40)
def wsX4_isValue : List Cond := .code yX4_isValue cX4_isValue 1 (some .boolean) :: ([])
def wsX4_laidTree_r1 : List Cond := [Cond.fieldLink RX4 53 "MajorityIndex" "treeIsOld" "Z", Cond.fieldLink RX4 21 "MajorityIndex" "tree" "LMajorityIndex$Tree;", Cond.fieldLink RX4 49 "MajorityIndex" "slotsNow" "I", Cond.fieldLink RX4 204 "MajorityIndex$Tree" "slotsHere" "I", Cond.fieldLink RX4 12 "MajorityIndex" "row" "LMajorityIndex$Row;", Cond.fieldLink RX4 57 "MajorityIndex$Row" "length" "I", Cond.methodLink RX4 259 yX2_layRanges, Cond.instanceMethod yX2_layRanges, Cond.selects RX2 yX2_layRanges yX2_layRanges, Cond.initialized RX2, Cond.code yX2_layRanges cX2_layRanges 2 none, Cond.fieldLink RX2 40 "MajorityIndex$Tree" "row" "LMajorityIndex$Row;", Cond.fieldLink RX2 44 "MajorityIndex$Row" "length" "I", Cond.fieldLink RX2 50 "MajorityIndex$Tree" "nodes" "I", Cond.fieldLink RX2 18 "MajorityIndex$Tree" "from" "[I", Cond.fieldLink RX2 22 "MajorityIndex$Tree" "to" "[I", Cond.methodLink RX2 53 yX2_layBelow, Cond.instanceMethod yX2_layBelow, Cond.selects RX2 yX2_layBelow yX2_layBelow, Cond.code yX2_layBelow cX2_layBelow 4 none, Cond.methodLink RX2 57 yX2_rightBelow, Cond.instanceMethod yX2_rightBelow, Cond.selects RX2 yX2_rightBelow yX2_rightBelow, Cond.code yX2_rightBelow cX2_rightBelow 3 (some .int)]
def wsX4_laidTree_r2 : List Cond := [Cond.methodLink RX4 87 yX2_renew, Cond.instanceMethod yX2_renew, Cond.selects RX2 yX2_renew yX2_renew, Cond.code yX2_renew cX2_renew 5 (some .int), Cond.methodLink RX2 61 yX2_putTogether, Cond.instanceMethod yX2_putTogether, Cond.selects RX2 yX2_putTogether yX2_putTogether, Cond.code yX2_putTogether cX2_putTogether 2 none, Cond.fieldLink RX2 12 "MajorityIndex$Tree" "joined" "LMajorityIndex$Votes;", Cond.fieldLink RX2 74 "MajorityIndex$Row" "cell" "[I", Cond.fieldLink RX2 85 "MajorityIndex$Tree" "slotsHere" "I", Cond.methodLink RX2 71 yX3_clear, Cond.instanceMethod yX3_clear, Cond.selects RX3 yX3_clear yX3_clear, Cond.initialized RX3, Cond.code yX3_clear cX3_clear 1 none, Cond.fieldLink RX3 18 "MajorityIndex$Votes" "size" "I", Cond.fieldLink RX3 22 "MajorityIndex$Votes" "lost" "I", Cond.fieldLink RX3 25 "MajorityIndex$Votes" "lessBy" "I", Cond.methodLink RX2 77 yX3_add, Cond.instanceMethod yX3_add, Cond.selects RX3 yX3_add yX3_add, Cond.code yX3_add cX3_add 4 none, Cond.fieldLink RX3 9 "MajorityIndex$Votes" "value" "[I"]
def wsX4_laidTree_r3 : List Cond := [Cond.fieldLink RX3 15 "MajorityIndex$Votes" "number" "[I", Cond.methodLink RX2 81 yX2_joinNode, Cond.instanceMethod yX2_joinNode, Cond.selects RX2 yX2_joinNode yX2_joinNode, Cond.code yX2_joinNode cX2_joinNode 5 none, Cond.fieldLink RX2 25 "MajorityIndex$Tree" "size" "[I", Cond.fieldLink RX2 34 "MajorityIndex$Tree" "value" "[I", Cond.fieldLink RX2 37 "MajorityIndex$Tree" "number" "[I", Cond.fieldLink RX2 91 "MajorityIndex$Votes" "lost" "I", Cond.fieldLink RX2 28 "MajorityIndex$Tree" "lossOf" "[I", Cond.methodLink RX2 88 yX3_cancel, Cond.instanceMethod yX3_cancel, Cond.selects RX3 yX3_cancel yX3_cancel, Cond.code yX3_cancel cX3_cancel 4 none, Cond.methodLink RX3 32 yX3_order, Cond.instanceMethod yX3_order, Cond.selects RX3 yX3_order yX3_order, Cond.code yX3_order cX3_order 3 none, Cond.methodLink RX3 35 yX3_isAhead, Cond.instanceMethod yX3_isAhead, Cond.selects RX3 yX3_isAhead yX3_isAhead, Cond.code yX3_isAhead cX3_isAhead 3 (some .boolean), Cond.methodLink RX3 39 yX3_exchange, Cond.instanceMethod yX3_exchange]
def wsX4_laidTree_r4 : List Cond := [Cond.selects RX3 yX3_exchange yX3_exchange, Cond.code yX3_exchange cX3_exchange 5 none, Cond.methodLink RX2 64 yX2_isJoined, Cond.instanceMethod yX2_isJoined, Cond.selects RX2 yX2_isJoined yX2_isJoined, Cond.code yX2_isJoined cX2_isJoined 4 (some .boolean), Cond.fieldLink RX2 94 "MajorityIndex$Votes" "size" "I", Cond.fieldLink RX2 96 "MajorityIndex$Votes" "value" "[I", Cond.fieldLink RX2 97 "MajorityIndex$Votes" "number" "[I", Cond.methodLink RX2 68 yX2_keepJoined, Cond.instanceMethod yX2_keepJoined, Cond.selects RX2 yX2_keepJoined yX2_keepJoined, Cond.code yX2_keepJoined cX2_keepJoined 4 none, Cond.methodLink RX2 98 Lib.Math.min.name, Cond.static Lib.Math.min.name, Cond.initialized "java/lang/Math", Cond.code Lib.Math.min.name Lib.Math.min.code 2 (some .int), Cond.fieldLink RX2 31 "MajorityIndex$Tree" "lessBy" "[I", Cond.fieldLink RX2 104 "MajorityIndex$Votes" "lessBy" "I"]
def wsX4_laidTree : List Cond := .code yX4_laidTree cX4_laidTree 1 (some (.object "MajorityIndex$Tree")) :: ((wsX4_laidTree_r1 ++ (wsX4_laidTree_r2 ++ (wsX4_laidTree_r3 ++ wsX4_laidTree_r4))) ++ wsX40 ++ wsX20 ++ wsX00 ++ wsX30)
def wsX4_insert : List Cond := .code yX4_insert cX4_insert 3 (some .int) :: ([.fieldLink RX4 12 "MajorityIndex" "row" "LMajorityIndex$Row;", .fieldLink RX4 57 "MajorityIndex$Row" "length" "I", .fieldLink RX4 53 "MajorityIndex" "treeIsOld" "Z", .methodLink RX4 68 yX4_isValue, .static yX4_isValue, .initialized RX4, .code yX4_isValue cX4_isValue 1 (some .boolean), .methodLink RX4 99 yX0_putIn, .instanceMethod yX0_putIn, .selects RX0 yX0_putIn yX0_putIn, .initialized RX0, .code yX0_putIn cX0_putIn 4 none, .fieldLink RX0 15 "MajorityIndex$Row" "length" "I", .fieldLink RX0 9 "MajorityIndex$Row" "cell" "[I"] ++ wsX40 ++ wsX00)
def wsX4_remove : List Cond := .code yX4_remove cX4_remove 3 (some .int) :: ([.fieldLink RX4 12 "MajorityIndex" "row" "LMajorityIndex$Row;", .constant RX4 102 (-40000), .fieldLink RX4 53 "MajorityIndex" "treeIsOld" "Z", .methodLink RX4 64 yX0_hasPlace, .instanceMethod yX0_hasPlace, .selects RX0 yX0_hasPlace yX0_hasPlace, .initialized RX0, .code yX0_hasPlace cX0_hasPlace 2 (some .boolean), .fieldLink RX0 15 "MajorityIndex$Row" "length" "I", .methodLink RX4 103 yX0_takeOut, .instanceMethod yX0_takeOut, .selects RX0 yX0_takeOut yX0_takeOut, .code yX0_takeOut cX0_takeOut 4 (some .int), .constant RX0 23 (-40000), .fieldLink RX0 9 "MajorityIndex$Row" "cell" "[I", .methodLink RX0 19 yX0_hasPlace] ++ wsX40 ++ wsX00)
def wsX4_isShare : List Cond := .code yX4_isShare cX4_isShare 2 (some .boolean) :: ([])
set_option maxRecDepth 20000 in
theorem ggX4_feed_X0_append : GoodIn wsX4_feed wsX0_append := goodIn_r _ [8, 9, 10, 20, 21] rfl (by decide +kernel)
set_option maxRecDepth 20000 in
theorem gX4_feed_X0_append : GoodIn wsX4_feed (wsV RX4 60 RX0 yX0_append wsX0_append) := goodIn_app (goodIn_r _ [4, 5, 6, 7] rfl (by decide +kernel)) ggX4_feed_X0_append
def dt_cX4_feed_0 : List (Nat × Nat × Nat × Nat) := [(0, 42, 0, 0), (1, 180, 2, 12), (4, 180, 2, 57), (7, 7, 0, 0), (8, 96, 0, 0), (9, 17, 2, 160), (12, 164, 2, 5), (15, 2, 0, 0), (16, 172, 0, 0), (17, 42, 0, 0), (18, 180, 2, 12), (21, 27, 0, 0), (22, 16, 1, 16), (24, 122, 0, 0), (25, 182, 2, 60), (28, 42, 0, 0), (29, 180, 2, 12), (32, 27, 0, 0), (33, 147, 0, 0), (34, 182, 2, 60)]
theorem da_cX4_feed_0 : fw dt_cX4_feed_0 0 cX4_feed.data.toList = true := by decide +kernel
theorem dX4_feed_0 : decode cX4_feed 0 = .ok (.aload_n 0, 1) := fo_42 (fw_get da_cX4_feed_0 0 rfl)
theorem dX4_feed_1 : decode cX4_feed 1 = .ok (.getfield 12, 3) := fo_180 (fw_get da_cX4_feed_0 1 rfl)
theorem dX4_feed_4 : decode cX4_feed 4 = .ok (.getfield 57, 3) := fo_180 (fw_get da_cX4_feed_0 2 rfl)
theorem dX4_feed_7 : decode cX4_feed 7 = .ok (.iconst 4, 1) := fo_7 (fw_get da_cX4_feed_0 3 rfl)
theorem dX4_feed_8 : decode cX4_feed 8 = .ok (.iadd, 1) := fo_96 (fw_get da_cX4_feed_0 4 rfl)
theorem dX4_feed_9 : decode cX4_feed 9 = .ok (.sipush 160, 3) := fo_17 (fw_get da_cX4_feed_0 5 rfl) (by decide +kernel)
theorem dX4_feed_12 : decode cX4_feed 12 = .ok (.if_icmp .le 5, 3) := fo_164 (fw_get da_cX4_feed_0 6 rfl) (by decide +kernel)
theorem dX4_feed_15 : decode cX4_feed 15 = .ok (.iconst (-1), 1) := fo_2 (fw_get da_cX4_feed_0 7 rfl)
theorem dX4_feed_16 : decode cX4_feed 16 = .ok (.ireturn, 1) := fo_172 (fw_get da_cX4_feed_0 8 rfl)
theorem dX4_feed_17 : decode cX4_feed 17 = .ok (.aload_n 0, 1) := fo_42 (fw_get da_cX4_feed_0 9 rfl)
theorem dX4_feed_18 : decode cX4_feed 18 = .ok (.getfield 12, 3) := fo_180 (fw_get da_cX4_feed_0 10 rfl)
theorem dX4_feed_21 : decode cX4_feed 21 = .ok (.iload_n 1, 1) := fo_27 (fw_get da_cX4_feed_0 11 rfl)
theorem dX4_feed_22 : decode cX4_feed 22 = .ok (.bipush 16, 2) := fo_16 (fw_get da_cX4_feed_0 12 rfl) (by decide +kernel)
theorem dX4_feed_24 : decode cX4_feed 24 = .ok (.ishr, 1) := fo_122 (fw_get da_cX4_feed_0 13 rfl)
theorem dX4_feed_25 : decode cX4_feed 25 = .ok (.invokevirtual 60, 3) := fo_182 (fw_get da_cX4_feed_0 14 rfl)
theorem dX4_feed_28 : decode cX4_feed 28 = .ok (.aload_n 0, 1) := fo_42 (fw_get da_cX4_feed_0 15 rfl)
theorem dX4_feed_29 : decode cX4_feed 29 = .ok (.getfield 12, 3) := fo_180 (fw_get da_cX4_feed_0 16 rfl)
theorem dX4_feed_32 : decode cX4_feed 32 = .ok (.iload_n 1, 1) := fo_27 (fw_get da_cX4_feed_0 17 rfl)
theorem dX4_feed_33 : decode cX4_feed 33 = .ok (.i2s, 1) := fo_147 (fw_get da_cX4_feed_0 18 rfl)
theorem dX4_feed_34 : decode cX4_feed 34 = .ok (.invokevirtual 60, 3) := fo_182 (fw_get da_cX4_feed_0 19 rfl)
def dt_cX4_feed_1 : List (Nat × Nat × Nat × Nat) := [(37, 42, 0, 0), (38, 180, 2, 12), (41, 28, 0, 0), (42, 16, 1, 16), (44, 122, 0, 0), (45, 182, 2, 60), (48, 42, 0, 0), (49, 180, 2, 12), (52, 28, 0, 0), (53, 147, 0, 0), (54, 182, 2, 60), (57, 42, 0, 0), (58, 4, 0, 0), (59, 181, 2, 53), (62, 42, 0, 0), (63, 180, 2, 12), (66, 180, 2, 57), (69, 172, 0, 0)]
theorem da_cX4_feed_1 : fw dt_cX4_feed_1 0 cX4_feed.data.toList = true := by decide +kernel
theorem dX4_feed_37 : decode cX4_feed 37 = .ok (.aload_n 0, 1) := fo_42 (fw_get da_cX4_feed_1 0 rfl)
theorem dX4_feed_38 : decode cX4_feed 38 = .ok (.getfield 12, 3) := fo_180 (fw_get da_cX4_feed_1 1 rfl)
theorem dX4_feed_41 : decode cX4_feed 41 = .ok (.iload_n 2, 1) := fo_28 (fw_get da_cX4_feed_1 2 rfl)
theorem dX4_feed_42 : decode cX4_feed 42 = .ok (.bipush 16, 2) := fo_16 (fw_get da_cX4_feed_1 3 rfl) (by decide +kernel)
theorem dX4_feed_44 : decode cX4_feed 44 = .ok (.ishr, 1) := fo_122 (fw_get da_cX4_feed_1 4 rfl)
theorem dX4_feed_45 : decode cX4_feed 45 = .ok (.invokevirtual 60, 3) := fo_182 (fw_get da_cX4_feed_1 5 rfl)
theorem dX4_feed_48 : decode cX4_feed 48 = .ok (.aload_n 0, 1) := fo_42 (fw_get da_cX4_feed_1 6 rfl)
theorem dX4_feed_49 : decode cX4_feed 49 = .ok (.getfield 12, 3) := fo_180 (fw_get da_cX4_feed_1 7 rfl)
theorem dX4_feed_52 : decode cX4_feed 52 = .ok (.iload_n 2, 1) := fo_28 (fw_get da_cX4_feed_1 8 rfl)
theorem dX4_feed_53 : decode cX4_feed 53 = .ok (.i2s, 1) := fo_147 (fw_get da_cX4_feed_1 9 rfl)
theorem dX4_feed_54 : decode cX4_feed 54 = .ok (.invokevirtual 60, 3) := fo_182 (fw_get da_cX4_feed_1 10 rfl)
theorem dX4_feed_57 : decode cX4_feed 57 = .ok (.aload_n 0, 1) := fo_42 (fw_get da_cX4_feed_1 11 rfl)
theorem dX4_feed_58 : decode cX4_feed 58 = .ok (.iconst 1, 1) := fo_4 (fw_get da_cX4_feed_1 12 rfl)
theorem dX4_feed_59 : decode cX4_feed 59 = .ok (.putfield 53, 3) := fo_181 (fw_get da_cX4_feed_1 13 rfl)
theorem dX4_feed_62 : decode cX4_feed 62 = .ok (.aload_n 0, 1) := fo_42 (fw_get da_cX4_feed_1 14 rfl)
theorem dX4_feed_63 : decode cX4_feed 63 = .ok (.getfield 12, 3) := fo_180 (fw_get da_cX4_feed_1 15 rfl)
theorem dX4_feed_66 : decode cX4_feed 66 = .ok (.getfield 57, 3) := fo_180 (fw_get da_cX4_feed_1 16 rfl)
theorem dX4_feed_69 : decode cX4_feed 69 = .ok (.ireturn, 1) := fo_172 (fw_get da_cX4_feed_1 17 rfl)
def dt_cX4_end_0 : List (Nat × Nat × Nat × Nat) := [(0, 27, 0, 0), (1, 155, 2, 14), (4, 27, 0, 0), (5, 42, 0, 0), (6, 180, 2, 12), (9, 180, 2, 57), (12, 164, 2, 5), (15, 2, 0, 0), (16, 172, 0, 0), (17, 42, 0, 0), (18, 180, 2, 12), (21, 27, 0, 0), (22, 181, 2, 57), (25, 42, 0, 0), (26, 4, 0, 0), (27, 181, 2, 53), (30, 27, 0, 0), (31, 172, 0, 0)]
theorem da_cX4_end_0 : fw dt_cX4_end_0 0 cX4_end.data.toList = true := by decide +kernel
theorem dX4_end_0 : decode cX4_end 0 = .ok (.iload_n 1, 1) := fo_27 (fw_get da_cX4_end_0 0 rfl)
theorem dX4_end_1 : decode cX4_end 1 = .ok (.ifCond .lt 14, 3) := fo_155 (fw_get da_cX4_end_0 1 rfl) (by decide +kernel)
theorem dX4_end_4 : decode cX4_end 4 = .ok (.iload_n 1, 1) := fo_27 (fw_get da_cX4_end_0 2 rfl)
theorem dX4_end_5 : decode cX4_end 5 = .ok (.aload_n 0, 1) := fo_42 (fw_get da_cX4_end_0 3 rfl)
theorem dX4_end_6 : decode cX4_end 6 = .ok (.getfield 12, 3) := fo_180 (fw_get da_cX4_end_0 4 rfl)
theorem dX4_end_9 : decode cX4_end 9 = .ok (.getfield 57, 3) := fo_180 (fw_get da_cX4_end_0 5 rfl)
theorem dX4_end_12 : decode cX4_end 12 = .ok (.if_icmp .le 5, 3) := fo_164 (fw_get da_cX4_end_0 6 rfl) (by decide +kernel)
theorem dX4_end_15 : decode cX4_end 15 = .ok (.iconst (-1), 1) := fo_2 (fw_get da_cX4_end_0 7 rfl)
theorem dX4_end_16 : decode cX4_end 16 = .ok (.ireturn, 1) := fo_172 (fw_get da_cX4_end_0 8 rfl)
theorem dX4_end_17 : decode cX4_end 17 = .ok (.aload_n 0, 1) := fo_42 (fw_get da_cX4_end_0 9 rfl)
theorem dX4_end_18 : decode cX4_end 18 = .ok (.getfield 12, 3) := fo_180 (fw_get da_cX4_end_0 10 rfl)
theorem dX4_end_21 : decode cX4_end 21 = .ok (.iload_n 1, 1) := fo_27 (fw_get da_cX4_end_0 11 rfl)
theorem dX4_end_22 : decode cX4_end 22 = .ok (.putfield 57, 3) := fo_181 (fw_get da_cX4_end_0 12 rfl)
theorem dX4_end_25 : decode cX4_end 25 = .ok (.aload_n 0, 1) := fo_42 (fw_get da_cX4_end_0 13 rfl)
theorem dX4_end_26 : decode cX4_end 26 = .ok (.iconst 1, 1) := fo_4 (fw_get da_cX4_end_0 14 rfl)
theorem dX4_end_27 : decode cX4_end 27 = .ok (.putfield 53, 3) := fo_181 (fw_get da_cX4_end_0 15 rfl)
theorem dX4_end_30 : decode cX4_end 30 = .ok (.iload_n 1, 1) := fo_27 (fw_get da_cX4_end_0 16 rfl)
theorem dX4_end_31 : decode cX4_end 31 = .ok (.ireturn, 1) := fo_172 (fw_get da_cX4_end_0 17 rfl)
def dt_cX4_slots_0 : List (Nat × Nat × Nat × Nat) := [(0, 27, 0, 0), (1, 4, 0, 0), (2, 161, 2, 9), (5, 27, 0, 0), (6, 16, 1, 6), (8, 164, 2, 5), (11, 2, 0, 0), (12, 172, 0, 0), (13, 42, 0, 0), (14, 180, 2, 49), (17, 61, 0, 0), (18, 42, 0, 0), (19, 27, 0, 0), (20, 181, 2, 49), (23, 42, 0, 0), (24, 4, 0, 0), (25, 181, 2, 53), (28, 28, 0, 0), (29, 172, 0, 0)]
theorem da_cX4_slots_0 : fw dt_cX4_slots_0 0 cX4_slots.data.toList = true := by decide +kernel
theorem dX4_slots_0 : decode cX4_slots 0 = .ok (.iload_n 1, 1) := fo_27 (fw_get da_cX4_slots_0 0 rfl)
theorem dX4_slots_1 : decode cX4_slots 1 = .ok (.iconst 1, 1) := fo_4 (fw_get da_cX4_slots_0 1 rfl)
theorem dX4_slots_2 : decode cX4_slots 2 = .ok (.if_icmp .lt 9, 3) := fo_161 (fw_get da_cX4_slots_0 2 rfl) (by decide +kernel)
theorem dX4_slots_5 : decode cX4_slots 5 = .ok (.iload_n 1, 1) := fo_27 (fw_get da_cX4_slots_0 3 rfl)
theorem dX4_slots_6 : decode cX4_slots 6 = .ok (.bipush 6, 2) := fo_16 (fw_get da_cX4_slots_0 4 rfl) (by decide +kernel)
theorem dX4_slots_8 : decode cX4_slots 8 = .ok (.if_icmp .le 5, 3) := fo_164 (fw_get da_cX4_slots_0 5 rfl) (by decide +kernel)
theorem dX4_slots_11 : decode cX4_slots 11 = .ok (.iconst (-1), 1) := fo_2 (fw_get da_cX4_slots_0 6 rfl)
theorem dX4_slots_12 : decode cX4_slots 12 = .ok (.ireturn, 1) := fo_172 (fw_get da_cX4_slots_0 7 rfl)
theorem dX4_slots_13 : decode cX4_slots 13 = .ok (.aload_n 0, 1) := fo_42 (fw_get da_cX4_slots_0 8 rfl)
theorem dX4_slots_14 : decode cX4_slots 14 = .ok (.getfield 49, 3) := fo_180 (fw_get da_cX4_slots_0 9 rfl)
theorem dX4_slots_17 : decode cX4_slots 17 = .ok (.istore_n 2, 1) := fo_61 (fw_get da_cX4_slots_0 10 rfl)
theorem dX4_slots_18 : decode cX4_slots 18 = .ok (.aload_n 0, 1) := fo_42 (fw_get da_cX4_slots_0 11 rfl)
theorem dX4_slots_19 : decode cX4_slots 19 = .ok (.iload_n 1, 1) := fo_27 (fw_get da_cX4_slots_0 12 rfl)
theorem dX4_slots_20 : decode cX4_slots 20 = .ok (.putfield 49, 3) := fo_181 (fw_get da_cX4_slots_0 13 rfl)
theorem dX4_slots_23 : decode cX4_slots 23 = .ok (.aload_n 0, 1) := fo_42 (fw_get da_cX4_slots_0 14 rfl)
theorem dX4_slots_24 : decode cX4_slots 24 = .ok (.iconst 1, 1) := fo_4 (fw_get da_cX4_slots_0 15 rfl)
theorem dX4_slots_25 : decode cX4_slots 25 = .ok (.putfield 53, 3) := fo_181 (fw_get da_cX4_slots_0 16 rfl)
theorem dX4_slots_28 : decode cX4_slots 28 = .ok (.iload_n 2, 1) := fo_28 (fw_get da_cX4_slots_0 17 rfl)
theorem dX4_slots_29 : decode cX4_slots 29 = .ok (.ireturn, 1) := fo_172 (fw_get da_cX4_slots_0 18 rfl)
set_option maxRecDepth 20000 in
theorem ggX4_insert_X4_isValue : GoodIn wsX4_insert wsX4_isValue := goodIn_r _ [7] rfl (by decide +kernel)
set_option maxRecDepth 20000 in
theorem gX4_insert_X4_isValue : GoodIn wsX4_insert (va_wsS RX4 68 yX4_isValue wsX4_isValue) := goodIn_app (goodIn_r _ [4, 5, 6] rfl (by decide +kernel)) ggX4_insert_X4_isValue
set_option maxRecDepth 20000 in
theorem ggX4_insert_X0_putIn : GoodIn wsX4_insert wsX0_putIn := goodIn_r _ [12, 13, 14, 24, 25] rfl (by decide +kernel)
set_option maxRecDepth 20000 in
theorem gX4_insert_X0_putIn : GoodIn wsX4_insert (wsV RX4 99 RX0 yX0_putIn wsX0_putIn) := goodIn_app (goodIn_r _ [8, 9, 10, 11] rfl (by decide +kernel)) ggX4_insert_X0_putIn
def dt_cX4_insert_0 : List (Nat × Nat × Nat × Nat) := [(0, 27, 0, 0), (1, 155, 2, 34), (4, 27, 0, 0), (5, 42, 0, 0), (6, 180, 2, 12), (9, 180, 2, 57), (12, 163, 2, 23), (15, 28, 0, 0), (16, 184, 2, 68), (19, 153, 2, 16), (22, 42, 0, 0), (23, 180, 2, 12), (26, 180, 2, 57), (29, 17, 2, 160), (32, 161, 2, 5), (35, 2, 0, 0), (36, 172, 0, 0), (37, 42, 0, 0), (38, 180, 2, 12), (41, 27, 0, 0)]
theorem da_cX4_insert_0 : fw dt_cX4_insert_0 0 cX4_insert.data.toList = true := by decide +kernel
theorem dX4_insert_0 : decode cX4_insert 0 = .ok (.iload_n 1, 1) := fo_27 (fw_get da_cX4_insert_0 0 rfl)
theorem dX4_insert_1 : decode cX4_insert 1 = .ok (.ifCond .lt 34, 3) := fo_155 (fw_get da_cX4_insert_0 1 rfl) (by decide +kernel)
theorem dX4_insert_4 : decode cX4_insert 4 = .ok (.iload_n 1, 1) := fo_27 (fw_get da_cX4_insert_0 2 rfl)
theorem dX4_insert_5 : decode cX4_insert 5 = .ok (.aload_n 0, 1) := fo_42 (fw_get da_cX4_insert_0 3 rfl)
theorem dX4_insert_6 : decode cX4_insert 6 = .ok (.getfield 12, 3) := fo_180 (fw_get da_cX4_insert_0 4 rfl)
theorem dX4_insert_9 : decode cX4_insert 9 = .ok (.getfield 57, 3) := fo_180 (fw_get da_cX4_insert_0 5 rfl)
theorem dX4_insert_12 : decode cX4_insert 12 = .ok (.if_icmp .gt 23, 3) := fo_163 (fw_get da_cX4_insert_0 6 rfl) (by decide +kernel)
theorem dX4_insert_15 : decode cX4_insert 15 = .ok (.iload_n 2, 1) := fo_28 (fw_get da_cX4_insert_0 7 rfl)
theorem dX4_insert_16 : decode cX4_insert 16 = .ok (.invokestatic 68, 3) := fo_184 (fw_get da_cX4_insert_0 8 rfl)
theorem dX4_insert_19 : decode cX4_insert 19 = .ok (.ifCond .eq 16, 3) := fo_153 (fw_get da_cX4_insert_0 9 rfl) (by decide +kernel)
theorem dX4_insert_22 : decode cX4_insert 22 = .ok (.aload_n 0, 1) := fo_42 (fw_get da_cX4_insert_0 10 rfl)
theorem dX4_insert_23 : decode cX4_insert 23 = .ok (.getfield 12, 3) := fo_180 (fw_get da_cX4_insert_0 11 rfl)
theorem dX4_insert_26 : decode cX4_insert 26 = .ok (.getfield 57, 3) := fo_180 (fw_get da_cX4_insert_0 12 rfl)
theorem dX4_insert_29 : decode cX4_insert 29 = .ok (.sipush 160, 3) := fo_17 (fw_get da_cX4_insert_0 13 rfl) (by decide +kernel)
theorem dX4_insert_32 : decode cX4_insert 32 = .ok (.if_icmp .lt 5, 3) := fo_161 (fw_get da_cX4_insert_0 14 rfl) (by decide +kernel)
theorem dX4_insert_35 : decode cX4_insert 35 = .ok (.iconst (-1), 1) := fo_2 (fw_get da_cX4_insert_0 15 rfl)
theorem dX4_insert_36 : decode cX4_insert 36 = .ok (.ireturn, 1) := fo_172 (fw_get da_cX4_insert_0 16 rfl)
theorem dX4_insert_37 : decode cX4_insert 37 = .ok (.aload_n 0, 1) := fo_42 (fw_get da_cX4_insert_0 17 rfl)
theorem dX4_insert_38 : decode cX4_insert 38 = .ok (.getfield 12, 3) := fo_180 (fw_get da_cX4_insert_0 18 rfl)
theorem dX4_insert_41 : decode cX4_insert 41 = .ok (.iload_n 1, 1) := fo_27 (fw_get da_cX4_insert_0 19 rfl)
def dt_cX4_insert_1 : List (Nat × Nat × Nat × Nat) := [(42, 28, 0, 0), (43, 182, 2, 99), (46, 42, 0, 0), (47, 4, 0, 0), (48, 181, 2, 53), (51, 42, 0, 0), (52, 180, 2, 12), (55, 180, 2, 57), (58, 172, 0, 0)]
theorem da_cX4_insert_1 : fw dt_cX4_insert_1 0 cX4_insert.data.toList = true := by decide +kernel
theorem dX4_insert_42 : decode cX4_insert 42 = .ok (.iload_n 2, 1) := fo_28 (fw_get da_cX4_insert_1 0 rfl)
theorem dX4_insert_43 : decode cX4_insert 43 = .ok (.invokevirtual 99, 3) := fo_182 (fw_get da_cX4_insert_1 1 rfl)
theorem dX4_insert_46 : decode cX4_insert 46 = .ok (.aload_n 0, 1) := fo_42 (fw_get da_cX4_insert_1 2 rfl)
theorem dX4_insert_47 : decode cX4_insert 47 = .ok (.iconst 1, 1) := fo_4 (fw_get da_cX4_insert_1 3 rfl)
theorem dX4_insert_48 : decode cX4_insert 48 = .ok (.putfield 53, 3) := fo_181 (fw_get da_cX4_insert_1 4 rfl)
theorem dX4_insert_51 : decode cX4_insert 51 = .ok (.aload_n 0, 1) := fo_42 (fw_get da_cX4_insert_1 5 rfl)
theorem dX4_insert_52 : decode cX4_insert 52 = .ok (.getfield 12, 3) := fo_180 (fw_get da_cX4_insert_1 6 rfl)
theorem dX4_insert_55 : decode cX4_insert 55 = .ok (.getfield 57, 3) := fo_180 (fw_get da_cX4_insert_1 7 rfl)
theorem dX4_insert_58 : decode cX4_insert 58 = .ok (.ireturn, 1) := fo_172 (fw_get da_cX4_insert_1 8 rfl)
set_option maxRecDepth 20000 in
theorem ggX4_remove_X0_hasPlace : GoodIn wsX4_remove wsX0_hasPlace := goodIn_r _ [8, 9, 26, 27] rfl (by decide +kernel)
set_option maxRecDepth 20000 in
theorem gX4_remove_X0_hasPlace : GoodIn wsX4_remove (wsV RX4 64 RX0 yX0_hasPlace wsX0_hasPlace) := goodIn_app (goodIn_r _ [4, 5, 6, 7] rfl (by decide +kernel)) ggX4_remove_X0_hasPlace
set_option maxRecDepth 20000 in
theorem ggX4_remove_X0_takeOut : GoodIn wsX4_remove wsX0_takeOut := goodIn_r _ [13, 14, 15, 9, 16, 5, 6, 7, 8, 26, 27] rfl (by decide +kernel)
set_option maxRecDepth 20000 in
theorem gX4_remove_X0_takeOut : GoodIn wsX4_remove (wsV RX4 103 RX0 yX0_takeOut wsX0_takeOut) := goodIn_app (goodIn_r _ [10, 11, 12, 7] rfl (by decide +kernel)) ggX4_remove_X0_takeOut
def dt_cX4_remove_0 : List (Nat × Nat × Nat × Nat) := [(0, 42, 0, 0), (1, 180, 2, 12), (4, 27, 0, 0), (5, 182, 2, 64), (8, 154, 2, 6), (11, 18, 1, 102), (13, 172, 0, 0), (14, 42, 0, 0), (15, 180, 2, 12), (18, 27, 0, 0), (19, 182, 2, 103), (22, 61, 0, 0), (23, 42, 0, 0), (24, 4, 0, 0), (25, 181, 2, 53), (28, 28, 0, 0), (29, 172, 0, 0)]
theorem da_cX4_remove_0 : fw dt_cX4_remove_0 0 cX4_remove.data.toList = true := by decide +kernel
theorem dX4_remove_0 : decode cX4_remove 0 = .ok (.aload_n 0, 1) := fo_42 (fw_get da_cX4_remove_0 0 rfl)
theorem dX4_remove_1 : decode cX4_remove 1 = .ok (.getfield 12, 3) := fo_180 (fw_get da_cX4_remove_0 1 rfl)
theorem dX4_remove_4 : decode cX4_remove 4 = .ok (.iload_n 1, 1) := fo_27 (fw_get da_cX4_remove_0 2 rfl)
theorem dX4_remove_5 : decode cX4_remove 5 = .ok (.invokevirtual 64, 3) := fo_182 (fw_get da_cX4_remove_0 3 rfl)
theorem dX4_remove_8 : decode cX4_remove 8 = .ok (.ifCond .ne 6, 3) := fo_154 (fw_get da_cX4_remove_0 4 rfl) (by decide +kernel)
theorem dX4_remove_11 : decode cX4_remove 11 = .ok (.ldc 102, 2) := fo_18 (fw_get da_cX4_remove_0 5 rfl)
theorem dX4_remove_13 : decode cX4_remove 13 = .ok (.ireturn, 1) := fo_172 (fw_get da_cX4_remove_0 6 rfl)
theorem dX4_remove_14 : decode cX4_remove 14 = .ok (.aload_n 0, 1) := fo_42 (fw_get da_cX4_remove_0 7 rfl)
theorem dX4_remove_15 : decode cX4_remove 15 = .ok (.getfield 12, 3) := fo_180 (fw_get da_cX4_remove_0 8 rfl)
theorem dX4_remove_18 : decode cX4_remove 18 = .ok (.iload_n 1, 1) := fo_27 (fw_get da_cX4_remove_0 9 rfl)
theorem dX4_remove_19 : decode cX4_remove 19 = .ok (.invokevirtual 103, 3) := fo_182 (fw_get da_cX4_remove_0 10 rfl)
theorem dX4_remove_22 : decode cX4_remove 22 = .ok (.istore_n 2, 1) := fo_61 (fw_get da_cX4_remove_0 11 rfl)
theorem dX4_remove_23 : decode cX4_remove 23 = .ok (.aload_n 0, 1) := fo_42 (fw_get da_cX4_remove_0 12 rfl)
theorem dX4_remove_24 : decode cX4_remove 24 = .ok (.iconst 1, 1) := fo_4 (fw_get da_cX4_remove_0 13 rfl)
theorem dX4_remove_25 : decode cX4_remove 25 = .ok (.putfield 53, 3) := fo_181 (fw_get da_cX4_remove_0 14 rfl)
theorem dX4_remove_28 : decode cX4_remove 28 = .ok (.iload_n 2, 1) := fo_28 (fw_get da_cX4_remove_0 15 rfl)
theorem dX4_remove_29 : decode cX4_remove 29 = .ok (.ireturn, 1) := fo_172 (fw_get da_cX4_remove_0 16 rfl)
def dt_cX4_isValue_0 : List (Nat × Nat × Nat × Nat) := [(0, 26, 0, 0), (1, 17, 2, 32768), (4, 161, 2, 14), (7, 26, 0, 0), (8, 17, 2, 32767), (11, 163, 2, 7), (14, 4, 0, 0), (15, 167, 2, 4), (18, 3, 0, 0), (19, 172, 0, 0)]
theorem da_cX4_isValue_0 : fw dt_cX4_isValue_0 0 cX4_isValue.data.toList = true := by decide +kernel
theorem dX4_isValue_0 : decode cX4_isValue 0 = .ok (.iload_n 0, 1) := fo_26 (fw_get da_cX4_isValue_0 0 rfl)
theorem dX4_isValue_1 : decode cX4_isValue 1 = .ok (.sipush (-32768), 3) := fo_17 (fw_get da_cX4_isValue_0 1 rfl) (by decide +kernel)
theorem dX4_isValue_4 : decode cX4_isValue 4 = .ok (.if_icmp .lt 14, 3) := fo_161 (fw_get da_cX4_isValue_0 2 rfl) (by decide +kernel)
theorem dX4_isValue_7 : decode cX4_isValue 7 = .ok (.iload_n 0, 1) := fo_26 (fw_get da_cX4_isValue_0 3 rfl)
theorem dX4_isValue_8 : decode cX4_isValue 8 = .ok (.sipush 32767, 3) := fo_17 (fw_get da_cX4_isValue_0 4 rfl) (by decide +kernel)
theorem dX4_isValue_11 : decode cX4_isValue 11 = .ok (.if_icmp .gt 7, 3) := fo_163 (fw_get da_cX4_isValue_0 5 rfl) (by decide +kernel)
theorem dX4_isValue_14 : decode cX4_isValue 14 = .ok (.iconst 1, 1) := fo_4 (fw_get da_cX4_isValue_0 6 rfl)
theorem dX4_isValue_15 : decode cX4_isValue 15 = .ok (.goto 4, 3) := fo_167 (fw_get da_cX4_isValue_0 7 rfl) (by decide +kernel)
theorem dX4_isValue_18 : decode cX4_isValue 18 = .ok (.iconst 0, 1) := fo_3 (fw_get da_cX4_isValue_0 8 rfl)
theorem dX4_isValue_19 : decode cX4_isValue 19 = .ok (.ireturn, 1) := fo_172 (fw_get da_cX4_isValue_0 9 rfl)
def dt_cX4_isShare_0 : List (Nat × Nat × Nat × Nat) := [(0, 26, 0, 0), (1, 4, 0, 0), (2, 161, 2, 19), (5, 27, 0, 0), (6, 26, 0, 0), (7, 161, 2, 14), (10, 27, 0, 0), (11, 17, 2, 999), (14, 163, 2, 7), (17, 4, 0, 0), (18, 167, 2, 4), (21, 3, 0, 0), (22, 172, 0, 0)]
theorem da_cX4_isShare_0 : fw dt_cX4_isShare_0 0 cX4_isShare.data.toList = true := by decide +kernel
theorem dX4_isShare_0 : decode cX4_isShare 0 = .ok (.iload_n 0, 1) := fo_26 (fw_get da_cX4_isShare_0 0 rfl)
theorem dX4_isShare_1 : decode cX4_isShare 1 = .ok (.iconst 1, 1) := fo_4 (fw_get da_cX4_isShare_0 1 rfl)
theorem dX4_isShare_2 : decode cX4_isShare 2 = .ok (.if_icmp .lt 19, 3) := fo_161 (fw_get da_cX4_isShare_0 2 rfl) (by decide +kernel)
theorem dX4_isShare_5 : decode cX4_isShare 5 = .ok (.iload_n 1, 1) := fo_27 (fw_get da_cX4_isShare_0 3 rfl)
theorem dX4_isShare_6 : decode cX4_isShare 6 = .ok (.iload_n 0, 1) := fo_26 (fw_get da_cX4_isShare_0 4 rfl)
theorem dX4_isShare_7 : decode cX4_isShare 7 = .ok (.if_icmp .lt 14, 3) := fo_161 (fw_get da_cX4_isShare_0 5 rfl) (by decide +kernel)
theorem dX4_isShare_10 : decode cX4_isShare 10 = .ok (.iload_n 1, 1) := fo_27 (fw_get da_cX4_isShare_0 6 rfl)
theorem dX4_isShare_11 : decode cX4_isShare 11 = .ok (.sipush 999, 3) := fo_17 (fw_get da_cX4_isShare_0 7 rfl) (by decide +kernel)
theorem dX4_isShare_14 : decode cX4_isShare 14 = .ok (.if_icmp .gt 7, 3) := fo_163 (fw_get da_cX4_isShare_0 8 rfl) (by decide +kernel)
theorem dX4_isShare_17 : decode cX4_isShare 17 = .ok (.iconst 1, 1) := fo_4 (fw_get da_cX4_isShare_0 9 rfl)
theorem dX4_isShare_18 : decode cX4_isShare 18 = .ok (.goto 4, 3) := fo_167 (fw_get da_cX4_isShare_0 10 rfl) (by decide +kernel)
theorem dX4_isShare_21 : decode cX4_isShare 21 = .ok (.iconst 0, 1) := fo_3 (fw_get da_cX4_isShare_0 11 rfl)
theorem dX4_isShare_22 : decode cX4_isShare 22 = .ok (.ireturn, 1) := fo_172 (fw_get da_cX4_isShare_0 12 rfl)
theorem mi_wsX4_laidTree_wsX4_laidTree_r1 : ∀ w ∈ wsX4_laidTree_r1, w ∈ wsX4_laidTree := fun _ h => (List.mem_cons_of_mem _ (List.mem_append_left _ (List.mem_append_left _ (List.mem_append_left _ (List.mem_append_left _ (List.mem_append_left _ h))))))
theorem mi_wsX4_laidTree_wsX20 : ∀ w ∈ wsX20, w ∈ wsX4_laidTree := fun _ h => (List.mem_cons_of_mem _ (List.mem_append_left _ (List.mem_append_left _ (List.mem_append_right _ h))))
theorem mi_wsX4_laidTree_wsX00 : ∀ w ∈ wsX00, w ∈ wsX4_laidTree := fun _ h => (List.mem_cons_of_mem _ (List.mem_append_left _ (List.mem_append_right _ h)))
set_option maxRecDepth 20000 in
theorem ggX4_laidTree_X2_layRanges : GoodIn wsX4_laidTree wsX2_layRanges := goodIn_m _ [(wsX4_laidTree_r1, [false, false, false, false, false, false, false, false, false, false, true, true, true, true, true, true, true, true, true]), (wsX4_laidTree_r1, [false, false, false, false, false, false, false, false, false, true, false, false, false, false, false, false, false, false, false, true, true, true, true, true]), (wsX20, [true, true, true, true, true, true, true, true, true, true, true]), (wsX00, [true, true])] (gm_c mi_wsX4_laidTree_wsX4_laidTree_r1 (gm_c mi_wsX4_laidTree_wsX4_laidTree_r1 (gm_c mi_wsX4_laidTree_wsX20 (gm_c mi_wsX4_laidTree_wsX00 gm_n)))) rfl (by decide +kernel)
set_option maxRecDepth 20000 in
theorem gX4_laidTree_X2_layRanges : GoodIn wsX4_laidTree (wsV RX4 259 RX2 yX2_layRanges wsX2_layRanges) := goodIn_app (goodIn_m _ [(wsX4_laidTree_r1, [false, false, false, false, false, false, true, true, true, true])] (gm_c mi_wsX4_laidTree_wsX4_laidTree_r1 gm_n) rfl (by decide +kernel)) ggX4_laidTree_X2_layRanges
theorem mi_wsX4_laidTree_wsX4_laidTree_r2 : ∀ w ∈ wsX4_laidTree_r2, w ∈ wsX4_laidTree := fun _ h => (List.mem_cons_of_mem _ (List.mem_append_left _ (List.mem_append_left _ (List.mem_append_left _ (List.mem_append_left _ (List.mem_append_right _ (List.mem_append_left _ h)))))))
theorem mi_wsX4_laidTree_wsX4_laidTree_r3 : ∀ w ∈ wsX4_laidTree_r3, w ∈ wsX4_laidTree := fun _ h => (List.mem_cons_of_mem _ (List.mem_append_left _ (List.mem_append_left _ (List.mem_append_left _ (List.mem_append_left _ (List.mem_append_right _ (List.mem_append_right _ (List.mem_append_left _ h))))))))
theorem mi_wsX4_laidTree_wsX4_laidTree_r4 : ∀ w ∈ wsX4_laidTree_r4, w ∈ wsX4_laidTree := fun _ h => (List.mem_cons_of_mem _ (List.mem_append_left _ (List.mem_append_left _ (List.mem_append_left _ (List.mem_append_left _ (List.mem_append_right _ (List.mem_append_right _ (List.mem_append_right _ h))))))))
theorem mi_wsX4_laidTree_wsX30 : ∀ w ∈ wsX30, w ∈ wsX4_laidTree := fun _ h => (List.mem_cons_of_mem _ (List.mem_append_right _ h))
set_option maxRecDepth 20000 in
theorem ggX4_laidTree_X2_renew : GoodIn wsX4_laidTree wsX2_renew := goodIn_m _ [(wsX4_laidTree_r2, [false, false, false, true]), (wsX4_laidTree_r1, [false, false, false, false, false, false, false, false, false, false, false, false, false, true, true, true]), (wsX4_laidTree_r2, [false, false, false, false, true, true, true]), (wsX4_laidTree_r1, [false, false, false, false, false, false, false, false, false, true]), (wsX4_laidTree_r2, [false, false, false, false, false, false, false, true, true]), (wsX4_laidTree_r1, [false, false, false, false, false, false, false, false, false, false, false, true]), (wsX4_laidTree_r2, [false, false, false, false, false, false, false, false, false, true, true, true, true, true, true, true, true, true, true, true, true, true, true, true]), (wsX4_laidTree_r3, [true, true, true, true, true, true, true, true, true, true]), (wsX4_laidTree_r1, [false, false, false, false, false, false, false, false, false, false, false, false, false, false, false, false, false, false, false, false, true, true, true, true]), (wsX4_laidTree_r3, [false, false, false, false, false, false, false, false, false, false, true, true, true, true, true, true, true, true, true, true, true, true, true, true]), (wsX4_laidTree_r4, [true, true, true, true, true, true, true, true, true, true, true, true, true, true, true, true, true, true, true]), (wsX20, [true, true, true, true, true, true, true, true, true, true, true]), (wsX00, [true, true]), (wsX30, [true, true, true, true, true])] (gm_c mi_wsX4_laidTree_wsX4_laidTree_r2 (gm_c mi_wsX4_laidTree_wsX4_laidTree_r1 (gm_c mi_wsX4_laidTree_wsX4_laidTree_r2 (gm_c mi_wsX4_laidTree_wsX4_laidTree_r1 (gm_c mi_wsX4_laidTree_wsX4_laidTree_r2 (gm_c mi_wsX4_laidTree_wsX4_laidTree_r1 (gm_c mi_wsX4_laidTree_wsX4_laidTree_r2 (gm_c mi_wsX4_laidTree_wsX4_laidTree_r3 (gm_c mi_wsX4_laidTree_wsX4_laidTree_r1 (gm_c mi_wsX4_laidTree_wsX4_laidTree_r3 (gm_c mi_wsX4_laidTree_wsX4_laidTree_r4 (gm_c mi_wsX4_laidTree_wsX20 (gm_c mi_wsX4_laidTree_wsX00 (gm_c mi_wsX4_laidTree_wsX30 gm_n)))))))))))))) rfl (by decide +kernel)
set_option maxRecDepth 20000 in
theorem gX4_laidTree_X2_renew : GoodIn wsX4_laidTree (wsV RX4 87 RX2 yX2_renew wsX2_renew) := goodIn_app (goodIn_m _ [(wsX4_laidTree_r2, [true, true, true]), (wsX4_laidTree_r1, [false, false, false, false, false, false, false, false, false, true])] (gm_c mi_wsX4_laidTree_wsX4_laidTree_r2 (gm_c mi_wsX4_laidTree_wsX4_laidTree_r1 gm_n)) rfl (by decide +kernel)) ggX4_laidTree_X2_renew
def dt_cX4_laidTree_0 : List (Nat × Nat × Nat × Nat) := [(0, 42, 0, 0), (1, 180, 2, 53), (4, 153, 2, 42), (7, 42, 0, 0), (8, 180, 2, 21), (11, 182, 2, 259), (14, 42, 0, 0), (15, 180, 2, 21), (18, 42, 0, 0), (19, 180, 2, 49), (22, 181, 2, 204), (25, 42, 0, 0), (26, 180, 2, 21), (29, 3, 0, 0), (30, 42, 0, 0), (31, 180, 2, 12), (34, 180, 2, 57), (37, 182, 2, 87), (40, 87, 0, 0), (41, 42, 0, 0)]
theorem da_cX4_laidTree_0 : fw dt_cX4_laidTree_0 0 cX4_laidTree.data.toList = true := by decide +kernel
theorem dX4_laidTree_0 : decode cX4_laidTree 0 = .ok (.aload_n 0, 1) := fo_42 (fw_get da_cX4_laidTree_0 0 rfl)
theorem dX4_laidTree_1 : decode cX4_laidTree 1 = .ok (.getfield 53, 3) := fo_180 (fw_get da_cX4_laidTree_0 1 rfl)
theorem dX4_laidTree_4 : decode cX4_laidTree 4 = .ok (.ifCond .eq 42, 3) := fo_153 (fw_get da_cX4_laidTree_0 2 rfl) (by decide +kernel)
theorem dX4_laidTree_7 : decode cX4_laidTree 7 = .ok (.aload_n 0, 1) := fo_42 (fw_get da_cX4_laidTree_0 3 rfl)
theorem dX4_laidTree_8 : decode cX4_laidTree 8 = .ok (.getfield 21, 3) := fo_180 (fw_get da_cX4_laidTree_0 4 rfl)
theorem dX4_laidTree_11 : decode cX4_laidTree 11 = .ok (.invokevirtual 259, 3) := fo_182 (fw_get da_cX4_laidTree_0 5 rfl)
theorem dX4_laidTree_14 : decode cX4_laidTree 14 = .ok (.aload_n 0, 1) := fo_42 (fw_get da_cX4_laidTree_0 6 rfl)
theorem dX4_laidTree_15 : decode cX4_laidTree 15 = .ok (.getfield 21, 3) := fo_180 (fw_get da_cX4_laidTree_0 7 rfl)
theorem dX4_laidTree_18 : decode cX4_laidTree 18 = .ok (.aload_n 0, 1) := fo_42 (fw_get da_cX4_laidTree_0 8 rfl)
theorem dX4_laidTree_19 : decode cX4_laidTree 19 = .ok (.getfield 49, 3) := fo_180 (fw_get da_cX4_laidTree_0 9 rfl)
theorem dX4_laidTree_22 : decode cX4_laidTree 22 = .ok (.putfield 204, 3) := fo_181 (fw_get da_cX4_laidTree_0 10 rfl)
theorem dX4_laidTree_25 : decode cX4_laidTree 25 = .ok (.aload_n 0, 1) := fo_42 (fw_get da_cX4_laidTree_0 11 rfl)
theorem dX4_laidTree_26 : decode cX4_laidTree 26 = .ok (.getfield 21, 3) := fo_180 (fw_get da_cX4_laidTree_0 12 rfl)
theorem dX4_laidTree_29 : decode cX4_laidTree 29 = .ok (.iconst 0, 1) := fo_3 (fw_get da_cX4_laidTree_0 13 rfl)
theorem dX4_laidTree_30 : decode cX4_laidTree 30 = .ok (.aload_n 0, 1) := fo_42 (fw_get da_cX4_laidTree_0 14 rfl)
theorem dX4_laidTree_31 : decode cX4_laidTree 31 = .ok (.getfield 12, 3) := fo_180 (fw_get da_cX4_laidTree_0 15 rfl)
theorem dX4_laidTree_34 : decode cX4_laidTree 34 = .ok (.getfield 57, 3) := fo_180 (fw_get da_cX4_laidTree_0 16 rfl)
theorem dX4_laidTree_37 : decode cX4_laidTree 37 = .ok (.invokevirtual 87, 3) := fo_182 (fw_get da_cX4_laidTree_0 17 rfl)
theorem dX4_laidTree_40 : decode cX4_laidTree 40 = .ok (.pop, 1) := fo_87 (fw_get da_cX4_laidTree_0 18 rfl)
theorem dX4_laidTree_41 : decode cX4_laidTree 41 = .ok (.aload_n 0, 1) := fo_42 (fw_get da_cX4_laidTree_0 19 rfl)
def dt_cX4_laidTree_1 : List (Nat × Nat × Nat × Nat) := [(42, 3, 0, 0), (43, 181, 2, 53), (46, 42, 0, 0), (47, 180, 2, 21), (50, 176, 0, 0)]
theorem da_cX4_laidTree_1 : fw dt_cX4_laidTree_1 0 cX4_laidTree.data.toList = true := by decide +kernel
theorem dX4_laidTree_42 : decode cX4_laidTree 42 = .ok (.iconst 0, 1) := fo_3 (fw_get da_cX4_laidTree_1 0 rfl)
theorem dX4_laidTree_43 : decode cX4_laidTree 43 = .ok (.putfield 53, 3) := fo_181 (fw_get da_cX4_laidTree_1 1 rfl)
theorem dX4_laidTree_46 : decode cX4_laidTree 46 = .ok (.aload_n 0, 1) := fo_42 (fw_get da_cX4_laidTree_1 2 rfl)
theorem dX4_laidTree_47 : decode cX4_laidTree 47 = .ok (.getfield 21, 3) := fo_180 (fw_get da_cX4_laidTree_1 3 rfl)
theorem dX4_laidTree_50 : decode cX4_laidTree 50 = .ok (.areturn, 1) := fo_176 (fw_get da_cX4_laidTree_1 4 rfl)

