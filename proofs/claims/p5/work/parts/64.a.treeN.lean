abbrev wsX20 : List Cond := u_ws RX2 TX2 11
theorem nmX2 : ∀ a, a < 11 → ∀ b, b < 11 → a ≠ b → (TX2 a).2.1 ≠ (TX2 b).2.1 := by decide +kernel
theorem tyX2_ok : ∀ k, k < 11 → parseFieldDescriptor (TX2 k).2.2.1 = some (tyX2 k) := by decide +kernel
abbrev cX2_layRanges : ByteArray := prog_4_method_2_code
def yX2_layRanges : MethodName := ⟨RX2, "layRanges", "()V"⟩
abbrev cX2_layBelow : ByteArray := prog_4_method_3_code
def yX2_layBelow : MethodName := ⟨RX2, "layBelow", "(I)V"⟩
abbrev cX2_rightBelow : ByteArray := prog_4_method_4_code
def yX2_rightBelow : MethodName := ⟨RX2, "rightBelow", "(I)I"⟩
def wsX2_rightBelow : List Cond := .code yX2_rightBelow cX2_rightBelow 3 (some .int) :: ([.fieldLink RX2 18 "MajorityIndex$Tree" "from" "[I", .fieldLink RX2 22 "MajorityIndex$Tree" "to" "[I"] ++ wsX20)
def wsX2_layBelow : List Cond := .code yX2_layBelow cX2_layBelow 4 none :: ([.fieldLink RX2 18 "MajorityIndex$Tree" "from" "[I", .fieldLink RX2 22 "MajorityIndex$Tree" "to" "[I", .methodLink RX2 57 yX2_rightBelow, .instanceMethod yX2_rightBelow, .selects RX2 yX2_rightBelow yX2_rightBelow, .initialized RX2, .code yX2_rightBelow cX2_rightBelow 3 (some .int)] ++ wsX20)
def wsX2_layRanges : List Cond := .code yX2_layRanges cX2_layRanges 2 none :: ([.fieldLink RX2 40 "MajorityIndex$Tree" "row" "LMajorityIndex$Row;", .fieldLink RX2 44 "MajorityIndex$Row" "length" "I", .fieldLink RX2 50 "MajorityIndex$Tree" "nodes" "I", .fieldLink RX2 18 "MajorityIndex$Tree" "from" "[I", .fieldLink RX2 22 "MajorityIndex$Tree" "to" "[I", .methodLink RX2 53 yX2_layBelow, .instanceMethod yX2_layBelow, .selects RX2 yX2_layBelow yX2_layBelow, .initialized RX2, .code yX2_layBelow cX2_layBelow 4 none, .methodLink RX2 57 yX2_rightBelow, .instanceMethod yX2_rightBelow, .selects RX2 yX2_rightBelow yX2_rightBelow, .code yX2_rightBelow cX2_rightBelow 3 (some .int)] ++ wsX20 ++ wsX00)
set_option maxRecDepth 20000 in
theorem ggX2_layRanges_X2_layBelow : GoodIn wsX2_layRanges wsX2_layBelow := goodIn_r _ [10, 4, 5, 11, 12, 13, 9, 14, 15, 16, 17, 18, 19, 20, 21, 22, 23, 24, 25] rfl (by decide +kernel)
set_option maxRecDepth 20000 in
theorem gX2_layRanges_X2_layBelow : GoodIn wsX2_layRanges (wsV RX2 53 RX2 yX2_layBelow wsX2_layBelow) := goodIn_app (goodIn_r _ [6, 7, 8, 9] rfl (by decide +kernel)) ggX2_layRanges_X2_layBelow
def dt_cX2_layRanges_0 : List (Nat × Instr × Nat) := [(0, .aload_n 0, 1), (1, .aload_n 0, 1), (2, .getfield 40, 3), (5, .getfield 44, 3), (8, .ifCond .ne 7, 3), (11, .iconst 0, 1), (12, .goto 14, 3), (15, .iconst 2, 1), (16, .aload_n 0, 1), (17, .getfield 40, 3), (20, .getfield 44, 3), (23, .imul, 1), (24, .iconst 1, 1), (25, .isub, 1), (26, .putfield 50, 3), (29, .aload_n 0, 1), (30, .getfield 18, 3), (33, .iconst 0, 1), (34, .iconst 0, 1), (35, .iastore, 1), (36, .aload_n 0, 1), (37, .getfield 22, 3), (40, .iconst 0, 1), (41, .aload_n 0, 1), (42, .getfield 40, 3), (45, .getfield 44, 3), (48, .iastore, 1), (49, .iconst 0, 1), (50, .istore_n 1, 1), (51, .iload_n 1, 1), (52, .aload_n 0, 1), (53, .getfield 50, 3), (56, .if_icmp .ge 31, 3), (59, .aload_n 0, 1), (60, .getfield 22, 3), (63, .iload_n 1, 1), (64, .iaload, 1), (65, .aload_n 0, 1), (66, .getfield 18, 3), (69, .iload_n 1, 1), (70, .iaload, 1), (71, .isub, 1), (72, .iconst 1, 1), (73, .if_icmp .le 8, 3), (76, .aload_n 0, 1), (77, .iload_n 1, 1), (78, .invokevirtual 53, 3), (81, .iinc 1 1, 3), (84, .goto (-33), 3), (87, .return_, 1)]
theorem da_cX2_layRanges_0 : dk_all cX2_layRanges dt_cX2_layRanges_0 = true := by decide +kernel
theorem dX2_layRanges_0 : decode cX2_layRanges 0 = .ok (.aload_n 0, 1) := dk_get _ da_cX2_layRanges_0 0 _ _ _ rfl
theorem dX2_layRanges_1 : decode cX2_layRanges 1 = .ok (.aload_n 0, 1) := dk_get _ da_cX2_layRanges_0 1 _ _ _ rfl
theorem dX2_layRanges_2 : decode cX2_layRanges 2 = .ok (.getfield 40, 3) := dk_get _ da_cX2_layRanges_0 2 _ _ _ rfl
theorem dX2_layRanges_5 : decode cX2_layRanges 5 = .ok (.getfield 44, 3) := dk_get _ da_cX2_layRanges_0 3 _ _ _ rfl
theorem dX2_layRanges_8 : decode cX2_layRanges 8 = .ok (.ifCond .ne 7, 3) := dk_get _ da_cX2_layRanges_0 4 _ _ _ rfl
theorem dX2_layRanges_11 : decode cX2_layRanges 11 = .ok (.iconst 0, 1) := dk_get _ da_cX2_layRanges_0 5 _ _ _ rfl
theorem dX2_layRanges_12 : decode cX2_layRanges 12 = .ok (.goto 14, 3) := dk_get _ da_cX2_layRanges_0 6 _ _ _ rfl
theorem dX2_layRanges_15 : decode cX2_layRanges 15 = .ok (.iconst 2, 1) := dk_get _ da_cX2_layRanges_0 7 _ _ _ rfl
theorem dX2_layRanges_16 : decode cX2_layRanges 16 = .ok (.aload_n 0, 1) := dk_get _ da_cX2_layRanges_0 8 _ _ _ rfl
theorem dX2_layRanges_17 : decode cX2_layRanges 17 = .ok (.getfield 40, 3) := dk_get _ da_cX2_layRanges_0 9 _ _ _ rfl
theorem dX2_layRanges_20 : decode cX2_layRanges 20 = .ok (.getfield 44, 3) := dk_get _ da_cX2_layRanges_0 10 _ _ _ rfl
theorem dX2_layRanges_23 : decode cX2_layRanges 23 = .ok (.imul, 1) := dk_get _ da_cX2_layRanges_0 11 _ _ _ rfl
theorem dX2_layRanges_24 : decode cX2_layRanges 24 = .ok (.iconst 1, 1) := dk_get _ da_cX2_layRanges_0 12 _ _ _ rfl
theorem dX2_layRanges_25 : decode cX2_layRanges 25 = .ok (.isub, 1) := dk_get _ da_cX2_layRanges_0 13 _ _ _ rfl
theorem dX2_layRanges_26 : decode cX2_layRanges 26 = .ok (.putfield 50, 3) := dk_get _ da_cX2_layRanges_0 14 _ _ _ rfl
theorem dX2_layRanges_29 : decode cX2_layRanges 29 = .ok (.aload_n 0, 1) := dk_get _ da_cX2_layRanges_0 15 _ _ _ rfl
theorem dX2_layRanges_30 : decode cX2_layRanges 30 = .ok (.getfield 18, 3) := dk_get _ da_cX2_layRanges_0 16 _ _ _ rfl
theorem dX2_layRanges_33 : decode cX2_layRanges 33 = .ok (.iconst 0, 1) := dk_get _ da_cX2_layRanges_0 17 _ _ _ rfl
theorem dX2_layRanges_34 : decode cX2_layRanges 34 = .ok (.iconst 0, 1) := dk_get _ da_cX2_layRanges_0 18 _ _ _ rfl
theorem dX2_layRanges_35 : decode cX2_layRanges 35 = .ok (.iastore, 1) := dk_get _ da_cX2_layRanges_0 19 _ _ _ rfl
theorem dX2_layRanges_36 : decode cX2_layRanges 36 = .ok (.aload_n 0, 1) := dk_get _ da_cX2_layRanges_0 20 _ _ _ rfl
theorem dX2_layRanges_37 : decode cX2_layRanges 37 = .ok (.getfield 22, 3) := dk_get _ da_cX2_layRanges_0 21 _ _ _ rfl
theorem dX2_layRanges_40 : decode cX2_layRanges 40 = .ok (.iconst 0, 1) := dk_get _ da_cX2_layRanges_0 22 _ _ _ rfl
theorem dX2_layRanges_41 : decode cX2_layRanges 41 = .ok (.aload_n 0, 1) := dk_get _ da_cX2_layRanges_0 23 _ _ _ rfl
theorem dX2_layRanges_42 : decode cX2_layRanges 42 = .ok (.getfield 40, 3) := dk_get _ da_cX2_layRanges_0 24 _ _ _ rfl
theorem dX2_layRanges_45 : decode cX2_layRanges 45 = .ok (.getfield 44, 3) := dk_get _ da_cX2_layRanges_0 25 _ _ _ rfl
theorem dX2_layRanges_48 : decode cX2_layRanges 48 = .ok (.iastore, 1) := dk_get _ da_cX2_layRanges_0 26 _ _ _ rfl
theorem dX2_layRanges_49 : decode cX2_layRanges 49 = .ok (.iconst 0, 1) := dk_get _ da_cX2_layRanges_0 27 _ _ _ rfl
theorem dX2_layRanges_50 : decode cX2_layRanges 50 = .ok (.istore_n 1, 1) := dk_get _ da_cX2_layRanges_0 28 _ _ _ rfl
theorem dX2_layRanges_51 : decode cX2_layRanges 51 = .ok (.iload_n 1, 1) := dk_get _ da_cX2_layRanges_0 29 _ _ _ rfl
theorem dX2_layRanges_52 : decode cX2_layRanges 52 = .ok (.aload_n 0, 1) := dk_get _ da_cX2_layRanges_0 30 _ _ _ rfl
theorem dX2_layRanges_53 : decode cX2_layRanges 53 = .ok (.getfield 50, 3) := dk_get _ da_cX2_layRanges_0 31 _ _ _ rfl
theorem dX2_layRanges_56 : decode cX2_layRanges 56 = .ok (.if_icmp .ge 31, 3) := dk_get _ da_cX2_layRanges_0 32 _ _ _ rfl
theorem dX2_layRanges_59 : decode cX2_layRanges 59 = .ok (.aload_n 0, 1) := dk_get _ da_cX2_layRanges_0 33 _ _ _ rfl
theorem dX2_layRanges_60 : decode cX2_layRanges 60 = .ok (.getfield 22, 3) := dk_get _ da_cX2_layRanges_0 34 _ _ _ rfl
theorem dX2_layRanges_63 : decode cX2_layRanges 63 = .ok (.iload_n 1, 1) := dk_get _ da_cX2_layRanges_0 35 _ _ _ rfl
theorem dX2_layRanges_64 : decode cX2_layRanges 64 = .ok (.iaload, 1) := dk_get _ da_cX2_layRanges_0 36 _ _ _ rfl
theorem dX2_layRanges_65 : decode cX2_layRanges 65 = .ok (.aload_n 0, 1) := dk_get _ da_cX2_layRanges_0 37 _ _ _ rfl
theorem dX2_layRanges_66 : decode cX2_layRanges 66 = .ok (.getfield 18, 3) := dk_get _ da_cX2_layRanges_0 38 _ _ _ rfl
theorem dX2_layRanges_69 : decode cX2_layRanges 69 = .ok (.iload_n 1, 1) := dk_get _ da_cX2_layRanges_0 39 _ _ _ rfl
theorem dX2_layRanges_70 : decode cX2_layRanges 70 = .ok (.iaload, 1) := dk_get _ da_cX2_layRanges_0 40 _ _ _ rfl
theorem dX2_layRanges_71 : decode cX2_layRanges 71 = .ok (.isub, 1) := dk_get _ da_cX2_layRanges_0 41 _ _ _ rfl
theorem dX2_layRanges_72 : decode cX2_layRanges 72 = .ok (.iconst 1, 1) := dk_get _ da_cX2_layRanges_0 42 _ _ _ rfl
theorem dX2_layRanges_73 : decode cX2_layRanges 73 = .ok (.if_icmp .le 8, 3) := dk_get _ da_cX2_layRanges_0 43 _ _ _ rfl
theorem dX2_layRanges_76 : decode cX2_layRanges 76 = .ok (.aload_n 0, 1) := dk_get _ da_cX2_layRanges_0 44 _ _ _ rfl
theorem dX2_layRanges_77 : decode cX2_layRanges 77 = .ok (.iload_n 1, 1) := dk_get _ da_cX2_layRanges_0 45 _ _ _ rfl
theorem dX2_layRanges_78 : decode cX2_layRanges 78 = .ok (.invokevirtual 53, 3) := dk_get _ da_cX2_layRanges_0 46 _ _ _ rfl
theorem dX2_layRanges_81 : decode cX2_layRanges 81 = .ok (.iinc 1 1, 3) := dk_get _ da_cX2_layRanges_0 47 _ _ _ rfl
theorem dX2_layRanges_84 : decode cX2_layRanges 84 = .ok (.goto (-33), 3) := dk_get _ da_cX2_layRanges_0 48 _ _ _ rfl
theorem dX2_layRanges_87 : decode cX2_layRanges 87 = .ok (.return_, 1) := dk_get _ da_cX2_layRanges_0 49 _ _ _ rfl
set_option maxRecDepth 20000 in
theorem ggX2_layBelow_X2_rightBelow : GoodIn wsX2_layBelow wsX2_rightBelow := goodIn_r _ [7, 1, 2, 8, 9, 10, 11, 12, 13, 14, 15, 16, 17, 18] rfl (by decide +kernel)
set_option maxRecDepth 20000 in
theorem gX2_layBelow_X2_rightBelow : GoodIn wsX2_layBelow (wsV RX2 57 RX2 yX2_rightBelow wsX2_rightBelow) := goodIn_app (goodIn_r _ [3, 4, 5, 6] rfl (by decide +kernel)) ggX2_layBelow_X2_rightBelow
def dt_cX2_layBelow_0 : List (Nat × Instr × Nat) := [(0, .aload_n 0, 1), (1, .getfield 18, 3), (4, .iload_n 1, 1), (5, .iaload, 1), (6, .aload_n 0, 1), (7, .getfield 22, 3), (10, .iload_n 1, 1), (11, .iaload, 1), (12, .iadd, 1), (13, .iconst 2, 1), (14, .idiv, 1), (15, .istore_n 2, 1), (16, .aload_n 0, 1), (17, .iload_n 1, 1), (18, .invokevirtual 57, 3), (21, .istore_n 3, 1), (22, .aload_n 0, 1), (23, .getfield 18, 3), (26, .iload_n 1, 1), (27, .iconst 1, 1), (28, .iadd, 1), (29, .aload_n 0, 1), (30, .getfield 18, 3), (33, .iload_n 1, 1), (34, .iaload, 1), (35, .iastore, 1), (36, .aload_n 0, 1), (37, .getfield 22, 3), (40, .iload_n 1, 1), (41, .iconst 1, 1), (42, .iadd, 1), (43, .iload_n 2, 1), (44, .iastore, 1), (45, .aload_n 0, 1), (46, .getfield 18, 3), (49, .iload_n 3, 1), (50, .iload_n 2, 1), (51, .iastore, 1), (52, .aload_n 0, 1), (53, .getfield 22, 3), (56, .iload_n 3, 1), (57, .aload_n 0, 1), (58, .getfield 22, 3), (61, .iload_n 1, 1), (62, .iaload, 1), (63, .iastore, 1), (64, .return_, 1)]
theorem da_cX2_layBelow_0 : dk_all cX2_layBelow dt_cX2_layBelow_0 = true := by decide +kernel
theorem dX2_layBelow_0 : decode cX2_layBelow 0 = .ok (.aload_n 0, 1) := dk_get _ da_cX2_layBelow_0 0 _ _ _ rfl
theorem dX2_layBelow_1 : decode cX2_layBelow 1 = .ok (.getfield 18, 3) := dk_get _ da_cX2_layBelow_0 1 _ _ _ rfl
theorem dX2_layBelow_4 : decode cX2_layBelow 4 = .ok (.iload_n 1, 1) := dk_get _ da_cX2_layBelow_0 2 _ _ _ rfl
theorem dX2_layBelow_5 : decode cX2_layBelow 5 = .ok (.iaload, 1) := dk_get _ da_cX2_layBelow_0 3 _ _ _ rfl
theorem dX2_layBelow_6 : decode cX2_layBelow 6 = .ok (.aload_n 0, 1) := dk_get _ da_cX2_layBelow_0 4 _ _ _ rfl
theorem dX2_layBelow_7 : decode cX2_layBelow 7 = .ok (.getfield 22, 3) := dk_get _ da_cX2_layBelow_0 5 _ _ _ rfl
theorem dX2_layBelow_10 : decode cX2_layBelow 10 = .ok (.iload_n 1, 1) := dk_get _ da_cX2_layBelow_0 6 _ _ _ rfl
theorem dX2_layBelow_11 : decode cX2_layBelow 11 = .ok (.iaload, 1) := dk_get _ da_cX2_layBelow_0 7 _ _ _ rfl
theorem dX2_layBelow_12 : decode cX2_layBelow 12 = .ok (.iadd, 1) := dk_get _ da_cX2_layBelow_0 8 _ _ _ rfl
theorem dX2_layBelow_13 : decode cX2_layBelow 13 = .ok (.iconst 2, 1) := dk_get _ da_cX2_layBelow_0 9 _ _ _ rfl
theorem dX2_layBelow_14 : decode cX2_layBelow 14 = .ok (.idiv, 1) := dk_get _ da_cX2_layBelow_0 10 _ _ _ rfl
theorem dX2_layBelow_15 : decode cX2_layBelow 15 = .ok (.istore_n 2, 1) := dk_get _ da_cX2_layBelow_0 11 _ _ _ rfl
theorem dX2_layBelow_16 : decode cX2_layBelow 16 = .ok (.aload_n 0, 1) := dk_get _ da_cX2_layBelow_0 12 _ _ _ rfl
theorem dX2_layBelow_17 : decode cX2_layBelow 17 = .ok (.iload_n 1, 1) := dk_get _ da_cX2_layBelow_0 13 _ _ _ rfl
theorem dX2_layBelow_18 : decode cX2_layBelow 18 = .ok (.invokevirtual 57, 3) := dk_get _ da_cX2_layBelow_0 14 _ _ _ rfl
theorem dX2_layBelow_21 : decode cX2_layBelow 21 = .ok (.istore_n 3, 1) := dk_get _ da_cX2_layBelow_0 15 _ _ _ rfl
theorem dX2_layBelow_22 : decode cX2_layBelow 22 = .ok (.aload_n 0, 1) := dk_get _ da_cX2_layBelow_0 16 _ _ _ rfl
theorem dX2_layBelow_23 : decode cX2_layBelow 23 = .ok (.getfield 18, 3) := dk_get _ da_cX2_layBelow_0 17 _ _ _ rfl
theorem dX2_layBelow_26 : decode cX2_layBelow 26 = .ok (.iload_n 1, 1) := dk_get _ da_cX2_layBelow_0 18 _ _ _ rfl
theorem dX2_layBelow_27 : decode cX2_layBelow 27 = .ok (.iconst 1, 1) := dk_get _ da_cX2_layBelow_0 19 _ _ _ rfl
theorem dX2_layBelow_28 : decode cX2_layBelow 28 = .ok (.iadd, 1) := dk_get _ da_cX2_layBelow_0 20 _ _ _ rfl
theorem dX2_layBelow_29 : decode cX2_layBelow 29 = .ok (.aload_n 0, 1) := dk_get _ da_cX2_layBelow_0 21 _ _ _ rfl
theorem dX2_layBelow_30 : decode cX2_layBelow 30 = .ok (.getfield 18, 3) := dk_get _ da_cX2_layBelow_0 22 _ _ _ rfl
theorem dX2_layBelow_33 : decode cX2_layBelow 33 = .ok (.iload_n 1, 1) := dk_get _ da_cX2_layBelow_0 23 _ _ _ rfl
theorem dX2_layBelow_34 : decode cX2_layBelow 34 = .ok (.iaload, 1) := dk_get _ da_cX2_layBelow_0 24 _ _ _ rfl
theorem dX2_layBelow_35 : decode cX2_layBelow 35 = .ok (.iastore, 1) := dk_get _ da_cX2_layBelow_0 25 _ _ _ rfl
theorem dX2_layBelow_36 : decode cX2_layBelow 36 = .ok (.aload_n 0, 1) := dk_get _ da_cX2_layBelow_0 26 _ _ _ rfl
theorem dX2_layBelow_37 : decode cX2_layBelow 37 = .ok (.getfield 22, 3) := dk_get _ da_cX2_layBelow_0 27 _ _ _ rfl
theorem dX2_layBelow_40 : decode cX2_layBelow 40 = .ok (.iload_n 1, 1) := dk_get _ da_cX2_layBelow_0 28 _ _ _ rfl
theorem dX2_layBelow_41 : decode cX2_layBelow 41 = .ok (.iconst 1, 1) := dk_get _ da_cX2_layBelow_0 29 _ _ _ rfl
theorem dX2_layBelow_42 : decode cX2_layBelow 42 = .ok (.iadd, 1) := dk_get _ da_cX2_layBelow_0 30 _ _ _ rfl
theorem dX2_layBelow_43 : decode cX2_layBelow 43 = .ok (.iload_n 2, 1) := dk_get _ da_cX2_layBelow_0 31 _ _ _ rfl
theorem dX2_layBelow_44 : decode cX2_layBelow 44 = .ok (.iastore, 1) := dk_get _ da_cX2_layBelow_0 32 _ _ _ rfl
theorem dX2_layBelow_45 : decode cX2_layBelow 45 = .ok (.aload_n 0, 1) := dk_get _ da_cX2_layBelow_0 33 _ _ _ rfl
theorem dX2_layBelow_46 : decode cX2_layBelow 46 = .ok (.getfield 18, 3) := dk_get _ da_cX2_layBelow_0 34 _ _ _ rfl
theorem dX2_layBelow_49 : decode cX2_layBelow 49 = .ok (.iload_n 3, 1) := dk_get _ da_cX2_layBelow_0 35 _ _ _ rfl
theorem dX2_layBelow_50 : decode cX2_layBelow 50 = .ok (.iload_n 2, 1) := dk_get _ da_cX2_layBelow_0 36 _ _ _ rfl
theorem dX2_layBelow_51 : decode cX2_layBelow 51 = .ok (.iastore, 1) := dk_get _ da_cX2_layBelow_0 37 _ _ _ rfl
theorem dX2_layBelow_52 : decode cX2_layBelow 52 = .ok (.aload_n 0, 1) := dk_get _ da_cX2_layBelow_0 38 _ _ _ rfl
theorem dX2_layBelow_53 : decode cX2_layBelow 53 = .ok (.getfield 22, 3) := dk_get _ da_cX2_layBelow_0 39 _ _ _ rfl
theorem dX2_layBelow_56 : decode cX2_layBelow 56 = .ok (.iload_n 3, 1) := dk_get _ da_cX2_layBelow_0 40 _ _ _ rfl
theorem dX2_layBelow_57 : decode cX2_layBelow 57 = .ok (.aload_n 0, 1) := dk_get _ da_cX2_layBelow_0 41 _ _ _ rfl
theorem dX2_layBelow_58 : decode cX2_layBelow 58 = .ok (.getfield 22, 3) := dk_get _ da_cX2_layBelow_0 42 _ _ _ rfl
theorem dX2_layBelow_61 : decode cX2_layBelow 61 = .ok (.iload_n 1, 1) := dk_get _ da_cX2_layBelow_0 43 _ _ _ rfl
theorem dX2_layBelow_62 : decode cX2_layBelow 62 = .ok (.iaload, 1) := dk_get _ da_cX2_layBelow_0 44 _ _ _ rfl
theorem dX2_layBelow_63 : decode cX2_layBelow 63 = .ok (.iastore, 1) := dk_get _ da_cX2_layBelow_0 45 _ _ _ rfl
theorem dX2_layBelow_64 : decode cX2_layBelow 64 = .ok (.return_, 1) := dk_get _ da_cX2_layBelow_0 46 _ _ _ rfl
def dt_cX2_rightBelow_0 : List (Nat × Instr × Nat) := [(0, .aload_n 0, 1), (1, .getfield 18, 3), (4, .iload_n 1, 1), (5, .iaload, 1), (6, .aload_n 0, 1), (7, .getfield 22, 3), (10, .iload_n 1, 1), (11, .iaload, 1), (12, .iadd, 1), (13, .iconst 2, 1), (14, .idiv, 1), (15, .istore_n 2, 1), (16, .iload_n 1, 1), (17, .iconst 2, 1), (18, .iload_n 2, 1), (19, .aload_n 0, 1), (20, .getfield 18, 3), (23, .iload_n 1, 1), (24, .iaload, 1), (25, .isub, 1), (26, .imul, 1), (27, .iadd, 1), (28, .ireturn, 1)]
theorem da_cX2_rightBelow_0 : dk_all cX2_rightBelow dt_cX2_rightBelow_0 = true := by decide +kernel
theorem dX2_rightBelow_0 : decode cX2_rightBelow 0 = .ok (.aload_n 0, 1) := dk_get _ da_cX2_rightBelow_0 0 _ _ _ rfl
theorem dX2_rightBelow_1 : decode cX2_rightBelow 1 = .ok (.getfield 18, 3) := dk_get _ da_cX2_rightBelow_0 1 _ _ _ rfl
theorem dX2_rightBelow_4 : decode cX2_rightBelow 4 = .ok (.iload_n 1, 1) := dk_get _ da_cX2_rightBelow_0 2 _ _ _ rfl
theorem dX2_rightBelow_5 : decode cX2_rightBelow 5 = .ok (.iaload, 1) := dk_get _ da_cX2_rightBelow_0 3 _ _ _ rfl
theorem dX2_rightBelow_6 : decode cX2_rightBelow 6 = .ok (.aload_n 0, 1) := dk_get _ da_cX2_rightBelow_0 4 _ _ _ rfl
theorem dX2_rightBelow_7 : decode cX2_rightBelow 7 = .ok (.getfield 22, 3) := dk_get _ da_cX2_rightBelow_0 5 _ _ _ rfl
theorem dX2_rightBelow_10 : decode cX2_rightBelow 10 = .ok (.iload_n 1, 1) := dk_get _ da_cX2_rightBelow_0 6 _ _ _ rfl
theorem dX2_rightBelow_11 : decode cX2_rightBelow 11 = .ok (.iaload, 1) := dk_get _ da_cX2_rightBelow_0 7 _ _ _ rfl
theorem dX2_rightBelow_12 : decode cX2_rightBelow 12 = .ok (.iadd, 1) := dk_get _ da_cX2_rightBelow_0 8 _ _ _ rfl
theorem dX2_rightBelow_13 : decode cX2_rightBelow 13 = .ok (.iconst 2, 1) := dk_get _ da_cX2_rightBelow_0 9 _ _ _ rfl
theorem dX2_rightBelow_14 : decode cX2_rightBelow 14 = .ok (.idiv, 1) := dk_get _ da_cX2_rightBelow_0 10 _ _ _ rfl
theorem dX2_rightBelow_15 : decode cX2_rightBelow 15 = .ok (.istore_n 2, 1) := dk_get _ da_cX2_rightBelow_0 11 _ _ _ rfl
theorem dX2_rightBelow_16 : decode cX2_rightBelow 16 = .ok (.iload_n 1, 1) := dk_get _ da_cX2_rightBelow_0 12 _ _ _ rfl
theorem dX2_rightBelow_17 : decode cX2_rightBelow 17 = .ok (.iconst 2, 1) := dk_get _ da_cX2_rightBelow_0 13 _ _ _ rfl
theorem dX2_rightBelow_18 : decode cX2_rightBelow 18 = .ok (.iload_n 2, 1) := dk_get _ da_cX2_rightBelow_0 14 _ _ _ rfl
theorem dX2_rightBelow_19 : decode cX2_rightBelow 19 = .ok (.aload_n 0, 1) := dk_get _ da_cX2_rightBelow_0 15 _ _ _ rfl
theorem dX2_rightBelow_20 : decode cX2_rightBelow 20 = .ok (.getfield 18, 3) := dk_get _ da_cX2_rightBelow_0 16 _ _ _ rfl
theorem dX2_rightBelow_23 : decode cX2_rightBelow 23 = .ok (.iload_n 1, 1) := dk_get _ da_cX2_rightBelow_0 17 _ _ _ rfl
theorem dX2_rightBelow_24 : decode cX2_rightBelow 24 = .ok (.iaload, 1) := dk_get _ da_cX2_rightBelow_0 18 _ _ _ rfl
theorem dX2_rightBelow_25 : decode cX2_rightBelow 25 = .ok (.isub, 1) := dk_get _ da_cX2_rightBelow_0 19 _ _ _ rfl
theorem dX2_rightBelow_26 : decode cX2_rightBelow 26 = .ok (.imul, 1) := dk_get _ da_cX2_rightBelow_0 20 _ _ _ rfl
theorem dX2_rightBelow_27 : decode cX2_rightBelow 27 = .ok (.iadd, 1) := dk_get _ da_cX2_rightBelow_0 21 _ _ _ rfl
theorem dX2_rightBelow_28 : decode cX2_rightBelow 28 = .ok (.ireturn, 1) := dk_get _ da_cX2_rightBelow_0 22 _ _ _ rfl

