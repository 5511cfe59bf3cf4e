abbrev cX5_sorts : ByteArray := prog_7_method_11_code
def yX5_sorts : MethodName := ⟨RX5, "sorts", "()V"⟩
def wsX5_sorts : List Cond := .code yX5_sorts cX5_sorts 4 none :: ([.fieldLink RX5 87 "MajorityIndexModel" "allMany" "I", .fieldLink RX5 32 "MajorityIndexModel" "allValue" "[I", .fieldLink RX5 35 "MajorityIndexModel" "allNumber" "[I", .methodLink RX5 90 yX5_isAhead, .instanceMethod yX5_isAhead, .selects RX5 yX5_isAhead yX5_isAhead, .initialized RX5, .code yX5_isAhead cX5_isAhead 3 (some .boolean)] ++ wsX50)
set_option maxRecDepth 20000 in
theorem ggX5_sorts_X5_isAhead : GoodIn wsX5_sorts wsX5_isAhead := goodIn_r _ [8, 3, 2, 9, 10, 11, 12, 13, 14, 15, 16, 17, 18, 19, 20, 21, 22, 23, 24, 25, 26, 27, 28, 29, 30, 31, 32, 33, 34, 35, 36, 37, 38] rfl (by decide +kernel)
set_option maxRecDepth 20000 in
theorem gX5_sorts_X5_isAhead : GoodIn wsX5_sorts (wsV RX5 90 RX5 yX5_isAhead wsX5_isAhead) := goodIn_app (goodIn_r _ [4, 5, 6, 7] rfl (by decide +kernel)) ggX5_sorts_X5_isAhead
def dt_cX5_sorts_0 : List (Nat × Instr × Nat) := [(0, .iconst 0, 1), (1, .istore_n 1, 1), (2, .iload_n 1, 1), (3, .aload_n 0, 1), (4, .getfield 87, 3), (7, .if_icmp .ge 91, 3), (10, .iload_n 1, 1), (11, .iconst 1, 1), (12, .iadd, 1), (13, .istore_n 2, 1), (14, .iload_n 2, 1), (15, .aload_n 0, 1), (16, .getfield 87, 3), (19, .if_icmp .ge 73, 3), (22, .aload_n 0, 1), (23, .iload_n 2, 1), (24, .iload_n 1, 1), (25, .invokevirtual 90, 3), (28, .ifCond .ne 6, 3), (31, .goto 55, 3), (34, .aload_n 0, 1), (35, .getfield 32, 3), (38, .iload_n 1, 1), (39, .iaload, 1), (40, .istore_n 3, 1), (41, .aload_n 0, 1), (42, .getfield 32, 3), (45, .iload_n 1, 1), (46, .aload_n 0, 1), (47, .getfield 32, 3), (50, .iload_n 2, 1), (51, .iaload, 1), (52, .iastore, 1), (53, .aload_n 0, 1), (54, .getfield 32, 3), (57, .iload_n 2, 1), (58, .iload_n 3, 1), (59, .iastore, 1), (60, .aload_n 0, 1), (61, .getfield 35, 3), (64, .iload_n 1, 1), (65, .iaload, 1), (66, .istore_n 3, 1), (67, .aload_n 0, 1), (68, .getfield 35, 3), (71, .iload_n 1, 1), (72, .aload_n 0, 1), (73, .getfield 35, 3), (76, .iload_n 2, 1), (77, .iaload, 1), (78, .iastore, 1), (79, .aload_n 0, 1), (80, .getfield 35, 3), (83, .iload_n 2, 1), (84, .iload_n 3, 1), (85, .iastore, 1), (86, .iinc 2 1, 3), (89, .goto (-75), 3), (92, .iinc 1 1, 3), (95, .goto (-93), 3)]
theorem da_cX5_sorts_0 : dk_all cX5_sorts dt_cX5_sorts_0 = true := by decide +kernel
theorem dX5_sorts_0 : decode cX5_sorts 0 = .ok (.iconst 0, 1) := dk_get _ da_cX5_sorts_0 0 _ _ _ rfl
theorem dX5_sorts_1 : decode cX5_sorts 1 = .ok (.istore_n 1, 1) := dk_get _ da_cX5_sorts_0 1 _ _ _ rfl
theorem dX5_sorts_2 : decode cX5_sorts 2 = .ok (.iload_n 1, 1) := dk_get _ da_cX5_sorts_0 2 _ _ _ rfl
theorem dX5_sorts_3 : decode cX5_sorts 3 = .ok (.aload_n 0, 1) := dk_get _ da_cX5_sorts_0 3 _ _ _ rfl
theorem dX5_sorts_4 : decode cX5_sorts 4 = .ok (.getfield 87, 3) := dk_get _ da_cX5_sorts_0 4 _ _ _ rfl
theorem dX5_sorts_7 : decode cX5_sorts 7 = .ok (.if_icmp .ge 91, 3) := dk_get _ da_cX5_sorts_0 5 _ _ _ rfl
theorem dX5_sorts_10 : decode cX5_sorts 10 = .ok (.iload_n 1, 1) := dk_get _ da_cX5_sorts_0 6 _ _ _ rfl
theorem dX5_sorts_11 : decode cX5_sorts 11 = .ok (.iconst 1, 1) := dk_get _ da_cX5_sorts_0 7 _ _ _ rfl
theorem dX5_sorts_12 : decode cX5_sorts 12 = .ok (.iadd, 1) := dk_get _ da_cX5_sorts_0 8 _ _ _ rfl
theorem dX5_sorts_13 : decode cX5_sorts 13 = .ok (.istore_n 2, 1) := dk_get _ da_cX5_sorts_0 9 _ _ _ rfl
theorem dX5_sorts_14 : decode cX5_sorts 14 = .ok (.iload_n 2, 1) := dk_get _ da_cX5_sorts_0 10 _ _ _ rfl
theorem dX5_sorts_15 : decode cX5_sorts 15 = .ok (.aload_n 0, 1) := dk_get _ da_cX5_sorts_0 11 _ _ _ rfl
theorem dX5_sorts_16 : decode cX5_sorts 16 = .ok (.getfield 87, 3) := dk_get _ da_cX5_sorts_0 12 _ _ _ rfl
theorem dX5_sorts_19 : decode cX5_sorts 19 = .ok (.if_icmp .ge 73, 3) := dk_get _ da_cX5_sorts_0 13 _ _ _ rfl
theorem dX5_sorts_22 : decode cX5_sorts 22 = .ok (.aload_n 0, 1) := dk_get _ da_cX5_sorts_0 14 _ _ _ rfl
theorem dX5_sorts_23 : decode cX5_sorts 23 = .ok (.iload_n 2, 1) := dk_get _ da_cX5_sorts_0 15 _ _ _ rfl
theorem dX5_sorts_24 : decode cX5_sorts 24 = .ok (.iload_n 1, 1) := dk_get _ da_cX5_sorts_0 16 _ _ _ rfl
theorem dX5_sorts_25 : decode cX5_sorts 25 = .ok (.invokevirtual 90, 3) := dk_get _ da_cX5_sorts_0 17 _ _ _ rfl
theorem dX5_sorts_28 : decode cX5_sorts 28 = .ok (.ifCond .ne 6, 3) := dk_get _ da_cX5_sorts_0 18 _ _ _ rfl
theorem dX5_sorts_31 : decode cX5_sorts 31 = .ok (.goto 55, 3) := dk_get _ da_cX5_sorts_0 19 _ _ _ rfl
theorem dX5_sorts_34 : decode cX5_sorts 34 = .ok (.aload_n 0, 1) := dk_get _ da_cX5_sorts_0 20 _ _ _ rfl
theorem dX5_sorts_35 : decode cX5_sorts 35 = .ok (.getfield 32, 3) := dk_get _ da_cX5_sorts_0 21 _ _ _ rfl
theorem dX5_sorts_38 : decode cX5_sorts 38 = .ok (.iload_n 1, 1) := dk_get _ da_cX5_sorts_0 22 _ _ _ rfl
theorem dX5_sorts_39 : decode cX5_sorts 39 = .ok (.iaload, 1) := dk_get _ da_cX5_sorts_0 23 _ _ _ rfl
theorem dX5_sorts_40 : decode cX5_sorts 40 = .ok (.istore_n 3, 1) := dk_get _ da_cX5_sorts_0 24 _ _ _ rfl
theorem dX5_sorts_41 : decode cX5_sorts 41 = .ok (.aload_n 0, 1) := dk_get _ da_cX5_sorts_0 25 _ _ _ rfl
theorem dX5_sorts_42 : decode cX5_sorts 42 = .ok (.getfield 32, 3) := dk_get _ da_cX5_sorts_0 26 _ _ _ rfl
theorem dX5_sorts_45 : decode cX5_sorts 45 = .ok (.iload_n 1, 1) := dk_get _ da_cX5_sorts_0 27 _ _ _ rfl
theorem dX5_sorts_46 : decode cX5_sorts 46 = .ok (.aload_n 0, 1) := dk_get _ da_cX5_sorts_0 28 _ _ _ rfl
theorem dX5_sorts_47 : decode cX5_sorts 47 = .ok (.getfield 32, 3) := dk_get _ da_cX5_sorts_0 29 _ _ _ rfl
theorem dX5_sorts_50 : decode cX5_sorts 50 = .ok (.iload_n 2, 1) := dk_get _ da_cX5_sorts_0 30 _ _ _ rfl
theorem dX5_sorts_51 : decode cX5_sorts 51 = .ok (.iaload, 1) := dk_get _ da_cX5_sorts_0 31 _ _ _ rfl
theorem dX5_sorts_52 : decode cX5_sorts 52 = .ok (.iastore, 1) := dk_get _ da_cX5_sorts_0 32 _ _ _ rfl
theorem dX5_sorts_53 : decode cX5_sorts 53 = .ok (.aload_n 0, 1) := dk_get _ da_cX5_sorts_0 33 _ _ _ rfl
theorem dX5_sorts_54 : decode cX5_sorts 54 = .ok (.getfield 32, 3) := dk_get _ da_cX5_sorts_0 34 _ _ _ rfl
theorem dX5_sorts_57 : decode cX5_sorts 57 = .ok (.iload_n 2, 1) := dk_get _ da_cX5_sorts_0 35 _ _ _ rfl
theorem dX5_sorts_58 : decode cX5_sorts 58 = .ok (.iload_n 3, 1) := dk_get _ da_cX5_sorts_0 36 _ _ _ rfl
theorem dX5_sorts_59 : decode cX5_sorts 59 = .ok (.iastore, 1) := dk_get _ da_cX5_sorts_0 37 _ _ _ rfl
theorem dX5_sorts_60 : decode cX5_sorts 60 = .ok (.aload_n 0, 1) := dk_get _ da_cX5_sorts_0 38 _ _ _ rfl
theorem dX5_sorts_61 : decode cX5_sorts 61 = .ok (.getfield 35, 3) := dk_get _ da_cX5_sorts_0 39 _ _ _ rfl
theorem dX5_sorts_64 : decode cX5_sorts 64 = .ok (.iload_n 1, 1) := dk_get _ da_cX5_sorts_0 40 _ _ _ rfl
theorem dX5_sorts_65 : decode cX5_sorts 65 = .ok (.iaload, 1) := dk_get _ da_cX5_sorts_0 41 _ _ _ rfl
theorem dX5_sorts_66 : decode cX5_sorts 66 = .ok (.istore_n 3, 1) := dk_get _ da_cX5_sorts_0 42 _ _ _ rfl
theorem dX5_sorts_67 : decode cX5_sorts 67 = .ok (.aload_n 0, 1) := dk_get _ da_cX5_sorts_0 43 _ _ _ rfl
theorem dX5_sorts_68 : decode cX5_sorts 68 = .ok (.getfield 35, 3) := dk_get _ da_cX5_sorts_0 44 _ _ _ rfl
theorem dX5_sorts_71 : decode cX5_sorts 71 = .ok (.iload_n 1, 1) := dk_get _ da_cX5_sorts_0 45 _ _ _ rfl
theorem dX5_sorts_72 : decode cX5_sorts 72 = .ok (.aload_n 0, 1) := dk_get _ da_cX5_sorts_0 46 _ _ _ rfl
theorem dX5_sorts_73 : decode cX5_sorts 73 = .ok (.getfield 35, 3) := dk_get _ da_cX5_sorts_0 47 _ _ _ rfl
theorem dX5_sorts_76 : decode cX5_sorts 76 = .ok (.iload_n 2, 1) := dk_get _ da_cX5_sorts_0 48 _ _ _ rfl
theorem dX5_sorts_77 : decode cX5_sorts 77 = .ok (.iaload, 1) := dk_get _ da_cX5_sorts_0 49 _ _ _ rfl
theorem dX5_sorts_78 : decode cX5_sorts 78 = .ok (.iastore, 1) := dk_get _ da_cX5_sorts_0 50 _ _ _ rfl
theorem dX5_sorts_79 : decode cX5_sorts 79 = .ok (.aload_n 0, 1) := dk_get _ da_cX5_sorts_0 51 _ _ _ rfl
theorem dX5_sorts_80 : decode cX5_sorts 80 = .ok (.getfield 35, 3) := dk_get _ da_cX5_sorts_0 52 _ _ _ rfl
theorem dX5_sorts_83 : decode cX5_sorts 83 = .ok (.iload_n 2, 1) := dk_get _ da_cX5_sorts_0 53 _ _ _ rfl
theorem dX5_sorts_84 : decode cX5_sorts 84 = .ok (.iload_n 3, 1) := dk_get _ da_cX5_sorts_0 54 _ _ _ rfl
theorem dX5_sorts_85 : decode cX5_sorts 85 = .ok (.iastore, 1) := dk_get _ da_cX5_sorts_0 55 _ _ _ rfl
theorem dX5_sorts_86 : decode cX5_sorts 86 = .ok (.iinc 2 1, 3) := dk_get _ da_cX5_sorts_0 56 _ _ _ rfl
theorem dX5_sorts_89 : decode cX5_sorts 89 = .ok (.goto (-75), 3) := dk_get _ da_cX5_sorts_0 57 _ _ _ rfl
theorem dX5_sorts_92 : decode cX5_sorts 92 = .ok (.iinc 1 1, 3) := dk_get _ da_cX5_sorts_0 58 _ _ _ rfl
theorem dX5_sorts_95 : decode cX5_sorts 95 = .ok (.goto (-93), 3) := dk_get _ da_cX5_sorts_0 59 _ _ _ rfl
def dt_cX5_sorts_1 : List (Nat × Instr × Nat) := [(98, .return_, 1)]
theorem da_cX5_sorts_1 : dk_all cX5_sorts dt_cX5_sorts_1 = true := by decide +kernel
theorem dX5_sorts_98 : decode cX5_sorts 98 = .ok (.return_, 1) := dk_get _ da_cX5_sorts_1 0 _ _ _ rfl

