abbrev cX5_together : ByteArray := prog_7_method_12_code
def yX5_together : MethodName := ⟨RX5, "together", "(IIII)V"⟩
def wsX5_together : List Cond := .code yX5_together cX5_together 9 none :: ([.fieldLink RX5 87 "MajorityIndexModel" "allMany" "I", .fieldLink RX5 17 "MajorityIndexModel" "many" "[I", .fieldLink RX5 26 "MajorityIndexModel" "voteValue" "[I", .fieldLink RX5 29 "MajorityIndexModel" "voteNumber" "[I", .fieldLink RX5 35 "MajorityIndexModel" "allNumber" "[I", .fieldLink RX5 20 "MajorityIndexModel" "loss" "[I", .fieldLink RX5 32 "MajorityIndexModel" "allValue" "[I", .fieldLink RX5 23 "MajorityIndexModel" "less" "[I", .methodLink RX5 94 yX5_adds, .instanceMethod yX5_adds, .selects RX5 yX5_adds yX5_adds, .initialized RX5, .code yX5_adds cX5_adds 4 none, .methodLink RX5 98 yX5_sorts, .instanceMethod yX5_sorts, .selects RX5 yX5_sorts yX5_sorts, .code yX5_sorts cX5_sorts 4 none, .methodLink RX5 90 yX5_isAhead, .instanceMethod yX5_isAhead, .selects RX5 yX5_isAhead yX5_isAhead, .code yX5_isAhead cX5_isAhead 3 (some .boolean)] ++ wsX50)
set_option maxRecDepth 20000 in
theorem ggX5_together_X5_adds : GoodIn wsX5_together wsX5_adds := goodIn_r _ [13, 1, 7, 5, 22, 23, 24, 25, 26, 27, 28, 29, 30, 31, 32, 33, 34, 35, 36, 37, 38, 39, 40, 41, 42, 43, 44, 45, 46, 47, 48, 49, 50, 51] rfl (by decide +kernel)
set_option maxRecDepth 20000 in
theorem gX5_together_X5_adds : GoodIn wsX5_together (wsV RX5 94 RX5 yX5_adds wsX5_adds) := goodIn_app (goodIn_r _ [9, 10, 11, 12] rfl (by decide +kernel)) ggX5_together_X5_adds
set_option maxRecDepth 20000 in
theorem ggX5_together_X5_sorts : GoodIn wsX5_together wsX5_sorts := goodIn_r _ [17, 1, 7, 5, 18, 19, 20, 12, 21, 22, 23, 24, 25, 26, 27, 28, 29, 30, 31, 32, 33, 34, 35, 36, 37, 38, 39, 40, 41, 42, 43, 44, 45, 46, 47, 48, 49, 50, 51] rfl (by decide +kernel)
set_option maxRecDepth 20000 in
theorem gX5_together_X5_sorts : GoodIn wsX5_together (wsV RX5 98 RX5 yX5_sorts wsX5_sorts) := goodIn_app (goodIn_r _ [14, 15, 16, 12] rfl (by decide +kernel)) ggX5_together_X5_sorts
def dt_cX5_together_0 : List (Nat × Instr × Nat) := [(0, .aload_n 0, 1), (1, .iconst 0, 1), (2, .putfield 87, 3), (5, .iconst 0, 1), (6, .istore 5, 2), (8, .iload 5, 2), (10, .aload_n 0, 1), (11, .getfield 17, 3), (14, .iload_n 1, 1), (15, .iaload, 1), (16, .if_icmp .ge 37, 3), (19, .aload_n 0, 1), (20, .aload_n 0, 1), (21, .getfield 26, 3), (24, .bipush 6, 2), (26, .iload_n 1, 1), (27, .imul, 1), (28, .iload 5, 2), (30, .iadd, 1), (31, .iaload, 1), (32, .aload_n 0, 1), (33, .getfield 29, 3), (36, .bipush 6, 2), (38, .iload_n 1, 1), (39, .imul, 1), (40, .iload 5, 2), (42, .iadd, 1), (43, .iaload, 1), (44, .invokevirtual 94, 3), (47, .iinc 5 1, 3), (50, .goto (-42), 3), (53, .iconst 0, 1), (54, .istore 5, 2), (56, .iload 5, 2), (58, .aload_n 0, 1), (59, .getfield 17, 3), (62, .iload_n 2, 1), (63, .iaload, 1), (64, .if_icmp .ge 37, 3), (67, .aload_n 0, 1), (68, .aload_n 0, 1), (69, .getfield 26, 3), (72, .bipush 6, 2), (74, .iload_n 2, 1), (75, .imul, 1), (76, .iload 5, 2), (78, .iadd, 1), (79, .iaload, 1), (80, .aload_n 0, 1), (81, .getfield 29, 3), (84, .bipush 6, 2), (86, .iload_n 2, 1), (87, .imul, 1), (88, .iload 5, 2), (90, .iadd, 1), (91, .iaload, 1), (92, .invokevirtual 94, 3), (95, .iinc 5 1, 3), (98, .goto (-42), 3), (101, .aload_n 0, 1)]
theorem da_cX5_together_0 : dk_all cX5_together dt_cX5_together_0 = true := by decide +kernel
theorem dX5_together_0 : decode cX5_together 0 = .ok (.aload_n 0, 1) := dk_get _ da_cX5_together_0 0 _ _ _ rfl
theorem dX5_together_1 : decode cX5_together 1 = .ok (.iconst 0, 1) := dk_get _ da_cX5_together_0 1 _ _ _ rfl
theorem dX5_together_2 : decode cX5_together 2 = .ok (.putfield 87, 3) := dk_get _ da_cX5_together_0 2 _ _ _ rfl
theorem dX5_together_5 : decode cX5_together 5 = .ok (.iconst 0, 1) := dk_get _ da_cX5_together_0 3 _ _ _ rfl
theorem dX5_together_6 : decode cX5_together 6 = .ok (.istore 5, 2) := dk_get _ da_cX5_together_0 4 _ _ _ rfl
theorem dX5_together_8 : decode cX5_together 8 = .ok (.iload 5, 2) := dk_get _ da_cX5_together_0 5 _ _ _ rfl
theorem dX5_together_10 : decode cX5_together 10 = .ok (.aload_n 0, 1) := dk_get _ da_cX5_together_0 6 _ _ _ rfl
theorem dX5_together_11 : decode cX5_together 11 = .ok (.getfield 17, 3) := dk_get _ da_cX5_together_0 7 _ _ _ rfl
theorem dX5_together_14 : decode cX5_together 14 = .ok (.iload_n 1, 1) := dk_get _ da_cX5_together_0 8 _ _ _ rfl
theorem dX5_together_15 : decode cX5_together 15 = .ok (.iaload, 1) := dk_get _ da_cX5_together_0 9 _ _ _ rfl
theorem dX5_together_16 : decode cX5_together 16 = .ok (.if_icmp .ge 37, 3) := dk_get _ da_cX5_together_0 10 _ _ _ rfl
theorem dX5_together_19 : decode cX5_together 19 = .ok (.aload_n 0, 1) := dk_get _ da_cX5_together_0 11 _ _ _ rfl
theorem dX5_together_20 : decode cX5_together 20 = .ok (.aload_n 0, 1) := dk_get _ da_cX5_together_0 12 _ _ _ rfl
theorem dX5_together_21 : decode cX5_together 21 = .ok (.getfield 26, 3) := dk_get _ da_cX5_together_0 13 _ _ _ rfl
theorem dX5_together_24 : decode cX5_together 24 = .ok (.bipush 6, 2) := dk_get _ da_cX5_together_0 14 _ _ _ rfl
theorem dX5_together_26 : decode cX5_together 26 = .ok (.iload_n 1, 1) := dk_get _ da_cX5_together_0 15 _ _ _ rfl
theorem dX5_together_27 : decode cX5_together 27 = .ok (.imul, 1) := dk_get _ da_cX5_together_0 16 _ _ _ rfl
theorem dX5_together_28 : decode cX5_together 28 = .ok (.iload 5, 2) := dk_get _ da_cX5_together_0 17 _ _ _ rfl
theorem dX5_together_30 : decode cX5_together 30 = .ok (.iadd, 1) := dk_get _ da_cX5_together_0 18 _ _ _ rfl
theorem dX5_together_31 : decode cX5_together 31 = .ok (.iaload, 1) := dk_get _ da_cX5_together_0 19 _ _ _ rfl
theorem dX5_together_32 : decode cX5_together 32 = .ok (.aload_n 0, 1) := dk_get _ da_cX5_together_0 20 _ _ _ rfl
theorem dX5_together_33 : decode cX5_together 33 = .ok (.getfield 29, 3) := dk_get _ da_cX5_together_0 21 _ _ _ rfl
theorem dX5_together_36 : decode cX5_together 36 = .ok (.bipush 6, 2) := dk_get _ da_cX5_together_0 22 _ _ _ rfl
theorem dX5_together_38 : decode cX5_together 38 = .ok (.iload_n 1, 1) := dk_get _ da_cX5_together_0 23 _ _ _ rfl
theorem dX5_together_39 : decode cX5_together 39 = .ok (.imul, 1) := dk_get _ da_cX5_together_0 24 _ _ _ rfl
theorem dX5_together_40 : decode cX5_together 40 = .ok (.iload 5, 2) := dk_get _ da_cX5_together_0 25 _ _ _ rfl
theorem dX5_together_42 : decode cX5_together 42 = .ok (.iadd, 1) := dk_get _ da_cX5_together_0 26 _ _ _ rfl
theorem dX5_together_43 : decode cX5_together 43 = .ok (.iaload, 1) := dk_get _ da_cX5_together_0 27 _ _ _ rfl
theorem dX5_together_44 : decode cX5_together 44 = .ok (.invokevirtual 94, 3) := dk_get _ da_cX5_together_0 28 _ _ _ rfl
theorem dX5_together_47 : decode cX5_together 47 = .ok (.iinc 5 1, 3) := dk_get _ da_cX5_together_0 29 _ _ _ rfl
theorem dX5_together_50 : decode cX5_together 50 = .ok (.goto (-42), 3) := dk_get _ da_cX5_together_0 30 _ _ _ rfl
theorem dX5_together_53 : decode cX5_together 53 = .ok (.iconst 0, 1) := dk_get _ da_cX5_together_0 31 _ _ _ rfl
theorem dX5_together_54 : decode cX5_together 54 = .ok (.istore 5, 2) := dk_get _ da_cX5_together_0 32 _ _ _ rfl
theorem dX5_together_56 : decode cX5_together 56 = .ok (.iload 5, 2) := dk_get _ da_cX5_together_0 33 _ _ _ rfl
theorem dX5_together_58 : decode cX5_together 58 = .ok (.aload_n 0, 1) := dk_get _ da_cX5_together_0 34 _ _ _ rfl
theorem dX5_together_59 : decode cX5_together 59 = .ok (.getfield 17, 3) := dk_get _ da_cX5_together_0 35 _ _ _ rfl
theorem dX5_together_62 : decode cX5_together 62 = .ok (.iload_n 2, 1) := dk_get _ da_cX5_together_0 36 _ _ _ rfl
theorem dX5_together_63 : decode cX5_together 63 = .ok (.iaload, 1) := dk_get _ da_cX5_together_0 37 _ _ _ rfl
theorem dX5_together_64 : decode cX5_together 64 = .ok (.if_icmp .ge 37, 3) := dk_get _ da_cX5_together_0 38 _ _ _ rfl
theorem dX5_together_67 : decode cX5_together 67 = .ok (.aload_n 0, 1) := dk_get _ da_cX5_together_0 39 _ _ _ rfl
theorem dX5_together_68 : decode cX5_together 68 = .ok (.aload_n 0, 1) := dk_get _ da_cX5_together_0 40 _ _ _ rfl
theorem dX5_together_69 : decode cX5_together 69 = .ok (.getfield 26, 3) := dk_get _ da_cX5_together_0 41 _ _ _ rfl
theorem dX5_together_72 : decode cX5_together 72 = .ok (.bipush 6, 2) := dk_get _ da_cX5_together_0 42 _ _ _ rfl
theorem dX5_together_74 : decode cX5_together 74 = .ok (.iload_n 2, 1) := dk_get _ da_cX5_together_0 43 _ _ _ rfl
theorem dX5_together_75 : decode cX5_together 75 = .ok (.imul, 1) := dk_get _ da_cX5_together_0 44 _ _ _ rfl
theorem dX5_together_76 : decode cX5_together 76 = .ok (.iload 5, 2) := dk_get _ da_cX5_together_0 45 _ _ _ rfl
theorem dX5_together_78 : decode cX5_together 78 = .ok (.iadd, 1) := dk_get _ da_cX5_together_0 46 _ _ _ rfl
theorem dX5_together_79 : decode cX5_together 79 = .ok (.iaload, 1) := dk_get _ da_cX5_together_0 47 _ _ _ rfl
theorem dX5_together_80 : decode cX5_together 80 = .ok (.aload_n 0, 1) := dk_get _ da_cX5_together_0 48 _ _ _ rfl
theorem dX5_together_81 : decode cX5_together 81 = .ok (.getfield 29, 3) := dk_get _ da_cX5_together_0 49 _ _ _ rfl
theorem dX5_together_84 : decode cX5_together 84 = .ok (.bipush 6, 2) := dk_get _ da_cX5_together_0 50 _ _ _ rfl
theorem dX5_together_86 : decode cX5_together 86 = .ok (.iload_n 2, 1) := dk_get _ da_cX5_together_0 51 _ _ _ rfl
theorem dX5_together_87 : decode cX5_together 87 = .ok (.imul, 1) := dk_get _ da_cX5_together_0 52 _ _ _ rfl
theorem dX5_together_88 : decode cX5_together 88 = .ok (.iload 5, 2) := dk_get _ da_cX5_together_0 53 _ _ _ rfl
theorem dX5_together_90 : decode cX5_together 90 = .ok (.iadd, 1) := dk_get _ da_cX5_together_0 54 _ _ _ rfl
theorem dX5_together_91 : decode cX5_together 91 = .ok (.iaload, 1) := dk_get _ da_cX5_together_0 55 _ _ _ rfl
theorem dX5_together_92 : decode cX5_together 92 = .ok (.invokevirtual 94, 3) := dk_get _ da_cX5_together_0 56 _ _ _ rfl
theorem dX5_together_95 : decode cX5_together 95 = .ok (.iinc 5 1, 3) := dk_get _ da_cX5_together_0 57 _ _ _ rfl
theorem dX5_together_98 : decode cX5_together 98 = .ok (.goto (-42), 3) := dk_get _ da_cX5_together_0 58 _ _ _ rfl
theorem dX5_together_101 : decode cX5_together 101 = .ok (.aload_n 0, 1) := dk_get _ da_cX5_together_0 59 _ _ _ rfl
def dt_cX5_together_1 : List (Nat × Instr × Nat) := [(102, .invokevirtual 98, 3), (105, .aload_n 0, 1), (106, .getfield 87, 3), (109, .iload 4, 2), (111, .if_icmp .le 13, 3), (114, .aload_n 0, 1), (115, .getfield 35, 3), (118, .iload 4, 2), (120, .iaload, 1), (121, .goto 4, 3), (124, .iconst 0, 1), (125, .istore 5, 2), (127, .aload_n 0, 1), (128, .getfield 20, 3), (131, .iload_n 1, 1), (132, .iaload, 1), (133, .aload_n 0, 1), (134, .getfield 20, 3), (137, .iload_n 2, 1), (138, .iaload, 1), (139, .iadd, 1), (140, .iload 5, 2), (142, .iadd, 1), (143, .istore 6, 2), (145, .iconst 0, 1), (146, .istore 7, 2), (148, .iconst 0, 1), (149, .istore 8, 2), (151, .iload 8, 2), (153, .aload_n 0, 1), (154, .getfield 87, 3), (157, .if_icmp .ge 69, 3), (160, .aload_n 0, 1), (161, .getfield 35, 3), (164, .iload 8, 2), (166, .iaload, 1), (167, .iload 5, 2), (169, .isub, 1), (170, .ifCond .gt 6, 3), (173, .goto 47, 3), (176, .aload_n 0, 1), (177, .getfield 26, 3), (180, .bipush 6, 2), (182, .iload_n 3, 1), (183, .imul, 1), (184, .iload 7, 2), (186, .iadd, 1), (187, .aload_n 0, 1), (188, .getfield 32, 3), (191, .iload 8, 2), (193, .iaload, 1), (194, .iastore, 1), (195, .aload_n 0, 1), (196, .getfield 29, 3), (199, .bipush 6, 2), (201, .iload_n 3, 1), (202, .imul, 1), (203, .iload 7, 2), (205, .iadd, 1), (206, .aload_n 0, 1)]
theorem da_cX5_together_1 : dk_all cX5_together dt_cX5_together_1 = true := by decide +kernel
theorem dX5_together_102 : decode cX5_together 102 = .ok (.invokevirtual 98, 3) := dk_get _ da_cX5_together_1 0 _ _ _ rfl
theorem dX5_together_105 : decode cX5_together 105 = .ok (.aload_n 0, 1) := dk_get _ da_cX5_together_1 1 _ _ _ rfl
theorem dX5_together_106 : decode cX5_together 106 = .ok (.getfield 87, 3) := dk_get _ da_cX5_together_1 2 _ _ _ rfl
theorem dX5_together_109 : decode cX5_together 109 = .ok (.iload 4, 2) := dk_get _ da_cX5_together_1 3 _ _ _ rfl
theorem dX5_together_111 : decode cX5_together 111 = .ok (.if_icmp .le 13, 3) := dk_get _ da_cX5_together_1 4 _ _ _ rfl
theorem dX5_together_114 : decode cX5_together 114 = .ok (.aload_n 0, 1) := dk_get _ da_cX5_together_1 5 _ _ _ rfl
theorem dX5_together_115 : decode cX5_together 115 = .ok (.getfield 35, 3) := dk_get _ da_cX5_together_1 6 _ _ _ rfl
theorem dX5_together_118 : decode cX5_together 118 = .ok (.iload 4, 2) := dk_get _ da_cX5_together_1 7 _ _ _ rfl
theorem dX5_together_120 : decode cX5_together 120 = .ok (.iaload, 1) := dk_get _ da_cX5_together_1 8 _ _ _ rfl
theorem dX5_together_121 : decode cX5_together 121 = .ok (.goto 4, 3) := dk_get _ da_cX5_together_1 9 _ _ _ rfl
theorem dX5_together_124 : decode cX5_together 124 = .ok (.iconst 0, 1) := dk_get _ da_cX5_together_1 10 _ _ _ rfl
theorem dX5_together_125 : decode cX5_together 125 = .ok (.istore 5, 2) := dk_get _ da_cX5_together_1 11 _ _ _ rfl
theorem dX5_together_127 : decode cX5_together 127 = .ok (.aload_n 0, 1) := dk_get _ da_cX5_together_1 12 _ _ _ rfl
theorem dX5_together_128 : decode cX5_together 128 = .ok (.getfield 20, 3) := dk_get _ da_cX5_together_1 13 _ _ _ rfl
theorem dX5_together_131 : decode cX5_together 131 = .ok (.iload_n 1, 1) := dk_get _ da_cX5_together_1 14 _ _ _ rfl
theorem dX5_together_132 : decode cX5_together 132 = .ok (.iaload, 1) := dk_get _ da_cX5_together_1 15 _ _ _ rfl
theorem dX5_together_133 : decode cX5_together 133 = .ok (.aload_n 0, 1) := dk_get _ da_cX5_together_1 16 _ _ _ rfl
theorem dX5_together_134 : decode cX5_together 134 = .ok (.getfield 20, 3) := dk_get _ da_cX5_together_1 17 _ _ _ rfl
theorem dX5_together_137 : decode cX5_together 137 = .ok (.iload_n 2, 1) := dk_get _ da_cX5_together_1 18 _ _ _ rfl
theorem dX5_together_138 : decode cX5_together 138 = .ok (.iaload, 1) := dk_get _ da_cX5_together_1 19 _ _ _ rfl
theorem dX5_together_139 : decode cX5_together 139 = .ok (.iadd, 1) := dk_get _ da_cX5_together_1 20 _ _ _ rfl
theorem dX5_together_140 : decode cX5_together 140 = .ok (.iload 5, 2) := dk_get _ da_cX5_together_1 21 _ _ _ rfl
theorem dX5_together_142 : decode cX5_together 142 = .ok (.iadd, 1) := dk_get _ da_cX5_together_1 22 _ _ _ rfl
theorem dX5_together_143 : decode cX5_together 143 = .ok (.istore 6, 2) := dk_get _ da_cX5_together_1 23 _ _ _ rfl
theorem dX5_together_145 : decode cX5_together 145 = .ok (.iconst 0, 1) := dk_get _ da_cX5_together_1 24 _ _ _ rfl
theorem dX5_together_146 : decode cX5_together 146 = .ok (.istore 7, 2) := dk_get _ da_cX5_together_1 25 _ _ _ rfl
theorem dX5_together_148 : decode cX5_together 148 = .ok (.iconst 0, 1) := dk_get _ da_cX5_together_1 26 _ _ _ rfl
theorem dX5_together_149 : decode cX5_together 149 = .ok (.istore 8, 2) := dk_get _ da_cX5_together_1 27 _ _ _ rfl
theorem dX5_together_151 : decode cX5_together 151 = .ok (.iload 8, 2) := dk_get _ da_cX5_together_1 28 _ _ _ rfl
theorem dX5_together_153 : decode cX5_together 153 = .ok (.aload_n 0, 1) := dk_get _ da_cX5_together_1 29 _ _ _ rfl
theorem dX5_together_154 : decode cX5_together 154 = .ok (.getfield 87, 3) := dk_get _ da_cX5_together_1 30 _ _ _ rfl
theorem dX5_together_157 : decode cX5_together 157 = .ok (.if_icmp .ge 69, 3) := dk_get _ da_cX5_together_1 31 _ _ _ rfl
theorem dX5_together_160 : decode cX5_together 160 = .ok (.aload_n 0, 1) := dk_get _ da_cX5_together_1 32 _ _ _ rfl
theorem dX5_together_161 : decode cX5_together 161 = .ok (.getfield 35, 3) := dk_get _ da_cX5_together_1 33 _ _ _ rfl
theorem dX5_together_164 : decode cX5_together 164 = .ok (.iload 8, 2) := dk_get _ da_cX5_together_1 34 _ _ _ rfl
theorem dX5_together_166 : decode cX5_together 166 = .ok (.iaload, 1) := dk_get _ da_cX5_together_1 35 _ _ _ rfl
theorem dX5_together_167 : decode cX5_together 167 = .ok (.iload 5, 2) := dk_get _ da_cX5_together_1 36 _ _ _ rfl
theorem dX5_together_169 : decode cX5_together 169 = .ok (.isub, 1) := dk_get _ da_cX5_together_1 37 _ _ _ rfl
theorem dX5_together_170 : decode cX5_together 170 = .ok (.ifCond .gt 6, 3) := dk_get _ da_cX5_together_1 38 _ _ _ rfl
theorem dX5_together_173 : decode cX5_together 173 = .ok (.goto 47, 3) := dk_get _ da_cX5_together_1 39 _ _ _ rfl
theorem dX5_together_176 : decode cX5_together 176 = .ok (.aload_n 0, 1) := dk_get _ da_cX5_together_1 40 _ _ _ rfl
theorem dX5_together_177 : decode cX5_together 177 = .ok (.getfield 26, 3) := dk_get _ da_cX5_together_1 41 _ _ _ rfl
theorem dX5_together_180 : decode cX5_together 180 = .ok (.bipush 6, 2) := dk_get _ da_cX5_together_1 42 _ _ _ rfl
theorem dX5_together_182 : decode cX5_together 182 = .ok (.iload_n 3, 1) := dk_get _ da_cX5_together_1 43 _ _ _ rfl
theorem dX5_together_183 : decode cX5_together 183 = .ok (.imul, 1) := dk_get _ da_cX5_together_1 44 _ _ _ rfl
theorem dX5_together_184 : decode cX5_together 184 = .ok (.iload 7, 2) := dk_get _ da_cX5_together_1 45 _ _ _ rfl
theorem dX5_together_186 : decode cX5_together 186 = .ok (.iadd, 1) := dk_get _ da_cX5_together_1 46 _ _ _ rfl
theorem dX5_together_187 : decode cX5_together 187 = .ok (.aload_n 0, 1) := dk_get _ da_cX5_together_1 47 _ _ _ rfl
theorem dX5_together_188 : decode cX5_together 188 = .ok (.getfield 32, 3) := dk_get _ da_cX5_together_1 48 _ _ _ rfl
theorem dX5_together_191 : decode cX5_together 191 = .ok (.iload 8, 2) := dk_get _ da_cX5_together_1 49 _ _ _ rfl
theorem dX5_together_193 : decode cX5_together 193 = .ok (.iaload, 1) := dk_get _ da_cX5_together_1 50 _ _ _ rfl
theorem dX5_together_194 : decode cX5_together 194 = .ok (.iastore, 1) := dk_get _ da_cX5_together_1 51 _ _ _ rfl
theorem dX5_together_195 : decode cX5_together 195 = .ok (.aload_n 0, 1) := dk_get _ da_cX5_together_1 52 _ _ _ rfl
theorem dX5_together_196 : decode cX5_together 196 = .ok (.getfield 29, 3) := dk_get _ da_cX5_together_1 53 _ _ _ rfl
theorem dX5_together_199 : decode cX5_together 199 = .ok (.bipush 6, 2) := dk_get _ da_cX5_together_1 54 _ _ _ rfl
theorem dX5_together_201 : decode cX5_together 201 = .ok (.iload_n 3, 1) := dk_get _ da_cX5_together_1 55 _ _ _ rfl
theorem dX5_together_202 : decode cX5_together 202 = .ok (.imul, 1) := dk_get _ da_cX5_together_1 56 _ _ _ rfl
theorem dX5_together_203 : decode cX5_together 203 = .ok (.iload 7, 2) := dk_get _ da_cX5_together_1 57 _ _ _ rfl
theorem dX5_together_205 : decode cX5_together 205 = .ok (.iadd, 1) := dk_get _ da_cX5_together_1 58 _ _ _ rfl
theorem dX5_together_206 : decode cX5_together 206 = .ok (.aload_n 0, 1) := dk_get _ da_cX5_together_1 59 _ _ _ rfl
def dt_cX5_together_2 : List (Nat × Instr × Nat) := [(207, .getfield 35, 3), (210, .iload 8, 2), (212, .iaload, 1), (213, .iload 5, 2), (215, .isub, 1), (216, .iastore, 1), (217, .iinc 7 1, 3), (220, .iinc 8 1, 3), (223, .goto (-72), 3), (226, .aload_n 0, 1), (227, .getfield 17, 3), (230, .iload_n 3, 1), (231, .iload 7, 2), (233, .iastore, 1), (234, .aload_n 0, 1), (235, .getfield 20, 3), (238, .iload_n 3, 1), (239, .iload 6, 2), (241, .iastore, 1), (242, .aload_n 0, 1), (243, .getfield 23, 3), (246, .iload_n 3, 1), (247, .iload 5, 2), (249, .iastore, 1), (250, .return_, 1)]
theorem da_cX5_together_2 : dk_all cX5_together dt_cX5_together_2 = true := by decide +kernel
theorem dX5_together_207 : decode cX5_together 207 = .ok (.getfield 35, 3) := dk_get _ da_cX5_together_2 0 _ _ _ rfl
theorem dX5_together_210 : decode cX5_together 210 = .ok (.iload 8, 2) := dk_get _ da_cX5_together_2 1 _ _ _ rfl
theorem dX5_together_212 : decode cX5_together 212 = .ok (.iaload, 1) := dk_get _ da_cX5_together_2 2 _ _ _ rfl
theorem dX5_together_213 : decode cX5_together 213 = .ok (.iload 5, 2) := dk_get _ da_cX5_together_2 3 _ _ _ rfl
theorem dX5_together_215 : decode cX5_together 215 = .ok (.isub, 1) := dk_get _ da_cX5_together_2 4 _ _ _ rfl
theorem dX5_together_216 : decode cX5_together 216 = .ok (.iastore, 1) := dk_get _ da_cX5_together_2 5 _ _ _ rfl
theorem dX5_together_217 : decode cX5_together 217 = .ok (.iinc 7 1, 3) := dk_get _ da_cX5_together_2 6 _ _ _ rfl
theorem dX5_together_220 : decode cX5_together 220 = .ok (.iinc 8 1, 3) := dk_get _ da_cX5_together_2 7 _ _ _ rfl
theorem dX5_together_223 : decode cX5_together 223 = .ok (.goto (-72), 3) := dk_get _ da_cX5_together_2 8 _ _ _ rfl
theorem dX5_together_226 : decode cX5_together 226 = .ok (.aload_n 0, 1) := dk_get _ da_cX5_together_2 9 _ _ _ rfl
theorem dX5_together_227 : decode cX5_together 227 = .ok (.getfield 17, 3) := dk_get _ da_cX5_together_2 10 _ _ _ rfl
theorem dX5_together_230 : decode cX5_together 230 = .ok (.iload_n 3, 1) := dk_get _ da_cX5_together_2 11 _ _ _ rfl
theorem dX5_together_231 : decode cX5_together 231 = .ok (.iload 7, 2) := dk_get _ da_cX5_together_2 12 _ _ _ rfl
theorem dX5_together_233 : decode cX5_together 233 = .ok (.iastore, 1) := dk_get _ da_cX5_together_2 13 _ _ _ rfl
theorem dX5_together_234 : decode cX5_together 234 = .ok (.aload_n 0, 1) := dk_get _ da_cX5_together_2 14 _ _ _ rfl
theorem dX5_together_235 : decode cX5_together 235 = .ok (.getfield 20, 3) := dk_get _ da_cX5_together_2 15 _ _ _ rfl
theorem dX5_together_238 : decode cX5_together 238 = .ok (.iload_n 3, 1) := dk_get _ da_cX5_together_2 16 _ _ _ rfl
theorem dX5_together_239 : decode cX5_together 239 = .ok (.iload 6, 2) := dk_get _ da_cX5_together_2 17 _ _ _ rfl
theorem dX5_together_241 : decode cX5_together 241 = .ok (.iastore, 1) := dk_get _ da_cX5_together_2 18 _ _ _ rfl
theorem dX5_together_242 : decode cX5_together 242 = .ok (.aload_n 0, 1) := dk_get _ da_cX5_together_2 19 _ _ _ rfl
theorem dX5_together_243 : decode cX5_together 243 = .ok (.getfield 23, 3) := dk_get _ da_cX5_together_2 20 _ _ _ rfl
theorem dX5_together_246 : decode cX5_together 246 = .ok (.iload_n 3, 1) := dk_get _ da_cX5_together_2 21 _ _ _ rfl
theorem dX5_together_247 : decode cX5_together 247 = .ok (.iload 5, 2) := dk_get _ da_cX5_together_2 22 _ _ _ rfl
theorem dX5_together_249 : decode cX5_together 249 = .ok (.iastore, 1) := dk_get _ da_cX5_together_2 23 _ _ _ rfl
theorem dX5_together_250 : decode cX5_together 250 = .ok (.return_, 1) := dk_get _ da_cX5_together_2 24 _ _ _ rfl

