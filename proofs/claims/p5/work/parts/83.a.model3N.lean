abbrev cX5_parted : ByteArray := prog_7_method_67_code
def yX5_parted : MethodName := ⟨RX5, "parted", "(II)I"⟩
abbrev cX5_laysNumbers : ByteArray := prog_7_method_69_code
def yX5_laysNumbers : MethodName := ⟨RX5, "laysNumbers", "()V"⟩
abbrev cX5_begins : ByteArray := prog_7_method_70_code
def yX5_begins : MethodName := ⟨RX5, "begins", "()V"⟩
abbrev cX5_goesOn : ByteArray := prog_7_method_71_code
def yX5_goesOn : MethodName := ⟨RX5, "goesOn", "(II)Z"⟩
abbrev cX5_majorities : ByteArray := prog_7_method_72_code
def yX5_majorities : MethodName := ⟨RX5, "majorities", "()I"⟩
def wsX5_laysNumbers : List Cond := .code yX5_laysNumbers cX5_laysNumbers 5 none :: ([.fieldLink RX5 84 "MajorityIndexModel" "n" "I", .fieldLink RX5 7 "MajorityIndexModel" "row" "[I", .fieldLink RX5 71 "MajorityIndexModel" "which" "[I"] ++ wsX50)
def wsX5_begins : List Cond := .code yX5_begins cX5_begins 2 none :: ([.fieldLink RX5 84 "MajorityIndexModel" "n" "I", .fieldLink RX5 74 "MajorityIndexModel" "met" "[I", .fieldLink RX5 210 "MajorityIndexModel" "mostMet" "I"] ++ wsX50)
def wsX5_goesOn : List Cond := .code yX5_goesOn cX5_goesOn 4 (some .boolean) :: ([.fieldLink RX5 71 "MajorityIndexModel" "which" "[I", .fieldLink RX5 74 "MajorityIndexModel" "met" "[I", .fieldLink RX5 210 "MajorityIndexModel" "mostMet" "I"] ++ wsX50)
def wsX5_parted : List Cond := .code yX5_parted cX5_parted 5 (some .int) :: ([.fieldLink RX5 77 "MajorityIndexModel" "thrown" "I", .fieldLink RX5 68 "MajorityIndexModel" "fewest" "[I", .methodLink RX5 142 yX5_isRange, .instanceMethod yX5_isRange, .selects RX5 yX5_isRange yX5_isRange, .initialized RX5, .code yX5_isRange cX5_isRange 3 (some .boolean), .fieldLink RX5 84 "MajorityIndexModel" "n" "I", .methodLink RX5 201 yX5_laysNumbers, .instanceMethod yX5_laysNumbers, .selects RX5 yX5_laysNumbers yX5_laysNumbers, .code yX5_laysNumbers cX5_laysNumbers 5 none, .fieldLink RX5 7 "MajorityIndexModel" "row" "[I", .fieldLink RX5 71 "MajorityIndexModel" "which" "[I", .methodLink RX5 204 yX5_begins, .instanceMethod yX5_begins, .selects RX5 yX5_begins yX5_begins, .code yX5_begins cX5_begins 2 none, .fieldLink RX5 74 "MajorityIndexModel" "met" "[I", .fieldLink RX5 210 "MajorityIndexModel" "mostMet" "I", .methodLink RX5 207 yX5_goesOn, .instanceMethod yX5_goesOn, .selects RX5 yX5_goesOn yX5_goesOn, .code yX5_goesOn cX5_goesOn 4 (some .boolean)] ++ wsX50)
def wsX5_majorities : List Cond := .code yX5_majorities cX5_majorities 4 (some .int) :: ([.fieldLink RX5 77 "MajorityIndexModel" "thrown" "I", .fieldLink RX5 84 "MajorityIndexModel" "n" "I", .methodLink RX5 201 yX5_laysNumbers, .instanceMethod yX5_laysNumbers, .selects RX5 yX5_laysNumbers yX5_laysNumbers, .initialized RX5, .code yX5_laysNumbers cX5_laysNumbers 5 none, .fieldLink RX5 7 "MajorityIndexModel" "row" "[I", .fieldLink RX5 71 "MajorityIndexModel" "which" "[I", .methodLink RX5 204 yX5_begins, .instanceMethod yX5_begins, .selects RX5 yX5_begins yX5_begins, .code yX5_begins cX5_begins 2 none, .fieldLink RX5 74 "MajorityIndexModel" "met" "[I", .fieldLink RX5 210 "MajorityIndexModel" "mostMet" "I", .methodLink RX5 207 yX5_goesOn, .instanceMethod yX5_goesOn, .selects RX5 yX5_goesOn yX5_goesOn, .code yX5_goesOn cX5_goesOn 4 (some .boolean)] ++ wsX50)
set_option maxRecDepth 20000 in
theorem ggX5_parted_X5_isRange : GoodIn wsX5_parted wsX5_isRange := goodIn_r _ [7, 8, 25, 26, 27, 28, 29, 30, 31, 32, 33, 34, 35, 36, 37, 38, 39, 40, 41, 42, 43, 44, 45, 46, 47, 48, 49, 50, 51, 52, 53, 54] rfl (by decide +kernel)
set_option maxRecDepth 20000 in
theorem gX5_parted_X5_isRange : GoodIn wsX5_parted (wsV RX5 142 RX5 yX5_isRange wsX5_isRange) := goodIn_app (goodIn_r _ [3, 4, 5, 6] rfl (by decide +kernel)) ggX5_parted_X5_isRange
set_option maxRecDepth 20000 in
theorem ggX5_parted_X5_laysNumbers : GoodIn wsX5_parted wsX5_laysNumbers := goodIn_r _ [12, 8, 13, 14, 25, 26, 27, 28, 29, 30, 31, 32, 33, 34, 35, 36, 37, 38, 39, 40, 41, 42, 43, 44, 45, 46, 47, 48, 49, 50, 51, 52, 53, 54] rfl (by decide +kernel)
set_option maxRecDepth 20000 in
theorem gX5_parted_X5_laysNumbers : GoodIn wsX5_parted (wsV RX5 201 RX5 yX5_laysNumbers wsX5_laysNumbers) := goodIn_app (goodIn_r _ [9, 10, 11, 6] rfl (by decide +kernel)) ggX5_parted_X5_laysNumbers
set_option maxRecDepth 20000 in
theorem ggX5_parted_X5_begins : GoodIn wsX5_parted wsX5_begins := goodIn_r _ [18, 8, 19, 20, 25, 26, 27, 28, 29, 30, 31, 32, 33, 34, 35, 36, 37, 38, 39, 40, 41, 42, 43, 44, 45, 46, 47, 48, 49, 50, 51, 52, 53, 54] rfl (by decide +kernel)
set_option maxRecDepth 20000 in
theorem gX5_parted_X5_begins : GoodIn wsX5_parted (wsV RX5 204 RX5 yX5_begins wsX5_begins) := goodIn_app (goodIn_r _ [15, 16, 17, 6] rfl (by decide +kernel)) ggX5_parted_X5_begins
set_option maxRecDepth 20000 in
theorem ggX5_parted_X5_goesOn : GoodIn wsX5_parted wsX5_goesOn := goodIn_r _ [24, 14, 19, 20, 25, 26, 27, 28, 29, 30, 31, 32, 33, 34, 35, 36, 37, 38, 39, 40, 41, 42, 43, 44, 45, 46, 47, 48, 49, 50, 51, 52, 53, 54] rfl (by decide +kernel)
set_option maxRecDepth 20000 in
theorem gX5_parted_X5_goesOn : GoodIn wsX5_parted (wsV RX5 207 RX5 yX5_goesOn wsX5_goesOn) := goodIn_app (goodIn_r _ [21, 22, 23, 6] rfl (by decide +kernel)) ggX5_parted_X5_goesOn
def dt_cX5_parted_0 : List (Nat × Instr × Nat) := [(0, .aload_n 0, 1), (1, .iconst 0, 1), (2, .putfield 77, 3), (5, .aload_n 0, 1), (6, .iload_n 1, 1), (7, .iload_n 2, 1), (8, .invokevirtual 142, 3), (11, .ifCond .ne 5, 3), (14, .iconst (-1), 1), (15, .ireturn, 1), (16, .aload_n 0, 1), (17, .invokevirtual 201, 3), (20, .aload_n 0, 1), (21, .getfield 68, 3), (24, .iload_n 2, 1), (25, .iconst 0, 1), (26, .iastore, 1), (27, .iload_n 2, 1), (28, .iconst 1, 1), (29, .isub, 1), (30, .istore_n 3, 1), (31, .iload_n 3, 1), (32, .iload_n 1, 1), (33, .if_icmp .lt 82, 3), (36, .aload_n 0, 1), (37, .getfield 68, 3), (40, .iload_n 3, 1), (41, .sipush 161, 3), (44, .iastore, 1), (45, .aload_n 0, 1), (46, .invokevirtual 204, 3), (49, .iload_n 3, 1), (50, .iconst 1, 1), (51, .iadd, 1), (52, .istore 4, 2), (54, .iload 4, 2), (56, .iload_n 2, 1), (57, .if_icmp .gt 52, 3), (60, .aload_n 0, 1), (61, .iload 4, 2), (63, .iload_n 3, 1), (64, .invokevirtual 207, 3), (67, .ifCond .eq 36, 3), (70, .aload_n 0, 1), (71, .getfield 68, 3), (74, .iload 4, 2), (76, .iaload, 1), (77, .iconst 1, 1), (78, .iadd, 1), (79, .aload_n 0, 1), (80, .getfield 68, 3), (83, .iload_n 3, 1), (84, .iaload, 1), (85, .if_icmp .ge 18, 3), (88, .aload_n 0, 1), (89, .getfield 68, 3), (92, .iload_n 3, 1), (93, .aload_n 0, 1), (94, .getfield 68, 3), (97, .iload 4, 2)]
theorem da_cX5_parted_0 : dk_all cX5_parted dt_cX5_parted_0 = true := by decide +kernel
theorem dX5_parted_0 : decode cX5_parted 0 = .ok (.aload_n 0, 1) := dk_get _ da_cX5_parted_0 0 _ _ _ rfl
theorem dX5_parted_1 : decode cX5_parted 1 = .ok (.iconst 0, 1) := dk_get _ da_cX5_parted_0 1 _ _ _ rfl
theorem dX5_parted_2 : decode cX5_parted 2 = .ok (.putfield 77, 3) := dk_get _ da_cX5_parted_0 2 _ _ _ rfl
theorem dX5_parted_5 : decode cX5_parted 5 = .ok (.aload_n 0, 1) := dk_get _ da_cX5_parted_0 3 _ _ _ rfl
theorem dX5_parted_6 : decode cX5_parted 6 = .ok (.iload_n 1, 1) := dk_get _ da_cX5_parted_0 4 _ _ _ rfl
theorem dX5_parted_7 : decode cX5_parted 7 = .ok (.iload_n 2, 1) := dk_get _ da_cX5_parted_0 5 _ _ _ rfl
theorem dX5_parted_8 : decode cX5_parted 8 = .ok (.invokevirtual 142, 3) := dk_get _ da_cX5_parted_0 6 _ _ _ rfl
theorem dX5_parted_11 : decode cX5_parted 11 = .ok (.ifCond .ne 5, 3) := dk_get _ da_cX5_parted_0 7 _ _ _ rfl
theorem dX5_parted_14 : decode cX5_parted 14 = .ok (.iconst (-1), 1) := dk_get _ da_cX5_parted_0 8 _ _ _ rfl
theorem dX5_parted_15 : decode cX5_parted 15 = .ok (.ireturn, 1) := dk_get _ da_cX5_parted_0 9 _ _ _ rfl
theorem dX5_parted_16 : decode cX5_parted 16 = .ok (.aload_n 0, 1) := dk_get _ da_cX5_parted_0 10 _ _ _ rfl
theorem dX5_parted_17 : decode cX5_parted 17 = .ok (.invokevirtual 201, 3) := dk_get _ da_cX5_parted_0 11 _ _ _ rfl
theorem dX5_parted_20 : decode cX5_parted 20 = .ok (.aload_n 0, 1) := dk_get _ da_cX5_parted_0 12 _ _ _ rfl
theorem dX5_parted_21 : decode cX5_parted 21 = .ok (.getfield 68, 3) := dk_get _ da_cX5_parted_0 13 _ _ _ rfl
theorem dX5_parted_24 : decode cX5_parted 24 = .ok (.iload_n 2, 1) := dk_get _ da_cX5_parted_0 14 _ _ _ rfl
theorem dX5_parted_25 : decode cX5_parted 25 = .ok (.iconst 0, 1) := dk_get _ da_cX5_parted_0 15 _ _ _ rfl
theorem dX5_parted_26 : decode cX5_parted 26 = .ok (.iastore, 1) := dk_get _ da_cX5_parted_0 16 _ _ _ rfl
theorem dX5_parted_27 : decode cX5_parted 27 = .ok (.iload_n 2, 1) := dk_get _ da_cX5_parted_0 17 _ _ _ rfl
theorem dX5_parted_28 : decode cX5_parted 28 = .ok (.iconst 1, 1) := dk_get _ da_cX5_parted_0 18 _ _ _ rfl
theorem dX5_parted_29 : decode cX5_parted 29 = .ok (.isub, 1) := dk_get _ da_cX5_parted_0 19 _ _ _ rfl
theorem dX5_parted_30 : decode cX5_parted 30 = .ok (.istore_n 3, 1) := dk_get _ da_cX5_parted_0 20 _ _ _ rfl
theorem dX5_parted_31 : decode cX5_parted 31 = .ok (.iload_n 3, 1) := dk_get _ da_cX5_parted_0 21 _ _ _ rfl
theorem dX5_parted_32 : decode cX5_parted 32 = .ok (.iload_n 1, 1) := dk_get _ da_cX5_parted_0 22 _ _ _ rfl
theorem dX5_parted_33 : decode cX5_parted 33 = .ok (.if_icmp .lt 82, 3) := dk_get _ da_cX5_parted_0 23 _ _ _ rfl
theorem dX5_parted_36 : decode cX5_parted 36 = .ok (.aload_n 0, 1) := dk_get _ da_cX5_parted_0 24 _ _ _ rfl
theorem dX5_parted_37 : decode cX5_parted 37 = .ok (.getfield 68, 3) := dk_get _ da_cX5_parted_0 25 _ _ _ rfl
theorem dX5_parted_40 : decode cX5_parted 40 = .ok (.iload_n 3, 1) := dk_get _ da_cX5_parted_0 26 _ _ _ rfl
theorem dX5_parted_41 : decode cX5_parted 41 = .ok (.sipush 161, 3) := dk_get _ da_cX5_parted_0 27 _ _ _ rfl
theorem dX5_parted_44 : decode cX5_parted 44 = .ok (.iastore, 1) := dk_get _ da_cX5_parted_0 28 _ _ _ rfl
theorem dX5_parted_45 : decode cX5_parted 45 = .ok (.aload_n 0, 1) := dk_get _ da_cX5_parted_0 29 _ _ _ rfl
theorem dX5_parted_46 : decode cX5_parted 46 = .ok (.invokevirtual 204, 3) := dk_get _ da_cX5_parted_0 30 _ _ _ rfl
theorem dX5_parted_49 : decode cX5_parted 49 = .ok (.iload_n 3, 1) := dk_get _ da_cX5_parted_0 31 _ _ _ rfl
theorem dX5_parted_50 : decode cX5_parted 50 = .ok (.iconst 1, 1) := dk_get _ da_cX5_parted_0 32 _ _ _ rfl
theorem dX5_parted_51 : decode cX5_parted 51 = .ok (.iadd, 1) := dk_get _ da_cX5_parted_0 33 _ _ _ rfl
theorem dX5_parted_52 : decode cX5_parted 52 = .ok (.istore 4, 2) := dk_get _ da_cX5_parted_0 34 _ _ _ rfl
theorem dX5_parted_54 : decode cX5_parted 54 = .ok (.iload 4, 2) := dk_get _ da_cX5_parted_0 35 _ _ _ rfl
theorem dX5_parted_56 : decode cX5_parted 56 = .ok (.iload_n 2, 1) := dk_get _ da_cX5_parted_0 36 _ _ _ rfl
theorem dX5_parted_57 : decode cX5_parted 57 = .ok (.if_icmp .gt 52, 3) := dk_get _ da_cX5_parted_0 37 _ _ _ rfl
theorem dX5_parted_60 : decode cX5_parted 60 = .ok (.aload_n 0, 1) := dk_get _ da_cX5_parted_0 38 _ _ _ rfl
theorem dX5_parted_61 : decode cX5_parted 61 = .ok (.iload 4, 2) := dk_get _ da_cX5_parted_0 39 _ _ _ rfl
theorem dX5_parted_63 : decode cX5_parted 63 = .ok (.iload_n 3, 1) := dk_get _ da_cX5_parted_0 40 _ _ _ rfl
theorem dX5_parted_64 : decode cX5_parted 64 = .ok (.invokevirtual 207, 3) := dk_get _ da_cX5_parted_0 41 _ _ _ rfl
theorem dX5_parted_67 : decode cX5_parted 67 = .ok (.ifCond .eq 36, 3) := dk_get _ da_cX5_parted_0 42 _ _ _ rfl
theorem dX5_parted_70 : decode cX5_parted 70 = .ok (.aload_n 0, 1) := dk_get _ da_cX5_parted_0 43 _ _ _ rfl
theorem dX5_parted_71 : decode cX5_parted 71 = .ok (.getfield 68, 3) := dk_get _ da_cX5_parted_0 44 _ _ _ rfl
theorem dX5_parted_74 : decode cX5_parted 74 = .ok (.iload 4, 2) := dk_get _ da_cX5_parted_0 45 _ _ _ rfl
theorem dX5_parted_76 : decode cX5_parted 76 = .ok (.iaload, 1) := dk_get _ da_cX5_parted_0 46 _ _ _ rfl
theorem dX5_parted_77 : decode cX5_parted 77 = .ok (.iconst 1, 1) := dk_get _ da_cX5_parted_0 47 _ _ _ rfl
theorem dX5_parted_78 : decode cX5_parted 78 = .ok (.iadd, 1) := dk_get _ da_cX5_parted_0 48 _ _ _ rfl
theorem dX5_parted_79 : decode cX5_parted 79 = .ok (.aload_n 0, 1) := dk_get _ da_cX5_parted_0 49 _ _ _ rfl
theorem dX5_parted_80 : decode cX5_parted 80 = .ok (.getfield 68, 3) := dk_get _ da_cX5_parted_0 50 _ _ _ rfl
theorem dX5_parted_83 : decode cX5_parted 83 = .ok (.iload_n 3, 1) := dk_get _ da_cX5_parted_0 51 _ _ _ rfl
theorem dX5_parted_84 : decode cX5_parted 84 = .ok (.iaload, 1) := dk_get _ da_cX5_parted_0 52 _ _ _ rfl
theorem dX5_parted_85 : decode cX5_parted 85 = .ok (.if_icmp .ge 18, 3) := dk_get _ da_cX5_parted_0 53 _ _ _ rfl
theorem dX5_parted_88 : decode cX5_parted 88 = .ok (.aload_n 0, 1) := dk_get _ da_cX5_parted_0 54 _ _ _ rfl
theorem dX5_parted_89 : decode cX5_parted 89 = .ok (.getfield 68, 3) := dk_get _ da_cX5_parted_0 55 _ _ _ rfl
theorem dX5_parted_92 : decode cX5_parted 92 = .ok (.iload_n 3, 1) := dk_get _ da_cX5_parted_0 56 _ _ _ rfl
theorem dX5_parted_93 : decode cX5_parted 93 = .ok (.aload_n 0, 1) := dk_get _ da_cX5_parted_0 57 _ _ _ rfl
theorem dX5_parted_94 : decode cX5_parted 94 = .ok (.getfield 68, 3) := dk_get _ da_cX5_parted_0 58 _ _ _ rfl
theorem dX5_parted_97 : decode cX5_parted 97 = .ok (.iload 4, 2) := dk_get _ da_cX5_parted_0 59 _ _ _ rfl
def dt_cX5_parted_1 : List (Nat × Instr × Nat) := [(99, .iaload, 1), (100, .iconst 1, 1), (101, .iadd, 1), (102, .iastore, 1), (103, .iinc 4 1, 3), (106, .goto (-52), 3), (109, .iinc 3 (-1), 3), (112, .goto (-81), 3), (115, .aload_n 0, 1), (116, .getfield 68, 3), (119, .iload_n 1, 1), (120, .iaload, 1), (121, .ireturn, 1)]
theorem da_cX5_parted_1 : dk_all cX5_parted dt_cX5_parted_1 = true := by decide +kernel
theorem dX5_parted_99 : decode cX5_parted 99 = .ok (.iaload, 1) := dk_get _ da_cX5_parted_1 0 _ _ _ rfl
theorem dX5_parted_100 : decode cX5_parted 100 = .ok (.iconst 1, 1) := dk_get _ da_cX5_parted_1 1 _ _ _ rfl
theorem dX5_parted_101 : decode cX5_parted 101 = .ok (.iadd, 1) := dk_get _ da_cX5_parted_1 2 _ _ _ rfl
theorem dX5_parted_102 : decode cX5_parted 102 = .ok (.iastore, 1) := dk_get _ da_cX5_parted_1 3 _ _ _ rfl
theorem dX5_parted_103 : decode cX5_parted 103 = .ok (.iinc 4 1, 3) := dk_get _ da_cX5_parted_1 4 _ _ _ rfl
theorem dX5_parted_106 : decode cX5_parted 106 = .ok (.goto (-52), 3) := dk_get _ da_cX5_parted_1 5 _ _ _ rfl
theorem dX5_parted_109 : decode cX5_parted 109 = .ok (.iinc 3 (-1), 3) := dk_get _ da_cX5_parted_1 6 _ _ _ rfl
theorem dX5_parted_112 : decode cX5_parted 112 = .ok (.goto (-81), 3) := dk_get _ da_cX5_parted_1 7 _ _ _ rfl
theorem dX5_parted_115 : decode cX5_parted 115 = .ok (.aload_n 0, 1) := dk_get _ da_cX5_parted_1 8 _ _ _ rfl
theorem dX5_parted_116 : decode cX5_parted 116 = .ok (.getfield 68, 3) := dk_get _ da_cX5_parted_1 9 _ _ _ rfl
theorem dX5_parted_119 : decode cX5_parted 119 = .ok (.iload_n 1, 1) := dk_get _ da_cX5_parted_1 10 _ _ _ rfl
theorem dX5_parted_120 : decode cX5_parted 120 = .ok (.iaload, 1) := dk_get _ da_cX5_parted_1 11 _ _ _ rfl
theorem dX5_parted_121 : decode cX5_parted 121 = .ok (.ireturn, 1) := dk_get _ da_cX5_parted_1 12 _ _ _ rfl
def dt_cX5_laysNumbers_0 : List (Nat × Instr × Nat) := [(0, .iconst 0, 1), (1, .istore_n 1, 1), (2, .iconst 0, 1), (3, .istore_n 2, 1), (4, .iload_n 2, 1), (5, .aload_n 0, 1), (6, .getfield 84, 3), (9, .if_icmp .ge 76, 3), (12, .iconst (-1), 1), (13, .istore_n 3, 1), (14, .iconst 0, 1), (15, .istore 4, 2), (17, .iload 4, 2), (19, .iload_n 2, 1), (20, .if_icmp .ge 37, 3), (23, .iload_n 3, 1), (24, .ifCond .ge 33, 3), (27, .aload_n 0, 1), (28, .getfield 7, 3), (31, .iload 4, 2), (33, .iaload, 1), (34, .aload_n 0, 1), (35, .getfield 7, 3), (38, .iload_n 2, 1), (39, .iaload, 1), (40, .if_icmp .ne 11, 3), (43, .aload_n 0, 1), (44, .getfield 71, 3), (47, .iload 4, 2), (49, .iaload, 1), (50, .istore_n 3, 1), (51, .iinc 4 1, 3), (54, .goto (-37), 3), (57, .aload_n 0, 1), (58, .getfield 71, 3), (61, .iload_n 2, 1), (62, .iload_n 3, 1), (63, .ifCond .ge 7, 3), (66, .iload_n 1, 1), (67, .goto 4, 3), (70, .iload_n 3, 1), (71, .iastore, 1), (72, .iload_n 3, 1), (73, .ifCond .ge 6, 3), (76, .iinc 1 1, 3), (79, .iinc 2 1, 3), (82, .goto (-78), 3), (85, .return_, 1)]
theorem da_cX5_laysNumbers_0 : dk_all cX5_laysNumbers dt_cX5_laysNumbers_0 = true := by decide +kernel
theorem dX5_laysNumbers_0 : decode cX5_laysNumbers 0 = .ok (.iconst 0, 1) := dk_get _ da_cX5_laysNumbers_0 0 _ _ _ rfl
theorem dX5_laysNumbers_1 : decode cX5_laysNumbers 1 = .ok (.istore_n 1, 1) := dk_get _ da_cX5_laysNumbers_0 1 _ _ _ rfl
theorem dX5_laysNumbers_2 : decode cX5_laysNumbers 2 = .ok (.iconst 0, 1) := dk_get _ da_cX5_laysNumbers_0 2 _ _ _ rfl
theorem dX5_laysNumbers_3 : decode cX5_laysNumbers 3 = .ok (.istore_n 2, 1) := dk_get _ da_cX5_laysNumbers_0 3 _ _ _ rfl
theorem dX5_laysNumbers_4 : decode cX5_laysNumbers 4 = .ok (.iload_n 2, 1) := dk_get _ da_cX5_laysNumbers_0 4 _ _ _ rfl
theorem dX5_laysNumbers_5 : decode cX5_laysNumbers 5 = .ok (.aload_n 0, 1) := dk_get _ da_cX5_laysNumbers_0 5 _ _ _ rfl
theorem dX5_laysNumbers_6 : decode cX5_laysNumbers 6 = .ok (.getfield 84, 3) := dk_get _ da_cX5_laysNumbers_0 6 _ _ _ rfl
theorem dX5_laysNumbers_9 : decode cX5_laysNumbers 9 = .ok (.if_icmp .ge 76, 3) := dk_get _ da_cX5_laysNumbers_0 7 _ _ _ rfl
theorem dX5_laysNumbers_12 : decode cX5_laysNumbers 12 = .ok (.iconst (-1), 1) := dk_get _ da_cX5_laysNumbers_0 8 _ _ _ rfl
theorem dX5_laysNumbers_13 : decode cX5_laysNumbers 13 = .ok (.istore_n 3, 1) := dk_get _ da_cX5_laysNumbers_0 9 _ _ _ rfl
theorem dX5_laysNumbers_14 : decode cX5_laysNumbers 14 = .ok (.iconst 0, 1) := dk_get _ da_cX5_laysNumbers_0 10 _ _ _ rfl
theorem dX5_laysNumbers_15 : decode cX5_laysNumbers 15 = .ok (.istore 4, 2) := dk_get _ da_cX5_laysNumbers_0 11 _ _ _ rfl
theorem dX5_laysNumbers_17 : decode cX5_laysNumbers 17 = .ok (.iload 4, 2) := dk_get _ da_cX5_laysNumbers_0 12 _ _ _ rfl
theorem dX5_laysNumbers_19 : decode cX5_laysNumbers 19 = .ok (.iload_n 2, 1) := dk_get _ da_cX5_laysNumbers_0 13 _ _ _ rfl
theorem dX5_laysNumbers_20 : decode cX5_laysNumbers 20 = .ok (.if_icmp .ge 37, 3) := dk_get _ da_cX5_laysNumbers_0 14 _ _ _ rfl
theorem dX5_laysNumbers_23 : decode cX5_laysNumbers 23 = .ok (.iload_n 3, 1) := dk_get _ da_cX5_laysNumbers_0 15 _ _ _ rfl
theorem dX5_laysNumbers_24 : decode cX5_laysNumbers 24 = .ok (.ifCond .ge 33, 3) := dk_get _ da_cX5_laysNumbers_0 16 _ _ _ rfl
theorem dX5_laysNumbers_27 : decode cX5_laysNumbers 27 = .ok (.aload_n 0, 1) := dk_get _ da_cX5_laysNumbers_0 17 _ _ _ rfl
theorem dX5_laysNumbers_28 : decode cX5_laysNumbers 28 = .ok (.getfield 7, 3) := dk_get _ da_cX5_laysNumbers_0 18 _ _ _ rfl
theorem dX5_laysNumbers_31 : decode cX5_laysNumbers 31 = .ok (.iload 4, 2) := dk_get _ da_cX5_laysNumbers_0 19 _ _ _ rfl
theorem dX5_laysNumbers_33 : decode cX5_laysNumbers 33 = .ok (.iaload, 1) := dk_get _ da_cX5_laysNumbers_0 20 _ _ _ rfl
theorem dX5_laysNumbers_34 : decode cX5_laysNumbers 34 = .ok (.aload_n 0, 1) := dk_get _ da_cX5_laysNumbers_0 21 _ _ _ rfl
theorem dX5_laysNumbers_35 : decode cX5_laysNumbers 35 = .ok (.getfield 7, 3) := dk_get _ da_cX5_laysNumbers_0 22 _ _ _ rfl
theorem dX5_laysNumbers_38 : decode cX5_laysNumbers 38 = .ok (.iload_n 2, 1) := dk_get _ da_cX5_laysNumbers_0 23 _ _ _ rfl
theorem dX5_laysNumbers_39 : decode cX5_laysNumbers 39 = .ok (.iaload, 1) := dk_get _ da_cX5_laysNumbers_0 24 _ _ _ rfl
theorem dX5_laysNumbers_40 : decode cX5_laysNumbers 40 = .ok (.if_icmp .ne 11, 3) := dk_get _ da_cX5_laysNumbers_0 25 _ _ _ rfl
theorem dX5_laysNumbers_43 : decode cX5_laysNumbers 43 = .ok (.aload_n 0, 1) := dk_get _ da_cX5_laysNumbers_0 26 _ _ _ rfl
theorem dX5_laysNumbers_44 : decode cX5_laysNumbers 44 = .ok (.getfield 71, 3) := dk_get _ da_cX5_laysNumbers_0 27 _ _ _ rfl
theorem dX5_laysNumbers_47 : decode cX5_laysNumbers 47 = .ok (.iload 4, 2) := dk_get _ da_cX5_laysNumbers_0 28 _ _ _ rfl
theorem dX5_laysNumbers_49 : decode cX5_laysNumbers 49 = .ok (.iaload, 1) := dk_get _ da_cX5_laysNumbers_0 29 _ _ _ rfl
theorem dX5_laysNumbers_50 : decode cX5_laysNumbers 50 = .ok (.istore_n 3, 1) := dk_get _ da_cX5_laysNumbers_0 30 _ _ _ rfl
theorem dX5_laysNumbers_51 : decode cX5_laysNumbers 51 = .ok (.iinc 4 1, 3) := dk_get _ da_cX5_laysNumbers_0 31 _ _ _ rfl
theorem dX5_laysNumbers_54 : decode cX5_laysNumbers 54 = .ok (.goto (-37), 3) := dk_get _ da_cX5_laysNumbers_0 32 _ _ _ rfl
theorem dX5_laysNumbers_57 : decode cX5_laysNumbers 57 = .ok (.aload_n 0, 1) := dk_get _ da_cX5_laysNumbers_0 33 _ _ _ rfl
theorem dX5_laysNumbers_58 : decode cX5_laysNumbers 58 = .ok (.getfield 71, 3) := dk_get _ da_cX5_laysNumbers_0 34 _ _ _ rfl
theorem dX5_laysNumbers_61 : decode cX5_laysNumbers 61 = .ok (.iload_n 2, 1) := dk_get _ da_cX5_laysNumbers_0 35 _ _ _ rfl
theorem dX5_laysNumbers_62 : decode cX5_laysNumbers 62 = .ok (.iload_n 3, 1) := dk_get _ da_cX5_laysNumbers_0 36 _ _ _ rfl
theorem dX5_laysNumbers_63 : decode cX5_laysNumbers 63 = .ok (.ifCond .ge 7, 3) := dk_get _ da_cX5_laysNumbers_0 37 _ _ _ rfl
theorem dX5_laysNumbers_66 : decode cX5_laysNumbers 66 = .ok (.iload_n 1, 1) := dk_get _ da_cX5_laysNumbers_0 38 _ _ _ rfl
theorem dX5_laysNumbers_67 : decode cX5_laysNumbers 67 = .ok (.goto 4, 3) := dk_get _ da_cX5_laysNumbers_0 39 _ _ _ rfl
theorem dX5_laysNumbers_70 : decode cX5_laysNumbers 70 = .ok (.iload_n 3, 1) := dk_get _ da_cX5_laysNumbers_0 40 _ _ _ rfl
theorem dX5_laysNumbers_71 : decode cX5_laysNumbers 71 = .ok (.iastore, 1) := dk_get _ da_cX5_laysNumbers_0 41 _ _ _ rfl
theorem dX5_laysNumbers_72 : decode cX5_laysNumbers 72 = .ok (.iload_n 3, 1) := dk_get _ da_cX5_laysNumbers_0 42 _ _ _ rfl
theorem dX5_laysNumbers_73 : decode cX5_laysNumbers 73 = .ok (.ifCond .ge 6, 3) := dk_get _ da_cX5_laysNumbers_0 43 _ _ _ rfl
theorem dX5_laysNumbers_76 : decode cX5_laysNumbers 76 = .ok (.iinc 1 1, 3) := dk_get _ da_cX5_laysNumbers_0 44 _ _ _ rfl
theorem dX5_laysNumbers_79 : decode cX5_laysNumbers 79 = .ok (.iinc 2 1, 3) := dk_get _ da_cX5_laysNumbers_0 45 _ _ _ rfl
theorem dX5_laysNumbers_82 : decode cX5_laysNumbers 82 = .ok (.goto (-78), 3) := dk_get _ da_cX5_laysNumbers_0 46 _ _ _ rfl
theorem dX5_laysNumbers_85 : decode cX5_laysNumbers 85 = .ok (.return_, 1) := dk_get _ da_cX5_laysNumbers_0 47 _ _ _ rfl
def dt_cX5_begins_0 : List (Nat × Instr × Nat) := [(0, .iconst 0, 1), (1, .istore_n 1, 1), (2, .iload_n 1, 1), (3, .aload_n 0, 1), (4, .getfield 84, 3), (7, .if_icmp .ge 16, 3), (10, .aload_n 0, 1), (11, .getfield 74, 3), (14, .iload_n 1, 1), (15, .iconst 0, 1), (16, .iastore, 1), (17, .iinc 1 1, 3), (20, .goto (-18), 3), (23, .aload_n 0, 1), (24, .iconst 0, 1), (25, .putfield 210, 3), (28, .return_, 1)]
theorem da_cX5_begins_0 : dk_all cX5_begins dt_cX5_begins_0 = true := by decide +kernel
theorem dX5_begins_0 : decode cX5_begins 0 = .ok (.iconst 0, 1) := dk_get _ da_cX5_begins_0 0 _ _ _ rfl
theorem dX5_begins_1 : decode cX5_begins 1 = .ok (.istore_n 1, 1) := dk_get _ da_cX5_begins_0 1 _ _ _ rfl
theorem dX5_begins_2 : decode cX5_begins 2 = .ok (.iload_n 1, 1) := dk_get _ da_cX5_begins_0 2 _ _ _ rfl
theorem dX5_begins_3 : decode cX5_begins 3 = .ok (.aload_n 0, 1) := dk_get _ da_cX5_begins_0 3 _ _ _ rfl
theorem dX5_begins_4 : decode cX5_begins 4 = .ok (.getfield 84, 3) := dk_get _ da_cX5_begins_0 4 _ _ _ rfl
theorem dX5_begins_7 : decode cX5_begins 7 = .ok (.if_icmp .ge 16, 3) := dk_get _ da_cX5_begins_0 5 _ _ _ rfl
theorem dX5_begins_10 : decode cX5_begins 10 = .ok (.aload_n 0, 1) := dk_get _ da_cX5_begins_0 6 _ _ _ rfl
theorem dX5_begins_11 : decode cX5_begins 11 = .ok (.getfield 74, 3) := dk_get _ da_cX5_begins_0 7 _ _ _ rfl
theorem dX5_begins_14 : decode cX5_begins 14 = .ok (.iload_n 1, 1) := dk_get _ da_cX5_begins_0 8 _ _ _ rfl
theorem dX5_begins_15 : decode cX5_begins 15 = .ok (.iconst 0, 1) := dk_get _ da_cX5_begins_0 9 _ _ _ rfl
theorem dX5_begins_16 : decode cX5_begins 16 = .ok (.iastore, 1) := dk_get _ da_cX5_begins_0 10 _ _ _ rfl
theorem dX5_begins_17 : decode cX5_begins 17 = .ok (.iinc 1 1, 3) := dk_get _ da_cX5_begins_0 11 _ _ _ rfl
theorem dX5_begins_20 : decode cX5_begins 20 = .ok (.goto (-18), 3) := dk_get _ da_cX5_begins_0 12 _ _ _ rfl
theorem dX5_begins_23 : decode cX5_begins 23 = .ok (.aload_n 0, 1) := dk_get _ da_cX5_begins_0 13 _ _ _ rfl
theorem dX5_begins_24 : decode cX5_begins 24 = .ok (.iconst 0, 1) := dk_get _ da_cX5_begins_0 14 _ _ _ rfl
theorem dX5_begins_25 : decode cX5_begins 25 = .ok (.putfield 210, 3) := dk_get _ da_cX5_begins_0 15 _ _ _ rfl
theorem dX5_begins_28 : decode cX5_begins 28 = .ok (.return_, 1) := dk_get _ da_cX5_begins_0 16 _ _ _ rfl
def dt_cX5_goesOn_0 : List (Nat × Instr × Nat) := [(0, .aload_n 0, 1), (1, .getfield 71, 3), (4, .iload_n 1, 1), (5, .iconst 1, 1), (6, .isub, 1), (7, .iaload, 1), (8, .istore_n 3, 1), (9, .aload_n 0, 1), (10, .getfield 74, 3), (13, .iload_n 3, 1), (14, .dup2, 1), (15, .iaload, 1), (16, .iconst 1, 1), (17, .iadd, 1), (18, .iastore, 1), (19, .aload_n 0, 1), (20, .getfield 74, 3), (23, .iload_n 3, 1), (24, .iaload, 1), (25, .aload_n 0, 1), (26, .getfield 210, 3), (29, .if_icmp .le 13, 3), (32, .aload_n 0, 1), (33, .aload_n 0, 1), (34, .getfield 74, 3), (37, .iload_n 3, 1), (38, .iaload, 1), (39, .putfield 210, 3), (42, .iconst 2, 1), (43, .aload_n 0, 1), (44, .getfield 210, 3), (47, .imul, 1), (48, .iload_n 1, 1), (49, .iload_n 2, 1), (50, .isub, 1), (51, .if_icmp .le 7, 3), (54, .iconst 1, 1), (55, .goto 4, 3), (58, .iconst 0, 1), (59, .ireturn, 1)]
theorem da_cX5_goesOn_0 : dk_all cX5_goesOn dt_cX5_goesOn_0 = true := by decide +kernel
theorem dX5_goesOn_0 : decode cX5_goesOn 0 = .ok (.aload_n 0, 1) := dk_get _ da_cX5_goesOn_0 0 _ _ _ rfl
theorem dX5_goesOn_1 : decode cX5_goesOn 1 = .ok (.getfield 71, 3) := dk_get _ da_cX5_goesOn_0 1 _ _ _ rfl
theorem dX5_goesOn_4 : decode cX5_goesOn 4 = .ok (.iload_n 1, 1) := dk_get _ da_cX5_goesOn_0 2 _ _ _ rfl
theorem dX5_goesOn_5 : decode cX5_goesOn 5 = .ok (.iconst 1, 1) := dk_get _ da_cX5_goesOn_0 3 _ _ _ rfl
theorem dX5_goesOn_6 : decode cX5_goesOn 6 = .ok (.isub, 1) := dk_get _ da_cX5_goesOn_0 4 _ _ _ rfl
theorem dX5_goesOn_7 : decode cX5_goesOn 7 = .ok (.iaload, 1) := dk_get _ da_cX5_goesOn_0 5 _ _ _ rfl
theorem dX5_goesOn_8 : decode cX5_goesOn 8 = .ok (.istore_n 3, 1) := dk_get _ da_cX5_goesOn_0 6 _ _ _ rfl
theorem dX5_goesOn_9 : decode cX5_goesOn 9 = .ok (.aload_n 0, 1) := dk_get _ da_cX5_goesOn_0 7 _ _ _ rfl
theorem dX5_goesOn_10 : decode cX5_goesOn 10 = .ok (.getfield 74, 3) := dk_get _ da_cX5_goesOn_0 8 _ _ _ rfl
theorem dX5_goesOn_13 : decode cX5_goesOn 13 = .ok (.iload_n 3, 1) := dk_get _ da_cX5_goesOn_0 9 _ _ _ rfl
theorem dX5_goesOn_14 : decode cX5_goesOn 14 = .ok (.dup2, 1) := dk_get _ da_cX5_goesOn_0 10 _ _ _ rfl
theorem dX5_goesOn_15 : decode cX5_goesOn 15 = .ok (.iaload, 1) := dk_get _ da_cX5_goesOn_0 11 _ _ _ rfl
theorem dX5_goesOn_16 : decode cX5_goesOn 16 = .ok (.iconst 1, 1) := dk_get _ da_cX5_goesOn_0 12 _ _ _ rfl
theorem dX5_goesOn_17 : decode cX5_goesOn 17 = .ok (.iadd, 1) := dk_get _ da_cX5_goesOn_0 13 _ _ _ rfl
theorem dX5_goesOn_18 : decode cX5_goesOn 18 = .ok (.iastore, 1) := dk_get _ da_cX5_goesOn_0 14 _ _ _ rfl
theorem dX5_goesOn_19 : decode cX5_goesOn 19 = .ok (.aload_n 0, 1) := dk_get _ da_cX5_goesOn_0 15 _ _ _ rfl
theorem dX5_goesOn_20 : decode cX5_goesOn 20 = .ok (.getfield 74, 3) := dk_get _ da_cX5_goesOn_0 16 _ _ _ rfl
theorem dX5_goesOn_23 : decode cX5_goesOn 23 = .ok (.iload_n 3, 1) := dk_get _ da_cX5_goesOn_0 17 _ _ _ rfl
theorem dX5_goesOn_24 : decode cX5_goesOn 24 = .ok (.iaload, 1) := dk_get _ da_cX5_goesOn_0 18 _ _ _ rfl
theorem dX5_goesOn_25 : decode cX5_goesOn 25 = .ok (.aload_n 0, 1) := dk_get _ da_cX5_goesOn_0 19 _ _ _ rfl
theorem dX5_goesOn_26 : decode cX5_goesOn 26 = .ok (.getfield 210, 3) := dk_get _ da_cX5_goesOn_0 20 _ _ _ rfl
theorem dX5_goesOn_29 : decode cX5_goesOn 29 = .ok (.if_icmp .le 13, 3) := dk_get _ da_cX5_goesOn_0 21 _ _ _ rfl
theorem dX5_goesOn_32 : decode cX5_goesOn 32 = .ok (.aload_n 0, 1) := dk_get _ da_cX5_goesOn_0 22 _ _ _ rfl
theorem dX5_goesOn_33 : decode cX5_goesOn 33 = .ok (.aload_n 0, 1) := dk_get _ da_cX5_goesOn_0 23 _ _ _ rfl
theorem dX5_goesOn_34 : decode cX5_goesOn 34 = .ok (.getfield 74, 3) := dk_get _ da_cX5_goesOn_0 24 _ _ _ rfl
theorem dX5_goesOn_37 : decode cX5_goesOn 37 = .ok (.iload_n 3, 1) := dk_get _ da_cX5_goesOn_0 25 _ _ _ rfl
theorem dX5_goesOn_38 : decode cX5_goesOn 38 = .ok (.iaload, 1) := dk_get _ da_cX5_goesOn_0 26 _ _ _ rfl
theorem dX5_goesOn_39 : decode cX5_goesOn 39 = .ok (.putfield 210, 3) := dk_get _ da_cX5_goesOn_0 27 _ _ _ rfl
theorem dX5_goesOn_42 : decode cX5_goesOn 42 = .ok (.iconst 2, 1) := dk_get _ da_cX5_goesOn_0 28 _ _ _ rfl
theorem dX5_goesOn_43 : decode cX5_goesOn 43 = .ok (.aload_n 0, 1) := dk_get _ da_cX5_goesOn_0 29 _ _ _ rfl
theorem dX5_goesOn_44 : decode cX5_goesOn 44 = .ok (.getfield 210, 3) := dk_get _ da_cX5_goesOn_0 30 _ _ _ rfl
theorem dX5_goesOn_47 : decode cX5_goesOn 47 = .ok (.imul, 1) := dk_get _ da_cX5_goesOn_0 31 _ _ _ rfl
theorem dX5_goesOn_48 : decode cX5_goesOn 48 = .ok (.iload_n 1, 1) := dk_get _ da_cX5_goesOn_0 32 _ _ _ rfl
theorem dX5_goesOn_49 : decode cX5_goesOn 49 = .ok (.iload_n 2, 1) := dk_get _ da_cX5_goesOn_0 33 _ _ _ rfl
theorem dX5_goesOn_50 : decode cX5_goesOn 50 = .ok (.isub, 1) := dk_get _ da_cX5_goesOn_0 34 _ _ _ rfl
theorem dX5_goesOn_51 : decode cX5_goesOn 51 = .ok (.if_icmp .le 7, 3) := dk_get _ da_cX5_goesOn_0 35 _ _ _ rfl
theorem dX5_goesOn_54 : decode cX5_goesOn 54 = .ok (.iconst 1, 1) := dk_get _ da_cX5_goesOn_0 36 _ _ _ rfl
theorem dX5_goesOn_55 : decode cX5_goesOn 55 = .ok (.goto 4, 3) := dk_get _ da_cX5_goesOn_0 37 _ _ _ rfl
theorem dX5_goesOn_58 : decode cX5_goesOn 58 = .ok (.iconst 0, 1) := dk_get _ da_cX5_goesOn_0 38 _ _ _ rfl
theorem dX5_goesOn_59 : decode cX5_goesOn 59 = .ok (.ireturn, 1) := dk_get _ da_cX5_goesOn_0 39 _ _ _ rfl
set_option maxRecDepth 20000 in
theorem ggX5_majorities_X5_laysNumbers : GoodIn wsX5_majorities wsX5_laysNumbers := goodIn_r _ [7, 2, 8, 9, 20, 21, 22, 23, 24, 25, 26, 27, 28, 29, 30, 31, 32, 33, 34, 35, 36, 37, 38, 39, 40, 41, 42, 43, 44, 45, 46, 47, 48, 49] rfl (by decide +kernel)
set_option maxRecDepth 20000 in
theorem gX5_majorities_X5_laysNumbers : GoodIn wsX5_majorities (wsV RX5 201 RX5 yX5_laysNumbers wsX5_laysNumbers) := goodIn_app (goodIn_r _ [3, 4, 5, 6] rfl (by decide +kernel)) ggX5_majorities_X5_laysNumbers
set_option maxRecDepth 20000 in
theorem ggX5_majorities_X5_begins : GoodIn wsX5_majorities wsX5_begins := goodIn_r _ [13, 2, 14, 15, 20, 21, 22, 23, 24, 25, 26, 27, 28, 29, 30, 31, 32, 33, 34, 35, 36, 37, 38, 39, 40, 41, 42, 43, 44, 45, 46, 47, 48, 49] rfl (by decide +kernel)
set_option maxRecDepth 20000 in
theorem gX5_majorities_X5_begins : GoodIn wsX5_majorities (wsV RX5 204 RX5 yX5_begins wsX5_begins) := goodIn_app (goodIn_r _ [10, 11, 12, 6] rfl (by decide +kernel)) ggX5_majorities_X5_begins
set_option maxRecDepth 20000 in
theorem ggX5_majorities_X5_goesOn : GoodIn wsX5_majorities wsX5_goesOn := goodIn_r _ [19, 9, 14, 15, 20, 21, 22, 23, 24, 25, 26, 27, 28, 29, 30, 31, 32, 33, 34, 35, 36, 37, 38, 39, 40, 41, 42, 43, 44, 45, 46, 47, 48, 49] rfl (by decide +kernel)
set_option maxRecDepth 20000 in
theorem gX5_majorities_X5_goesOn : GoodIn wsX5_majorities (wsV RX5 207 RX5 yX5_goesOn wsX5_goesOn) := goodIn_app (goodIn_r _ [16, 17, 18, 6] rfl (by decide +kernel)) ggX5_majorities_X5_goesOn
def dt_cX5_majorities_0 : List (Nat × Instr × Nat) := [(0, .aload_n 0, 1), (1, .iconst 0, 1), (2, .putfield 77, 3), (5, .aload_n 0, 1), (6, .invokevirtual 201, 3), (9, .iconst 0, 1), (10, .istore_n 1, 1), (11, .iconst 0, 1), (12, .istore_n 2, 1), (13, .iload_n 2, 1), (14, .aload_n 0, 1), (15, .getfield 84, 3), (18, .if_icmp .ge 43, 3), (21, .aload_n 0, 1), (22, .invokevirtual 204, 3), (25, .iload_n 2, 1), (26, .iconst 1, 1), (27, .iadd, 1), (28, .istore_n 3, 1), (29, .iload_n 3, 1), (30, .aload_n 0, 1), (31, .getfield 84, 3), (34, .if_icmp .gt 21, 3), (37, .aload_n 0, 1), (38, .iload_n 3, 1), (39, .iload_n 2, 1), (40, .invokevirtual 207, 3), (43, .ifCond .eq 6, 3), (46, .iinc 1 1, 3), (49, .iinc 3 1, 3), (52, .goto (-23), 3), (55, .iinc 2 1, 3), (58, .goto (-45), 3), (61, .iload_n 1, 1), (62, .ireturn, 1)]
theorem da_cX5_majorities_0 : dk_all cX5_majorities dt_cX5_majorities_0 = true := by decide +kernel
theorem dX5_majorities_0 : decode cX5_majorities 0 = .ok (.aload_n 0, 1) := dk_get _ da_cX5_majorities_0 0 _ _ _ rfl
theorem dX5_majorities_1 : decode cX5_majorities 1 = .ok (.iconst 0, 1) := dk_get _ da_cX5_majorities_0 1 _ _ _ rfl
theorem dX5_majorities_2 : decode cX5_majorities 2 = .ok (.putfield 77, 3) := dk_get _ da_cX5_majorities_0 2 _ _ _ rfl
theorem dX5_majorities_5 : decode cX5_majorities 5 = .ok (.aload_n 0, 1) := dk_get _ da_cX5_majorities_0 3 _ _ _ rfl
theorem dX5_majorities_6 : decode cX5_majorities 6 = .ok (.invokevirtual 201, 3) := dk_get _ da_cX5_majorities_0 4 _ _ _ rfl
theorem dX5_majorities_9 : decode cX5_majorities 9 = .ok (.iconst 0, 1) := dk_get _ da_cX5_majorities_0 5 _ _ _ rfl
theorem dX5_majorities_10 : decode cX5_majorities 10 = .ok (.istore_n 1, 1) := dk_get _ da_cX5_majorities_0 6 _ _ _ rfl
theorem dX5_majorities_11 : decode cX5_majorities 11 = .ok (.iconst 0, 1) := dk_get _ da_cX5_majorities_0 7 _ _ _ rfl
theorem dX5_majorities_12 : decode cX5_majorities 12 = .ok (.istore_n 2, 1) := dk_get _ da_cX5_majorities_0 8 _ _ _ rfl
theorem dX5_majorities_13 : decode cX5_majorities 13 = .ok (.iload_n 2, 1) := dk_get _ da_cX5_majorities_0 9 _ _ _ rfl
theorem dX5_majorities_14 : decode cX5_majorities 14 = .ok (.aload_n 0, 1) := dk_get _ da_cX5_majorities_0 10 _ _ _ rfl
theorem dX5_majorities_15 : decode cX5_majorities 15 = .ok (.getfield 84, 3) := dk_get _ da_cX5_majorities_0 11 _ _ _ rfl
theorem dX5_majorities_18 : decode cX5_majorities 18 = .ok (.if_icmp .ge 43, 3) := dk_get _ da_cX5_majorities_0 12 _ _ _ rfl
theorem dX5_majorities_21 : decode cX5_majorities 21 = .ok (.aload_n 0, 1) := dk_get _ da_cX5_majorities_0 13 _ _ _ rfl
theorem dX5_majorities_22 : decode cX5_majorities 22 = .ok (.invokevirtual 204, 3) := dk_get _ da_cX5_majorities_0 14 _ _ _ rfl
theorem dX5_majorities_25 : decode cX5_majorities 25 = .ok (.iload_n 2, 1) := dk_get _ da_cX5_majorities_0 15 _ _ _ rfl
theorem dX5_majorities_26 : decode cX5_majorities 26 = .ok (.iconst 1, 1) := dk_get _ da_cX5_majorities_0 16 _ _ _ rfl
theorem dX5_majorities_27 : decode cX5_majorities 27 = .ok (.iadd, 1) := dk_get _ da_cX5_majorities_0 17 _ _ _ rfl
theorem dX5_majorities_28 : decode cX5_majorities 28 = .ok (.istore_n 3, 1) := dk_get _ da_cX5_majorities_0 18 _ _ _ rfl
theorem dX5_majorities_29 : decode cX5_majorities 29 = .ok (.iload_n 3, 1) := dk_get _ da_cX5_majorities_0 19 _ _ _ rfl
theorem dX5_majorities_30 : decode cX5_majorities 30 = .ok (.aload_n 0, 1) := dk_get _ da_cX5_majorities_0 20 _ _ _ rfl
theorem dX5_majorities_31 : decode cX5_majorities 31 = .ok (.getfield 84, 3) := dk_get _ da_cX5_majorities_0 21 _ _ _ rfl
theorem dX5_majorities_34 : decode cX5_majorities 34 = .ok (.if_icmp .gt 21, 3) := dk_get _ da_cX5_majorities_0 22 _ _ _ rfl
theorem dX5_majorities_37 : decode cX5_majorities 37 = .ok (.aload_n 0, 1) := dk_get _ da_cX5_majorities_0 23 _ _ _ rfl
theorem dX5_majorities_38 : decode cX5_majorities 38 = .ok (.iload_n 3, 1) := dk_get _ da_cX5_majorities_0 24 _ _ _ rfl
theorem dX5_majorities_39 : decode cX5_majorities 39 = .ok (.iload_n 2, 1) := dk_get _ da_cX5_majorities_0 25 _ _ _ rfl
theorem dX5_majorities_40 : decode cX5_majorities 40 = .ok (.invokevirtual 207, 3) := dk_get _ da_cX5_majorities_0 26 _ _ _ rfl
theorem dX5_majorities_43 : decode cX5_majorities 43 = .ok (.ifCond .eq 6, 3) := dk_get _ da_cX5_majorities_0 27 _ _ _ rfl
theorem dX5_majorities_46 : decode cX5_majorities 46 = .ok (.iinc 1 1, 3) := dk_get _ da_cX5_majorities_0 28 _ _ _ rfl
theorem dX5_majorities_49 : decode cX5_majorities 49 = .ok (.iinc 3 1, 3) := dk_get _ da_cX5_majorities_0 29 _ _ _ rfl
theorem dX5_majorities_52 : decode cX5_majorities 52 = .ok (.goto (-23), 3) := dk_get _ da_cX5_majorities_0 30 _ _ _ rfl
theorem dX5_majorities_55 : decode cX5_majorities 55 = .ok (.iinc 2 1, 3) := dk_get _ da_cX5_majorities_0 31 _ _ _ rfl
theorem dX5_majorities_58 : decode cX5_majorities 58 = .ok (.goto (-45), 3) := dk_get _ da_cX5_majorities_0 32 _ _ _ rfl
theorem dX5_majorities_61 : decode cX5_majorities 61 = .ok (.iload_n 1, 1) := dk_get _ da_cX5_majorities_0 33 _ _ _ rfl
theorem dX5_majorities_62 : decode cX5_majorities 62 = .ok (.ireturn, 1) := dk_get _ da_cX5_majorities_0 34 _ _ _ rfl

