abbrev cX5_parted : ByteArray := prog_7_method_67_code
def yX5_parted : MethodName := ⟨RX5, "parted", "(II)I"⟩
abbrev cX5_laysNumbers : ByteArray := prog_7_method_69_code
def yX5_laysNumbers : MethodName := ⟨RX5, "laysNumbers", "()V"⟩
abbrev cX5_begins : ByteArray := prog_7_method_70_code
def yX5_begins : MethodName := ⟨RX5, "begins", "()V"⟩
abbrev cX5_goesOn : ByteArray := prog_7_method_71_code
def yX5_goesOn : MethodName := ⟨RX5, "goesOn", "(II)Z"⟩
abbrev cX5_majorities : ByteArray := prog_7_method_72_code
def yX5_majorities : MethodName := ⟨RX5, "majorities", "()I"⟩
def wsX5_laysNumbers : List Cond := .code yX5_laysNumbers cX5_laysNumbers 5 none :: ([.fieldLink RX5 84 "MajorityIndexModel" "n" "I", .fieldLink RX5 7 "MajorityIndexModel" "row" "[I", .fieldLink RX5 71 "MajorityIndexModel" "which" "[I"] ++ wsX50)
def wsX5_begins : List Cond := .code yX5_begins cX5_begins 2 none :: ([.fieldLink RX5 84 "MajorityIndexModel" "n" "I", .fieldLink RX5 74 "MajorityIndexModel" "met" "[I", .fieldLink RX5 210 "MajorityIndexModel" "mostMet" "I"] ++ wsX50)
def wsX5_goesOn : List Cond := .code yX5_goesOn cX5_goesOn 4 (some .boolean) :: ([.fieldLink RX5 71 "MajorityIndexModel" "which" "[I", .fieldLink RX5 74 "MajorityIndexModel" "met" "[I", .fieldLink RX5 210 "MajorityIndexModel" "mostMet" "I"] ++ wsX50)
def wsX5_parted : List Cond := .code yX5_parted cX5_parted 5 (some .int) :: ([.fieldLink RX5 77 "MajorityIndexModel" "thrown" "I", .fieldLink RX5 68 "MajorityIndexModel" "fewest" "[I", .methodLink RX5 142 yX5_isRange, .instanceMethod yX5_isRange, .selects RX5 yX5_isRange yX5_isRange, .initialized RX5, .code yX5_isRange cX5_isRange 3 (some .boolean), .fieldLink RX5 84 "MajorityIndexModel" "n" "I", .methodLink RX5 201 yX5_laysNumbers, .instanceMethod yX5_laysNumbers, .selects RX5 yX5_laysNumbers yX5_laysNumbers, .code yX5_laysNumbers cX5_laysNumbers 5 none, .fieldLink RX5 7 "MajorityIndexModel" "row" "[I", .fieldLink RX5 71 "MajorityIndexModel" "which" "[I", .methodLink RX5 204 yX5_begins, .instanceMethod yX5_begins, .selects RX5 yX5_begins yX5_begins, .code yX5_begins cX5_begins 2 none, .fieldLink RX5 74 "MajorityIndexModel" "met" "[I", .fieldLink RX5 210 "MajorityIndexModel" "mostMet" "I", .methodLink RX5 207 yX5_goesOn, .instanceMethod yX5_goesOn, .selects RX5 yX5_goesOn yX5_goesOn, .code yX5_goesOn cX5_goesOn 4 (some .boolean)] ++ wsX50)
def wsX5_majorities : List Cond := .code yX5_majorities cX5_majorities 4 (some .int) :: ([.fieldLink RX5 77 "MajorityIndexModel" "thrown" "I", .fieldLink RX5 84 "MajorityIndexModel" "n" "I", .methodLink RX5 201 yX5_laysNumbers, .instanceMethod yX5_laysNumbers, .selects RX5 yX5_laysNumbers yX5_laysNumbers, .initialized RX5, .code yX5_laysNumbers cX5_laysNumbers 5 none, .fieldLink RX5 7 "MajorityIndexModel" "row" "[I", .fieldLink RX5 71 "MajorityIndexModel" "which" "[I", .methodLink RX5 204 yX5_begins, .instanceMethod yX5_begins, .selects RX5 yX5_begins yX5_begins, .code yX5_begins cX5_begins 2 none, .fieldLink RX5 74 "MajorityIndexModel" "met" "[I", .fieldLink RX5 210 "MajorityIndexModel" "mostMet" "I", .methodLink RX5 207 yX5_goesOn, .instanceMethod yX5_goesOn, .selects RX5 yX5_goesOn yX5_goesOn, .code yX5_goesOn cX5_goesOn 4 (some .boolean)] ++ wsX50)
set_option maxRecDepth 20000 in
theorem ggX5_parted_X5_isRange : GoodIn wsX5_parted wsX5_isRange := goodIn_r _ [7, 8, 25, 26, 27, 28, 29, 30, 31, 32, 33, 34, 35, 36, 37, 38, 39, 40, 41, 42, 43, 44, 45, 46, 47, 48, 49, 50, 51, 52, 53, 54] rfl (by decide +kernel)
set_option maxRecDepth 20000 in
theorem gX5_parted_X5_isRange : GoodIn wsX5_parted (wsV RX5 142 RX5 yX5_isRange wsX5_isRange) := goodIn_app (goodIn_r _ [3, 4, 5, 6] rfl (by decide +kernel)) ggX5_parted_X5_isRange
set_option maxRecDepth 20000 in
theorem ggX5_parted_X5_laysNumbers : GoodIn wsX5_parted wsX5_laysNumbers := goodIn_r _ [12, 8, 13, 14, 25, 26, 27, 28, 29, 30, 31, 32, 33, 34, 35, 36, 37, 38, 39, 40, 41, 42, 43, 44, 45, 46, 47, 48, 49, 50, 51, 52, 53, 54] rfl (by decide +kernel)
set_option maxRecDepth 20000 in
theorem gX5_parted_X5_laysNumbers : GoodIn wsX5_parted (wsV RX5 201 RX5 yX5_laysNumbers wsX5_laysNumbers) := goodIn_app (goodIn_r _ [9, 10, 11, 6] rfl (by decide +kernel)) ggX5_parted_X5_laysNumbers
set_option maxRecDepth 20000 in
theorem ggX5_parted_X5_begins : GoodIn wsX5_parted wsX5_begins := goodIn_r _ [18, 8, 19, 20, 25, 26, 27, 28, 29, 30, 31, 32, 33, 34, 35, 36, 37, 38, 39, 40, 41, 42, 43, 44, 45, 46, 47, 48, 49, 50, 51, 52, 53, 54] rfl (by decide +kernel)
set_option maxRecDepth 20000 in
theorem gX5_parted_X5_begins : GoodIn wsX5_parted (wsV RX5 204 RX5 yX5_begins wsX5_begins) := goodIn_app (goodIn_r _ [15, 16, 17, 6] rfl (by decide +kernel)) ggX5_parted_X5_begins
set_option maxRecDepth 20000 in
theorem ggX5_parted_X5_goesOn : GoodIn wsX5_parted wsX5_goesOn := goodIn_r _ [24, 14, 19, 20, 25, 26, 27, 28, 29, 30, 31, 32, 33, 34, 35, 36, 37, 38, 39, 40, 41, 42, 43, 44, 45, 46, 47, 48, 49, 50, 51, 52, 53, 54] rfl (by decide +kernel)
set_option maxRecDepth 20000 in
theorem gX5_parted_X5_goesOn : GoodIn wsX5_parted (wsV RX5 207 RX5 yX5_goesOn wsX5_goesOn) := goodIn_app (goodIn_r _ [21, 22, 23, 6] rfl (by decide +kernel)) ggX5_parted_X5_goesOn
def dt_cX5_parted_0 : List (Nat × Nat × Nat × Nat) := [(0, 42, 0, 0), (1, 3, 0, 0), (2, 181, 2, 77), (5, 42, 0, 0), (6, 27, 0, 0), (7, 28, 0, 0), (8, 182, 2, 142), (11, 154, 2, 5), (14, 2, 0, 0), (15, 172, 0, 0), (16, 42, 0, 0), (17, 182, 2, 201), (20, 42, 0, 0), (21, 180, 2, 68), (24, 28, 0, 0), (25, 3, 0, 0), (26, 79, 0, 0), (27, 28, 0, 0), (28, 4, 0, 0), (29, 100, 0, 0)]
theorem da_cX5_parted_0 : fw dt_cX5_parted_0 0 cX5_parted.data.toList = true := by decide +kernel
theorem dX5_parted_0 : decode cX5_parted 0 = .ok (.aload_n 0, 1) := fo_42 (fw_get da_cX5_parted_0 0 rfl)
theorem dX5_parted_1 : decode cX5_parted 1 = .ok (.iconst 0, 1) := fo_3 (fw_get da_cX5_parted_0 1 rfl)
theorem dX5_parted_2 : decode cX5_parted 2 = .ok (.putfield 77, 3) := fo_181 (fw_get da_cX5_parted_0 2 rfl)
theorem dX5_parted_5 : decode cX5_parted 5 = .ok (.aload_n 0, 1) := fo_42 (fw_get da_cX5_parted_0 3 rfl)
theorem dX5_parted_6 : decode cX5_parted 6 = .ok (.iload_n 1, 1) := fo_27 (fw_get da_cX5_parted_0 4 rfl)
theorem dX5_parted_7 : decode cX5_parted 7 = .ok (.iload_n 2, 1) := fo_28 (fw_get da_cX5_parted_0 5 rfl)
theorem dX5_parted_8 : decode cX5_parted 8 = .ok (.invokevirtual 142, 3) := fo_182 (fw_get da_cX5_parted_0 6 rfl)
theorem dX5_parted_11 : decode cX5_parted 11 = .ok (.ifCond .ne 5, 3) := fo_154 (fw_get da_cX5_parted_0 7 rfl) (by decide +kernel)
theorem dX5_parted_14 : decode cX5_parted 14 = .ok (.iconst (-1), 1) := fo_2 (fw_get da_cX5_parted_0 8 rfl)
theorem dX5_parted_15 : decode cX5_parted 15 = .ok (.ireturn, 1) := fo_172 (fw_get da_cX5_parted_0 9 rfl)
theorem dX5_parted_16 : decode cX5_parted 16 = .ok (.aload_n 0, 1) := fo_42 (fw_get da_cX5_parted_0 10 rfl)
theorem dX5_parted_17 : decode cX5_parted 17 = .ok (.invokevirtual 201, 3) := fo_182 (fw_get da_cX5_parted_0 11 rfl)
theorem dX5_parted_20 : decode cX5_parted 20 = .ok (.aload_n 0, 1) := fo_42 (fw_get da_cX5_parted_0 12 rfl)
theorem dX5_parted_21 : decode cX5_parted 21 = .ok (.getfield 68, 3) := fo_180 (fw_get da_cX5_parted_0 13 rfl)
theorem dX5_parted_24 : decode cX5_parted 24 = .ok (.iload_n 2, 1) := fo_28 (fw_get da_cX5_parted_0 14 rfl)
theorem dX5_parted_25 : decode cX5_parted 25 = .ok (.iconst 0, 1) := fo_3 (fw_get da_cX5_parted_0 15 rfl)
theorem dX5_parted_26 : decode cX5_parted 26 = .ok (.iastore, 1) := fo_79 (fw_get da_cX5_parted_0 16 rfl)
theorem dX5_parted_27 : decode cX5_parted 27 = .ok (.iload_n 2, 1) := fo_28 (fw_get da_cX5_parted_0 17 rfl)
theorem dX5_parted_28 : decode cX5_parted 28 = .ok (.iconst 1, 1) := fo_4 (fw_get da_cX5_parted_0 18 rfl)
theorem dX5_parted_29 : decode cX5_parted 29 = .ok (.isub, 1) := fo_100 (fw_get da_cX5_parted_0 19 rfl)
def dt_cX5_parted_1 : List (Nat × Nat × Nat × Nat) := [(30, 62, 0, 0), (31, 29, 0, 0), (32, 27, 0, 0), (33, 161, 2, 82), (36, 42, 0, 0), (37, 180, 2, 68), (40, 29, 0, 0), (41, 17, 2, 161), (44, 79, 0, 0), (45, 42, 0, 0), (46, 182, 2, 204), (49, 29, 0, 0), (50, 4, 0, 0), (51, 96, 0, 0), (52, 54, 1, 4), (54, 21, 1, 4), (56, 28, 0, 0), (57, 163, 2, 52), (60, 42, 0, 0), (61, 21, 1, 4)]
theorem da_cX5_parted_1 : fw dt_cX5_parted_1 0 cX5_parted.data.toList = true := by decide +kernel
theorem dX5_parted_30 : decode cX5_parted 30 = .ok (.istore_n 3, 1) := fo_62 (fw_get da_cX5_parted_1 0 rfl)
theorem dX5_parted_31 : decode cX5_parted 31 = .ok (.iload_n 3, 1) := fo_29 (fw_get da_cX5_parted_1 1 rfl)
theorem dX5_parted_32 : decode cX5_parted 32 = .ok (.iload_n 1, 1) := fo_27 (fw_get da_cX5_parted_1 2 rfl)
theorem dX5_parted_33 : decode cX5_parted 33 = .ok (.if_icmp .lt 82, 3) := fo_161 (fw_get da_cX5_parted_1 3 rfl) (by decide +kernel)
theorem dX5_parted_36 : decode cX5_parted 36 = .ok (.aload_n 0, 1) := fo_42 (fw_get da_cX5_parted_1 4 rfl)
theorem dX5_parted_37 : decode cX5_parted 37 = .ok (.getfield 68, 3) := fo_180 (fw_get da_cX5_parted_1 5 rfl)
theorem dX5_parted_40 : decode cX5_parted 40 = .ok (.iload_n 3, 1) := fo_29 (fw_get da_cX5_parted_1 6 rfl)
theorem dX5_parted_41 : decode cX5_parted 41 = .ok (.sipush 161, 3) := fo_17 (fw_get da_cX5_parted_1 7 rfl) (by decide +kernel)
theorem dX5_parted_44 : decode cX5_parted 44 = .ok (.iastore, 1) := fo_79 (fw_get da_cX5_parted_1 8 rfl)
theorem dX5_parted_45 : decode cX5_parted 45 = .ok (.aload_n 0, 1) := fo_42 (fw_get da_cX5_parted_1 9 rfl)
theorem dX5_parted_46 : decode cX5_parted 46 = .ok (.invokevirtual 204, 3) := fo_182 (fw_get da_cX5_parted_1 10 rfl)
theorem dX5_parted_49 : decode cX5_parted 49 = .ok (.iload_n 3, 1) := fo_29 (fw_get da_cX5_parted_1 11 rfl)
theorem dX5_parted_50 : decode cX5_parted 50 = .ok (.iconst 1, 1) := fo_4 (fw_get da_cX5_parted_1 12 rfl)
theorem dX5_parted_51 : decode cX5_parted 51 = .ok (.iadd, 1) := fo_96 (fw_get da_cX5_parted_1 13 rfl)
theorem dX5_parted_52 : decode cX5_parted 52 = .ok (.istore 4, 2) := fo_54 (fw_get da_cX5_parted_1 14 rfl)
theorem dX5_parted_54 : decode cX5_parted 54 = .ok (.iload 4, 2) := fo_21 (fw_get da_cX5_parted_1 15 rfl)
theorem dX5_parted_56 : decode cX5_parted 56 = .ok (.iload_n 2, 1) := fo_28 (fw_get da_cX5_parted_1 16 rfl)
theorem dX5_parted_57 : decode cX5_parted 57 = .ok (.if_icmp .gt 52, 3) := fo_163 (fw_get da_cX5_parted_1 17 rfl) (by decide +kernel)
theorem dX5_parted_60 : decode cX5_parted 60 = .ok (.aload_n 0, 1) := fo_42 (fw_get da_cX5_parted_1 18 rfl)
theorem dX5_parted_61 : decode cX5_parted 61 = .ok (.iload 4, 2) := fo_21 (fw_get da_cX5_parted_1 19 rfl)
def dt_cX5_parted_2 : List (Nat × Nat × Nat × Nat) := [(63, 29, 0, 0), (64, 182, 2, 207), (67, 153, 2, 36), (70, 42, 0, 0), (71, 180, 2, 68), (74, 21, 1, 4), (76, 46, 0, 0), (77, 4, 0, 0), (78, 96, 0, 0), (79, 42, 0, 0), (80, 180, 2, 68), (83, 29, 0, 0), (84, 46, 0, 0), (85, 162, 2, 18), (88, 42, 0, 0), (89, 180, 2, 68), (92, 29, 0, 0), (93, 42, 0, 0), (94, 180, 2, 68), (97, 21, 1, 4)]
theorem da_cX5_parted_2 : fw dt_cX5_parted_2 0 cX5_parted.data.toList = true := by decide +kernel
theorem dX5_parted_63 : decode cX5_parted 63 = .ok (.iload_n 3, 1) := fo_29 (fw_get da_cX5_parted_2 0 rfl)
theorem dX5_parted_64 : decode cX5_parted 64 = .ok (.invokevirtual 207, 3) := fo_182 (fw_get da_cX5_parted_2 1 rfl)
theorem dX5_parted_67 : decode cX5_parted 67 = .ok (.ifCond .eq 36, 3) := fo_153 (fw_get da_cX5_parted_2 2 rfl) (by decide +kernel)
theorem dX5_parted_70 : decode cX5_parted 70 = .ok (.aload_n 0, 1) := fo_42 (fw_get da_cX5_parted_2 3 rfl)
theorem dX5_parted_71 : decode cX5_parted 71 = .ok (.getfield 68, 3) := fo_180 (fw_get da_cX5_parted_2 4 rfl)
theorem dX5_parted_74 : decode cX5_parted 74 = .ok (.iload 4, 2) := fo_21 (fw_get da_cX5_parted_2 5 rfl)
theorem dX5_parted_76 : decode cX5_parted 76 = .ok (.iaload, 1) := fo_46 (fw_get da_cX5_parted_2 6 rfl)
theorem dX5_parted_77 : decode cX5_parted 77 = .ok (.iconst 1, 1) := fo_4 (fw_get da_cX5_parted_2 7 rfl)
theorem dX5_parted_78 : decode cX5_parted 78 = .ok (.iadd, 1) := fo_96 (fw_get da_cX5_parted_2 8 rfl)
theorem dX5_parted_79 : decode cX5_parted 79 = .ok (.aload_n 0, 1) := fo_42 (fw_get da_cX5_parted_2 9 rfl)
theorem dX5_parted_80 : decode cX5_parted 80 = .ok (.getfield 68, 3) := fo_180 (fw_get da_cX5_parted_2 10 rfl)
theorem dX5_parted_83 : decode cX5_parted 83 = .ok (.iload_n 3, 1) := fo_29 (fw_get da_cX5_parted_2 11 rfl)
theorem dX5_parted_84 : decode cX5_parted 84 = .ok (.iaload, 1) := fo_46 (fw_get da_cX5_parted_2 12 rfl)
theorem dX5_parted_85 : decode cX5_parted 85 = .ok (.if_icmp .ge 18, 3) := fo_162 (fw_get da_cX5_parted_2 13 rfl) (by decide +kernel)
theorem dX5_parted_88 : decode cX5_parted 88 = .ok (.aload_n 0, 1) := fo_42 (fw_get da_cX5_parted_2 14 rfl)
theorem dX5_parted_89 : decode cX5_parted 89 = .ok (.getfield 68, 3) := fo_180 (fw_get da_cX5_parted_2 15 rfl)
theorem dX5_parted_92 : decode cX5_parted 92 = .ok (.iload_n 3, 1) := fo_29 (fw_get da_cX5_parted_2 16 rfl)
theorem dX5_parted_93 : decode cX5_parted 93 = .ok (.aload_n 0, 1) := fo_42 (fw_get da_cX5_parted_2 17 rfl)
theorem dX5_parted_94 : decode cX5_parted 94 = .ok (.getfield 68, 3) := fo_180 (fw_get da_cX5_parted_2 18 rfl)
theorem dX5_parted_97 : decode cX5_parted 97 = .ok (.iload 4, 2) := fo_21 (fw_get da_cX5_parted_2 19 rfl)
def dt_cX5_parted_3 : List (Nat × Nat × Nat × Nat) := [(99, 46, 0, 0), (100, 4, 0, 0), (101, 96, 0, 0), (102, 79, 0, 0), (103, 132, 2, 1025), (106, 167, 2, 65484), (109, 132, 2, 1023), (112, 167, 2, 65455), (115, 42, 0, 0), (116, 180, 2, 68), (119, 27, 0, 0), (120, 46, 0, 0), (121, 172, 0, 0)]
theorem da_cX5_parted_3 : fw dt_cX5_parted_3 0 cX5_parted.data.toList = true := by decide +kernel
theorem dX5_parted_99 : decode cX5_parted 99 = .ok (.iaload, 1) := fo_46 (fw_get da_cX5_parted_3 0 rfl)
theorem dX5_parted_100 : decode cX5_parted 100 = .ok (.iconst 1, 1) := fo_4 (fw_get da_cX5_parted_3 1 rfl)
theorem dX5_parted_101 : decode cX5_parted 101 = .ok (.iadd, 1) := fo_96 (fw_get da_cX5_parted_3 2 rfl)
theorem dX5_parted_102 : decode cX5_parted 102 = .ok (.iastore, 1) := fo_79 (fw_get da_cX5_parted_3 3 rfl)
theorem dX5_parted_103 : decode cX5_parted 103 = .ok (.iinc 4 1, 3) := fo_132 (fw_get da_cX5_parted_3 4 rfl) rfl (by decide +kernel)
theorem dX5_parted_106 : decode cX5_parted 106 = .ok (.goto (-52), 3) := fo_167 (fw_get da_cX5_parted_3 5 rfl) (by decide +kernel)
theorem dX5_parted_109 : decode cX5_parted 109 = .ok (.iinc 3 (-1), 3) := fo_132 (fw_get da_cX5_parted_3 6 rfl) rfl (by decide +kernel)
theorem dX5_parted_112 : decode cX5_parted 112 = .ok (.goto (-81), 3) := fo_167 (fw_get da_cX5_parted_3 7 rfl) (by decide +kernel)
theorem dX5_parted_115 : decode cX5_parted 115 = .ok (.aload_n 0, 1) := fo_42 (fw_get da_cX5_parted_3 8 rfl)
theorem dX5_parted_116 : decode cX5_parted 116 = .ok (.getfield 68, 3) := fo_180 (fw_get da_cX5_parted_3 9 rfl)
theorem dX5_parted_119 : decode cX5_parted 119 = .ok (.iload_n 1, 1) := fo_27 (fw_get da_cX5_parted_3 10 rfl)
theorem dX5_parted_120 : decode cX5_parted 120 = .ok (.iaload, 1) := fo_46 (fw_get da_cX5_parted_3 11 rfl)
theorem dX5_parted_121 : decode cX5_parted 121 = .ok (.ireturn, 1) := fo_172 (fw_get da_cX5_parted_3 12 rfl)
def dt_cX5_laysNumbers_0 : List (Nat × Nat × Nat × Nat) := [(0, 3, 0, 0), (1, 60, 0, 0), (2, 3, 0, 0), (3, 61, 0, 0), (4, 28, 0, 0), (5, 42, 0, 0), (6, 180, 2, 84), (9, 162, 2, 76), (12, 2, 0, 0), (13, 62, 0, 0), (14, 3, 0, 0), (15, 54, 1, 4), (17, 21, 1, 4), (19, 28, 0, 0), (20, 162, 2, 37), (23, 29, 0, 0), (24, 156, 2, 33), (27, 42, 0, 0), (28, 180, 2, 7), (31, 21, 1, 4)]
theorem da_cX5_laysNumbers_0 : fw dt_cX5_laysNumbers_0 0 cX5_laysNumbers.data.toList = true := by decide +kernel
theorem dX5_laysNumbers_0 : decode cX5_laysNumbers 0 = .ok (.iconst 0, 1) := fo_3 (fw_get da_cX5_laysNumbers_0 0 rfl)
theorem dX5_laysNumbers_1 : decode cX5_laysNumbers 1 = .ok (.istore_n 1, 1) := fo_60 (fw_get da_cX5_laysNumbers_0 1 rfl)
theorem dX5_laysNumbers_2 : decode cX5_laysNumbers 2 = .ok (.iconst 0, 1) := fo_3 (fw_get da_cX5_laysNumbers_0 2 rfl)
theorem dX5_laysNumbers_3 : decode cX5_laysNumbers 3 = .ok (.istore_n 2, 1) := fo_61 (fw_get da_cX5_laysNumbers_0 3 rfl)
theorem dX5_laysNumbers_4 : decode cX5_laysNumbers 4 = .ok (.iload_n 2, 1) := fo_28 (fw_get da_cX5_laysNumbers_0 4 rfl)
theorem dX5_laysNumbers_5 : decode cX5_laysNumbers 5 = .ok (.aload_n 0, 1) := fo_42 (fw_get da_cX5_laysNumbers_0 5 rfl)
theorem dX5_laysNumbers_6 : decode cX5_laysNumbers 6 = .ok (.getfield 84, 3) := fo_180 (fw_get da_cX5_laysNumbers_0 6 rfl)
theorem dX5_laysNumbers_9 : decode cX5_laysNumbers 9 = .ok (.if_icmp .ge 76, 3) := fo_162 (fw_get da_cX5_laysNumbers_0 7 rfl) (by decide +kernel)
theorem dX5_laysNumbers_12 : decode cX5_laysNumbers 12 = .ok (.iconst (-1), 1) := fo_2 (fw_get da_cX5_laysNumbers_0 8 rfl)
theorem dX5_laysNumbers_13 : decode cX5_laysNumbers 13 = .ok (.istore_n 3, 1) := fo_62 (fw_get da_cX5_laysNumbers_0 9 rfl)
theorem dX5_laysNumbers_14 : decode cX5_laysNumbers 14 = .ok (.iconst 0, 1) := fo_3 (fw_get da_cX5_laysNumbers_0 10 rfl)
theorem dX5_laysNumbers_15 : decode cX5_laysNumbers 15 = .ok (.istore 4, 2) := fo_54 (fw_get da_cX5_laysNumbers_0 11 rfl)
theorem dX5_laysNumbers_17 : decode cX5_laysNumbers 17 = .ok (.iload 4, 2) := fo_21 (fw_get da_cX5_laysNumbers_0 12 rfl)
theorem dX5_laysNumbers_19 : decode cX5_laysNumbers 19 = .ok (.iload_n 2, 1) := fo_28 (fw_get da_cX5_laysNumbers_0 13 rfl)
theorem dX5_laysNumbers_20 : decode cX5_laysNumbers 20 = .ok (.if_icmp .ge 37, 3) := fo_162 (fw_get da_cX5_laysNumbers_0 14 rfl) (by decide +kernel)
theorem dX5_laysNumbers_23 : decode cX5_laysNumbers 23 = .ok (.iload_n 3, 1) := fo_29 (fw_get da_cX5_laysNumbers_0 15 rfl)
theorem dX5_laysNumbers_24 : decode cX5_laysNumbers 24 = .ok (.ifCond .ge 33, 3) := fo_156 (fw_get da_cX5_laysNumbers_0 16 rfl) (by decide +kernel)
theorem dX5_laysNumbers_27 : decode cX5_laysNumbers 27 = .ok (.aload_n 0, 1) := fo_42 (fw_get da_cX5_laysNumbers_0 17 rfl)
theorem dX5_laysNumbers_28 : decode cX5_laysNumbers 28 = .ok (.getfield 7, 3) := fo_180 (fw_get da_cX5_laysNumbers_0 18 rfl)
theorem dX5_laysNumbers_31 : decode cX5_laysNumbers 31 = .ok (.iload 4, 2) := fo_21 (fw_get da_cX5_laysNumbers_0 19 rfl)
def dt_cX5_laysNumbers_1 : List (Nat × Nat × Nat × Nat) := [(33, 46, 0, 0), (34, 42, 0, 0), (35, 180, 2, 7), (38, 28, 0, 0), (39, 46, 0, 0), (40, 160, 2, 11), (43, 42, 0, 0), (44, 180, 2, 71), (47, 21, 1, 4), (49, 46, 0, 0), (50, 62, 0, 0), (51, 132, 2, 1025), (54, 167, 2, 65499), (57, 42, 0, 0), (58, 180, 2, 71), (61, 28, 0, 0), (62, 29, 0, 0), (63, 156, 2, 7), (66, 27, 0, 0), (67, 167, 2, 4)]
theorem da_cX5_laysNumbers_1 : fw dt_cX5_laysNumbers_1 0 cX5_laysNumbers.data.toList = true := by decide +kernel
theorem dX5_laysNumbers_33 : decode cX5_laysNumbers 33 = .ok (.iaload, 1) := fo_46 (fw_get da_cX5_laysNumbers_1 0 rfl)
theorem dX5_laysNumbers_34 : decode cX5_laysNumbers 34 = .ok (.aload_n 0, 1) := fo_42 (fw_get da_cX5_laysNumbers_1 1 rfl)
theorem dX5_laysNumbers_35 : decode cX5_laysNumbers 35 = .ok (.getfield 7, 3) := fo_180 (fw_get da_cX5_laysNumbers_1 2 rfl)
theorem dX5_laysNumbers_38 : decode cX5_laysNumbers 38 = .ok (.iload_n 2, 1) := fo_28 (fw_get da_cX5_laysNumbers_1 3 rfl)
theorem dX5_laysNumbers_39 : decode cX5_laysNumbers 39 = .ok (.iaload, 1) := fo_46 (fw_get da_cX5_laysNumbers_1 4 rfl)
theorem dX5_laysNumbers_40 : decode cX5_laysNumbers 40 = .ok (.if_icmp .ne 11, 3) := fo_160 (fw_get da_cX5_laysNumbers_1 5 rfl) (by decide +kernel)
theorem dX5_laysNumbers_43 : decode cX5_laysNumbers 43 = .ok (.aload_n 0, 1) := fo_42 (fw_get da_cX5_laysNumbers_1 6 rfl)
theorem dX5_laysNumbers_44 : decode cX5_laysNumbers 44 = .ok (.getfield 71, 3) := fo_180 (fw_get da_cX5_laysNumbers_1 7 rfl)
theorem dX5_laysNumbers_47 : decode cX5_laysNumbers 47 = .ok (.iload 4, 2) := fo_21 (fw_get da_cX5_laysNumbers_1 8 rfl)
theorem dX5_laysNumbers_49 : decode cX5_laysNumbers 49 = .ok (.iaload, 1) := fo_46 (fw_get da_cX5_laysNumbers_1 9 rfl)
theorem dX5_laysNumbers_50 : decode cX5_laysNumbers 50 = .ok (.istore_n 3, 1) := fo_62 (fw_get da_cX5_laysNumbers_1 10 rfl)
theorem dX5_laysNumbers_51 : decode cX5_laysNumbers 51 = .ok (.iinc 4 1, 3) := fo_132 (fw_get da_cX5_laysNumbers_1 11 rfl) rfl (by decide +kernel)
theorem dX5_laysNumbers_54 : decode cX5_laysNumbers 54 = .ok (.goto (-37), 3) := fo_167 (fw_get da_cX5_laysNumbers_1 12 rfl) (by decide +kernel)
theorem dX5_laysNumbers_57 : decode cX5_laysNumbers 57 = .ok (.aload_n 0, 1) := fo_42 (fw_get da_cX5_laysNumbers_1 13 rfl)
theorem dX5_laysNumbers_58 : decode cX5_laysNumbers 58 = .ok (.getfield 71, 3) := fo_180 (fw_get da_cX5_laysNumbers_1 14 rfl)
theorem dX5_laysNumbers_61 : decode cX5_laysNumbers 61 = .ok (.iload_n 2, 1) := fo_28 (fw_get da_cX5_laysNumbers_1 15 rfl)
theorem dX5_laysNumbers_62 : decode cX5_laysNumbers 62 = .ok (.iload_n 3, 1) := fo_29 (fw_get da_cX5_laysNumbers_1 16 rfl)
theorem dX5_laysNumbers_63 : decode cX5_laysNumbers 63 = .ok (.ifCond .ge 7, 3) := fo_156 (fw_get da_cX5_laysNumbers_1 17 rfl) (by decide +kernel)
theorem dX5_laysNumbers_66 : decode cX5_laysNumbers 66 = .ok (.iload_n 1, 1) := fo_27 (fw_get da_cX5_laysNumbers_1 18 rfl)
theorem dX5_laysNumbers_67 : decode cX5_laysNumbers 67 = .ok (.goto 4, 3) := fo_167 (fw_get da_cX5_laysNumbers_1 19 rfl) (by decide +kernel)
def dt_cX5_laysNumbers_2 : List (Nat × Nat × Nat × Nat) := [(70, 29, 0, 0), (71, 79, 0, 0), (72, 29, 0, 0), (73, 156, 2, 6), (76, 132, 2, 257), (79, 132, 2, 513), (82, 167, 2, 65458), (85, 177, 0, 0)]
theorem da_cX5_laysNumbers_2 : fw dt_cX5_laysNumbers_2 0 cX5_laysNumbers.data.toList = true := by decide +kernel
theorem dX5_laysNumbers_70 : decode cX5_laysNumbers 70 = .ok (.iload_n 3, 1) := fo_29 (fw_get da_cX5_laysNumbers_2 0 rfl)
theorem dX5_laysNumbers_71 : decode cX5_laysNumbers 71 = .ok (.iastore, 1) := fo_79 (fw_get da_cX5_laysNumbers_2 1 rfl)
theorem dX5_laysNumbers_72 : decode cX5_laysNumbers 72 = .ok (.iload_n 3, 1) := fo_29 (fw_get da_cX5_laysNumbers_2 2 rfl)
theorem dX5_laysNumbers_73 : decode cX5_laysNumbers 73 = .ok (.ifCond .ge 6, 3) := fo_156 (fw_get da_cX5_laysNumbers_2 3 rfl) (by decide +kernel)
theorem dX5_laysNumbers_76 : decode cX5_laysNumbers 76 = .ok (.iinc 1 1, 3) := fo_132 (fw_get da_cX5_laysNumbers_2 4 rfl) rfl (by decide +kernel)
theorem dX5_laysNumbers_79 : decode cX5_laysNumbers 79 = .ok (.iinc 2 1, 3) := fo_132 (fw_get da_cX5_laysNumbers_2 5 rfl) rfl (by decide +kernel)
theorem dX5_laysNumbers_82 : decode cX5_laysNumbers 82 = .ok (.goto (-78), 3) := fo_167 (fw_get da_cX5_laysNumbers_2 6 rfl) (by decide +kernel)
theorem dX5_laysNumbers_85 : decode cX5_laysNumbers 85 = .ok (.return_, 1) := fo_177 (fw_get da_cX5_laysNumbers_2 7 rfl)
def dt_cX5_begins_0 : List (Nat × Nat × Nat × Nat) := [(0, 3, 0, 0), (1, 60, 0, 0), (2, 27, 0, 0), (3, 42, 0, 0), (4, 180, 2, 84), (7, 162, 2, 16), (10, 42, 0, 0), (11, 180, 2, 74), (14, 27, 0, 0), (15, 3, 0, 0), (16, 79, 0, 0), (17, 132, 2, 257), (20, 167, 2, 65518), (23, 42, 0, 0), (24, 3, 0, 0), (25, 181, 2, 210), (28, 177, 0, 0)]
theorem da_cX5_begins_0 : fw dt_cX5_begins_0 0 cX5_begins.data.toList = true := by decide +kernel
theorem dX5_begins_0 : decode cX5_begins 0 = .ok (.iconst 0, 1) := fo_3 (fw_get da_cX5_begins_0 0 rfl)
theorem dX5_begins_1 : decode cX5_begins 1 = .ok (.istore_n 1, 1) := fo_60 (fw_get da_cX5_begins_0 1 rfl)
theorem dX5_begins_2 : decode cX5_begins 2 = .ok (.iload_n 1, 1) := fo_27 (fw_get da_cX5_begins_0 2 rfl)
theorem dX5_begins_3 : decode cX5_begins 3 = .ok (.aload_n 0, 1) := fo_42 (fw_get da_cX5_begins_0 3 rfl)
theorem dX5_begins_4 : decode cX5_begins 4 = .ok (.getfield 84, 3) := fo_180 (fw_get da_cX5_begins_0 4 rfl)
theorem dX5_begins_7 : decode cX5_begins 7 = .ok (.if_icmp .ge 16, 3) := fo_162 (fw_get da_cX5_begins_0 5 rfl) (by decide +kernel)
theorem dX5_begins_10 : decode cX5_begins 10 = .ok (.aload_n 0, 1) := fo_42 (fw_get da_cX5_begins_0 6 rfl)
theorem dX5_begins_11 : decode cX5_begins 11 = .ok (.getfield 74, 3) := fo_180 (fw_get da_cX5_begins_0 7 rfl)
theorem dX5_begins_14 : decode cX5_begins 14 = .ok (.iload_n 1, 1) := fo_27 (fw_get da_cX5_begins_0 8 rfl)
theorem dX5_begins_15 : decode cX5_begins 15 = .ok (.iconst 0, 1) := fo_3 (fw_get da_cX5_begins_0 9 rfl)
theorem dX5_begins_16 : decode cX5_begins 16 = .ok (.iastore, 1) := fo_79 (fw_get da_cX5_begins_0 10 rfl)
theorem dX5_begins_17 : decode cX5_begins 17 = .ok (.iinc 1 1, 3) := fo_132 (fw_get da_cX5_begins_0 11 rfl) rfl (by decide +kernel)
theorem dX5_begins_20 : decode cX5_begins 20 = .ok (.goto (-18), 3) := fo_167 (fw_get da_cX5_begins_0 12 rfl) (by decide +kernel)
theorem dX5_begins_23 : decode cX5_begins 23 = .ok (.aload_n 0, 1) := fo_42 (fw_get da_cX5_begins_0 13 rfl)
theorem dX5_begins_24 : decode cX5_begins 24 = .ok (.iconst 0, 1) := fo_3 (fw_get da_cX5_begins_0 14 rfl)
theorem dX5_begins_25 : decode cX5_begins 25 = .ok (.putfield 210, 3) := fo_181 (fw_get da_cX5_begins_0 15 rfl)
theorem dX5_begins_28 : decode cX5_begins 28 = .ok (.return_, 1) := fo_177 (fw_get da_cX5_begins_0 16 rfl)
def dt_cX5_goesOn_0 : List (Nat × Nat × Nat × Nat) := [(0, 42, 0, 0), (1, 180, 2, 71), (4, 27, 0, 0), (5, 4, 0, 0), (6, 100, 0, 0), (7, 46, 0, 0), (8, 62, 0, 0), (9, 42, 0, 0), (10, 180, 2, 74), (13, 29, 0, 0), (14, 92, 0, 0), (15, 46, 0, 0), (16, 4, 0, 0), (17, 96, 0, 0), (18, 79, 0, 0), (19, 42, 0, 0), (20, 180, 2, 74), (23, 29, 0, 0), (24, 46, 0, 0), (25, 42, 0, 0)]
theorem da_cX5_goesOn_0 : fw dt_cX5_goesOn_0 0 cX5_goesOn.data.toList = true := by decide +kernel
theorem dX5_goesOn_0 : decode cX5_goesOn 0 = .ok (.aload_n 0, 1) := fo_42 (fw_get da_cX5_goesOn_0 0 rfl)
theorem dX5_goesOn_1 : decode cX5_goesOn 1 = .ok (.getfield 71, 3) := fo_180 (fw_get da_cX5_goesOn_0 1 rfl)
theorem dX5_goesOn_4 : decode cX5_goesOn 4 = .ok (.iload_n 1, 1) := fo_27 (fw_get da_cX5_goesOn_0 2 rfl)
theorem dX5_goesOn_5 : decode cX5_goesOn 5 = .ok (.iconst 1, 1) := fo_4 (fw_get da_cX5_goesOn_0 3 rfl)
theorem dX5_goesOn_6 : decode cX5_goesOn 6 = .ok (.isub, 1) := fo_100 (fw_get da_cX5_goesOn_0 4 rfl)
theorem dX5_goesOn_7 : decode cX5_goesOn 7 = .ok (.iaload, 1) := fo_46 (fw_get da_cX5_goesOn_0 5 rfl)
theorem dX5_goesOn_8 : decode cX5_goesOn 8 = .ok (.istore_n 3, 1) := fo_62 (fw_get da_cX5_goesOn_0 6 rfl)
theorem dX5_goesOn_9 : decode cX5_goesOn 9 = .ok (.aload_n 0, 1) := fo_42 (fw_get da_cX5_goesOn_0 7 rfl)
theorem dX5_goesOn_10 : decode cX5_goesOn 10 = .ok (.getfield 74, 3) := fo_180 (fw_get da_cX5_goesOn_0 8 rfl)
theorem dX5_goesOn_13 : decode cX5_goesOn 13 = .ok (.iload_n 3, 1) := fo_29 (fw_get da_cX5_goesOn_0 9 rfl)
theorem dX5_goesOn_14 : decode cX5_goesOn 14 = .ok (.dup2, 1) := fo_92 (fw_get da_cX5_goesOn_0 10 rfl)
theorem dX5_goesOn_15 : decode cX5_goesOn 15 = .ok (.iaload, 1) := fo_46 (fw_get da_cX5_goesOn_0 11 rfl)
theorem dX5_goesOn_16 : decode cX5_goesOn 16 = .ok (.iconst 1, 1) := fo_4 (fw_get da_cX5_goesOn_0 12 rfl)
theorem dX5_goesOn_17 : decode cX5_goesOn 17 = .ok (.iadd, 1) := fo_96 (fw_get da_cX5_goesOn_0 13 rfl)
theorem dX5_goesOn_18 : decode cX5_goesOn 18 = .ok (.iastore, 1) := fo_79 (fw_get da_cX5_goesOn_0 14 rfl)
theorem dX5_goesOn_19 : decode cX5_goesOn 19 = .ok (.aload_n 0, 1) := fo_42 (fw_get da_cX5_goesOn_0 15 rfl)
theorem dX5_goesOn_20 : decode cX5_goesOn 20 = .ok (.getfield 74, 3) := fo_180 (fw_get da_cX5_goesOn_0 16 rfl)
theorem dX5_goesOn_23 : decode cX5_goesOn 23 = .ok (.iload_n 3, 1) := fo_29 (fw_get da_cX5_goesOn_0 17 rfl)
theorem dX5_goesOn_24 : decode cX5_goesOn 24 = .ok (.iaload, 1) := fo_46 (fw_get da_cX5_goesOn_0 18 rfl)
theorem dX5_goesOn_25 : decode cX5_goesOn 25 = .ok (.aload_n 0, 1) := fo_42 (fw_get da_cX5_goesOn_0 19 rfl)
def dt_cX5_goesOn_1 : List (Nat × Nat × Nat × Nat) := [(26, 180, 2, 210), (29, 164, 2, 13), (32, 42, 0, 0), (33, 42, 0, 0), (34, 180, 2, 74), (37, 29, 0, 0), (38, 46, 0, 0), (39, 181, 2, 210), (42, 5, 0, 0), (43, 42, 0, 0), (44, 180, 2, 210), (47, 104, 0, 0), (48, 27, 0, 0), (49, 28, 0, 0), (50, 100, 0, 0), (51, 164, 2, 7), (54, 4, 0, 0), (55, 167, 2, 4), (58, 3, 0, 0), (59, 172, 0, 0)]
theorem da_cX5_goesOn_1 : fw dt_cX5_goesOn_1 0 cX5_goesOn.data.toList = true := by decide +kernel
theorem dX5_goesOn_26 : decode cX5_goesOn 26 = .ok (.getfield 210, 3) := fo_180 (fw_get da_cX5_goesOn_1 0 rfl)
theorem dX5_goesOn_29 : decode cX5_goesOn 29 = .ok (.if_icmp .le 13, 3) := fo_164 (fw_get da_cX5_goesOn_1 1 rfl) (by decide +kernel)
theorem dX5_goesOn_32 : decode cX5_goesOn 32 = .ok (.aload_n 0, 1) := fo_42 (fw_get da_cX5_goesOn_1 2 rfl)
theorem dX5_goesOn_33 : decode cX5_goesOn 33 = .ok (.aload_n 0, 1) := fo_42 (fw_get da_cX5_goesOn_1 3 rfl)
theorem dX5_goesOn_34 : decode cX5_goesOn 34 = .ok (.getfield 74, 3) := fo_180 (fw_get da_cX5_goesOn_1 4 rfl)
theorem dX5_goesOn_37 : decode cX5_goesOn 37 = .ok (.iload_n 3, 1) := fo_29 (fw_get da_cX5_goesOn_1 5 rfl)
theorem dX5_goesOn_38 : decode cX5_goesOn 38 = .ok (.iaload, 1) := fo_46 (fw_get da_cX5_goesOn_1 6 rfl)
theorem dX5_goesOn_39 : decode cX5_goesOn 39 = .ok (.putfield 210, 3) := fo_181 (fw_get da_cX5_goesOn_1 7 rfl)
theorem dX5_goesOn_42 : decode cX5_goesOn 42 = .ok (.iconst 2, 1) := fo_5 (fw_get da_cX5_goesOn_1 8 rfl)
theorem dX5_goesOn_43 : decode cX5_goesOn 43 = .ok (.aload_n 0, 1) := fo_42 (fw_get da_cX5_goesOn_1 9 rfl)
theorem dX5_goesOn_44 : decode cX5_goesOn 44 = .ok (.getfield 210, 3) := fo_180 (fw_get da_cX5_goesOn_1 10 rfl)
theorem dX5_goesOn_47 : decode cX5_goesOn 47 = .ok (.imul, 1) := fo_104 (fw_get da_cX5_goesOn_1 11 rfl)
theorem dX5_goesOn_48 : decode cX5_goesOn 48 = .ok (.iload_n 1, 1) := fo_27 (fw_get da_cX5_goesOn_1 12 rfl)
theorem dX5_goesOn_49 : decode cX5_goesOn 49 = .ok (.iload_n 2, 1) := fo_28 (fw_get da_cX5_goesOn_1 13 rfl)
theorem dX5_goesOn_50 : decode cX5_goesOn 50 = .ok (.isub, 1) := fo_100 (fw_get da_cX5_goesOn_1 14 rfl)
theorem dX5_goesOn_51 : decode cX5_goesOn 51 = .ok (.if_icmp .le 7, 3) := fo_164 (fw_get da_cX5_goesOn_1 15 rfl) (by decide +kernel)
theorem dX5_goesOn_54 : decode cX5_goesOn 54 = .ok (.iconst 1, 1) := fo_4 (fw_get da_cX5_goesOn_1 16 rfl)
theorem dX5_goesOn_55 : decode cX5_goesOn 55 = .ok (.goto 4, 3) := fo_167 (fw_get da_cX5_goesOn_1 17 rfl) (by decide +kernel)
theorem dX5_goesOn_58 : decode cX5_goesOn 58 = .ok (.iconst 0, 1) := fo_3 (fw_get da_cX5_goesOn_1 18 rfl)
theorem dX5_goesOn_59 : decode cX5_goesOn 59 = .ok (.ireturn, 1) := fo_172 (fw_get da_cX5_goesOn_1 19 rfl)
set_option maxRecDepth 20000 in
theorem ggX5_majorities_X5_laysNumbers : GoodIn wsX5_majorities wsX5_laysNumbers := goodIn_r _ [7, 2, 8, 9, 20, 21, 22, 23, 24, 25, 26, 27, 28, 29, 30, 31, 32, 33, 34, 35, 36, 37, 38, 39, 40, 41, 42, 43, 44, 45, 46, 47, 48, 49] rfl (by decide +kernel)
set_option maxRecDepth 20000 in
theorem gX5_majorities_X5_laysNumbers : GoodIn wsX5_majorities (wsV RX5 201 RX5 yX5_laysNumbers wsX5_laysNumbers) := goodIn_app (goodIn_r _ [3, 4, 5, 6] rfl (by decide +kernel)) ggX5_majorities_X5_laysNumbers
set_option maxRecDepth 20000 in
theorem ggX5_majorities_X5_begins : GoodIn wsX5_majorities wsX5_begins := goodIn_r _ [13, 2, 14, 15, 20, 21, 22, 23, 24, 25, 26, 27, 28, 29, 30, 31, 32, 33, 34, 35, 36, 37, 38, 39, 40, 41, 42, 43, 44, 45, 46, 47, 48, 49] rfl (by decide +kernel)
set_option maxRecDepth 20000 in
theorem gX5_majorities_X5_begins : GoodIn wsX5_majorities (wsV RX5 204 RX5 yX5_begins wsX5_begins) := goodIn_app (goodIn_r _ [10, 11, 12, 6] rfl (by decide +kernel)) ggX5_majorities_X5_begins
set_option maxRecDepth 20000 in
theorem ggX5_majorities_X5_goesOn : GoodIn wsX5_majorities wsX5_goesOn := goodIn_r _ [19, 9, 14, 15, 20, 21, 22, 23, 24, 25, 26, 27, 28, 29, 30, 31, 32, 33, 34, 35, 36, 37, 38, 39, 40, 41, 42, 43, 44, 45, 46, 47, 48, 49] rfl (by decide +kernel)
set_option maxRecDepth 20000 in
theorem gX5_majorities_X5_goesOn : GoodIn wsX5_majorities (wsV RX5 207 RX5 yX5_goesOn wsX5_goesOn) := goodIn_app (goodIn_r _ [16, 17, 18, 6] rfl (by decide +kernel)) ggX5_majorities_X5_goesOn
def dt_cX5_majorities_0 : List (Nat × Nat × Nat × Nat) := [(0, 42, 0, 0), (1, 3, 0, 0), (2, 181, 2, 77), (5, 42, 0, 0), (6, 182, 2, 201), (9, 3, 0, 0), (10, 60, 0, 0), (11, 3, 0, 0), (12, 61, 0, 0), (13, 28, 0, 0), (14, 42, 0, 0), (15, 180, 2, 84), (18, 162, 2, 43), (21, 42, 0, 0), (22, 182, 2, 204), (25, 28, 0, 0), (26, 4, 0, 0), (27, 96, 0, 0), (28, 62, 0, 0), (29, 29, 0, 0)]
theorem da_cX5_majorities_0 : fw dt_cX5_majorities_0 0 cX5_majorities.data.toList = true := by decide +kernel
theorem dX5_majorities_0 : decode cX5_majorities 0 = .ok (.aload_n 0, 1) := fo_42 (fw_get da_cX5_majorities_0 0 rfl)
theorem dX5_majorities_1 : decode cX5_majorities 1 = .ok (.iconst 0, 1) := fo_3 (fw_get da_cX5_majorities_0 1 rfl)
theorem dX5_majorities_2 : decode cX5_majorities 2 = .ok (.putfield 77, 3) := fo_181 (fw_get da_cX5_majorities_0 2 rfl)
theorem dX5_majorities_5 : decode cX5_majorities 5 = .ok (.aload_n 0, 1) := fo_42 (fw_get da_cX5_majorities_0 3 rfl)
theorem dX5_majorities_6 : decode cX5_majorities 6 = .ok (.invokevirtual 201, 3) := fo_182 (fw_get da_cX5_majorities_0 4 rfl)
theorem dX5_majorities_9 : decode cX5_majorities 9 = .ok (.iconst 0, 1) := fo_3 (fw_get da_cX5_majorities_0 5 rfl)
theorem dX5_majorities_10 : decode cX5_majorities 10 = .ok (.istore_n 1, 1) := fo_60 (fw_get da_cX5_majorities_0 6 rfl)
theorem dX5_majorities_11 : decode cX5_majorities 11 = .ok (.iconst 0, 1) := fo_3 (fw_get da_cX5_majorities_0 7 rfl)
theorem dX5_majorities_12 : decode cX5_majorities 12 = .ok (.istore_n 2, 1) := fo_61 (fw_get da_cX5_majorities_0 8 rfl)
theorem dX5_majorities_13 : decode cX5_majorities 13 = .ok (.iload_n 2, 1) := fo_28 (fw_get da_cX5_majorities_0 9 rfl)
theorem dX5_majorities_14 : decode cX5_majorities 14 = .ok (.aload_n 0, 1) := fo_42 (fw_get da_cX5_majorities_0 10 rfl)
theorem dX5_majorities_15 : decode cX5_majorities 15 = .ok (.getfield 84, 3) := fo_180 (fw_get da_cX5_majorities_0 11 rfl)
theorem dX5_majorities_18 : decode cX5_majorities 18 = .ok (.if_icmp .ge 43, 3) := fo_162 (fw_get da_cX5_majorities_0 12 rfl) (by decide +kernel)
theorem dX5_majorities_21 : decode cX5_majorities 21 = .ok (.aload_n 0, 1) := fo_42 (fw_get da_cX5_majorities_0 13 rfl)
theorem dX5_majorities_22 : decode cX5_majorities 22 = .ok (.invokevirtual 204, 3) := fo_182 (fw_get da_cX5_majorities_0 14 rfl)
theorem dX5_majorities_25 : decode cX5_majorities 25 = .ok (.iload_n 2, 1) := fo_28 (fw_get da_cX5_majorities_0 15 rfl)
theorem dX5_majorities_26 : decode cX5_majorities 26 = .ok (.iconst 1, 1) := fo_4 (fw_get da_cX5_majorities_0 16 rfl)
theorem dX5_majorities_27 : decode cX5_majorities 27 = .ok (.iadd, 1) := fo_96 (fw_get da_cX5_majorities_0 17 rfl)
theorem dX5_majorities_28 : decode cX5_majorities 28 = .ok (.istore_n 3, 1) := fo_62 (fw_get da_cX5_majorities_0 18 rfl)
theorem dX5_majorities_29 : decode cX5_majorities 29 = .ok (.iload_n 3, 1) := fo_29 (fw_get da_cX5_majorities_0 19 rfl)
def dt_cX5_majorities_1 : List (Nat × Nat × Nat × Nat) := [(30, 42, 0, 0), (31, 180, 2, 84), (34, 163, 2, 21), (37, 42, 0, 0), (38, 29, 0, 0), (39, 28, 0, 0), (40, 182, 2, 207), (43, 153, 2, 6), (46, 132, 2, 257), (49, 132, 2, 769), (52, 167, 2, 65513), (55, 132, 2, 513), (58, 167, 2, 65491), (61, 27, 0, 0), (62, 172, 0, 0)]
theorem da_cX5_majorities_1 : fw dt_cX5_majorities_1 0 cX5_majorities.data.toList = true := by decide +kernel
theorem dX5_majorities_30 : decode cX5_majorities 30 = .ok (.aload_n 0, 1) := fo_42 (fw_get da_cX5_majorities_1 0 rfl)
theorem dX5_majorities_31 : decode cX5_majorities 31 = .ok (.getfield 84, 3) := fo_180 (fw_get da_cX5_majorities_1 1 rfl)
theorem dX5_majorities_34 : decode cX5_majorities 34 = .ok (.if_icmp .gt 21, 3) := fo_163 (fw_get da_cX5_majorities_1 2 rfl) (by decide +kernel)
theorem dX5_majorities_37 : decode cX5_majorities 37 = .ok (.aload_n 0, 1) := fo_42 (fw_get da_cX5_majorities_1 3 rfl)
theorem dX5_majorities_38 : decode cX5_majorities 38 = .ok (.iload_n 3, 1) := fo_29 (fw_get da_cX5_majorities_1 4 rfl)
theorem dX5_majorities_39 : decode cX5_majorities 39 = .ok (.iload_n 2, 1) := fo_28 (fw_get da_cX5_majorities_1 5 rfl)
theorem dX5_majorities_40 : decode cX5_majorities 40 = .ok (.invokevirtual 207, 3) := fo_182 (fw_get da_cX5_majorities_1 6 rfl)
theorem dX5_majorities_43 : decode cX5_majorities 43 = .ok (.ifCond .eq 6, 3) := fo_153 (fw_get da_cX5_majorities_1 7 rfl) (by decide +kernel)
theorem dX5_majorities_46 : decode cX5_majorities 46 = .ok (.iinc 1 1, 3) := fo_132 (fw_get da_cX5_majorities_1 8 rfl) rfl (by decide +kernel)
theorem dX5_majorities_49 : decode cX5_majorities 49 = .ok (.iinc 3 1, 3) := fo_132 (fw_get da_cX5_majorities_1 9 rfl) rfl (by decide +kernel)
theorem dX5_majorities_52 : decode cX5_majorities 52 = .ok (.goto (-23), 3) := fo_167 (fw_get da_cX5_majorities_1 10 rfl) (by decide +kernel)
theorem dX5_majorities_55 : decode cX5_majorities 55 = .ok (.iinc 2 1, 3) := fo_132 (fw_get da_cX5_majorities_1 11 rfl) rfl (by decide +kernel)
theorem dX5_majorities_58 : decode cX5_majorities 58 = .ok (.goto (-45), 3) := fo_167 (fw_get da_cX5_majorities_1 12 rfl) (by decide +kernel)
theorem dX5_majorities_61 : decode cX5_majorities 61 = .ok (.iload_n 1, 1) := fo_27 (fw_get da_cX5_majorities_1 13 rfl)
theorem dX5_majorities_62 : decode cX5_majorities 62 = .ok (.ireturn, 1) := fo_172 (fw_get da_cX5_majorities_1 14 rfl)

