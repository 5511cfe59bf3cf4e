abbrev cX5_comes : ByteArray := prog_7_method_53_code
def yX5_comes : MethodName := ⟨RX5, "comes", "(II)V"⟩
abbrev cX5_laysHeavy : ByteArray := prog_7_method_54_code
def yX5_laysHeavy : MethodName := ⟨RX5, "laysHeavy", "(IIIIII)V"⟩
abbrev cX5_heavy : ByteArray := prog_7_method_56_code
def yX5_heavy : MethodName := ⟨RX5, "heavy", "(IIII)I"⟩
abbrev cX5_heavyAt : ByteArray := prog_7_method_57_code
def yX5_heavyAt : MethodName := ⟨RX5, "heavyAt", "(IIIIII)I"⟩
abbrev cX5_both : ByteArray := prog_7_method_63_code
def yX5_both : MethodName := ⟨RX5, "both", "(IIIIII)I"⟩
abbrev cX5_bothAt : ByteArray := prog_7_method_64_code
def yX5_bothAt : MethodName := ⟨RX5, "bothAt", "(IIIIIII)I"⟩
def wsX5_comes : List Cond := .code yX5_comes cX5_comes 4 none :: ([.fieldLink RX5 178 "MajorityIndexModel" "heavyMany" "I", .fieldLink RX5 65 "MajorityIndexModel" "heavyTimes" "[I", .fieldLink RX5 62 "MajorityIndexModel" "heavyValue" "[I"] ++ wsX50)
def wsX5_laysHeavy : List Cond := .code yX5_laysHeavy cX5_laysHeavy 10 none :: ([.fieldLink RX5 178 "MajorityIndexModel" "heavyMany" "I", .fieldLink RX5 7 "MajorityIndexModel" "row" "[I", .methodLink RX5 149 yX5_times, .instanceMethod yX5_times, .selects RX5 yX5_times yX5_times, .initialized RX5, .code yX5_times cX5_times 6 (some .int), .methodLink RX5 181 yX5_comes, .instanceMethod yX5_comes, .selects RX5 yX5_comes yX5_comes, .code yX5_comes cX5_comes 4 none, .fieldLink RX5 65 "MajorityIndexModel" "heavyTimes" "[I", .fieldLink RX5 62 "MajorityIndexModel" "heavyValue" "[I"] ++ wsX50)
def wsX5_heavy_r1 : List Cond := [Cond.fieldLink RX5 77 "MajorityIndexModel" "thrown" "I", Cond.fieldLink RX5 178 "MajorityIndexModel" "heavyMany" "I", Cond.methodLink RX5 142 yX5_isRange, Cond.instanceMethod yX5_isRange, Cond.selects RX5 yX5_isRange yX5_isRange, Cond.initialized RX5, Cond.code yX5_isRange cX5_isRange 3 (some .boolean), Cond.fieldLink RX5 84 "MajorityIndexModel" "n" "I", Cond.methodLink RX5 184 yX5_isShare, Cond.static yX5_isShare, Cond.code yX5_isShare cX5_isShare 2 (some .boolean), Cond.methodLink RX5 80 yX5_within, Cond.static yX5_within, Cond.code yX5_within cX5_within 3 (some .boolean), Cond.methodLink RX5 187 yX5_isEnough, Cond.instanceMethod yX5_isEnough, Cond.selects RX5 yX5_isEnough yX5_isEnough, Cond.code yX5_isEnough cX5_isEnough 3 (some .boolean), Cond.fieldLink RX5 13 "MajorityIndexModel" "slots" "I", Cond.methodLink RX5 190 yX5_laysHeavy, Cond.instanceMethod yX5_laysHeavy, Cond.selects RX5 yX5_laysHeavy yX5_laysHeavy, Cond.code yX5_laysHeavy cX5_laysHeavy 10 none, Cond.fieldLink RX5 7 "MajorityIndexModel" "row" "[I"]
def wsX5_heavy_r2 : List Cond := [Cond.methodLink RX5 149 yX5_times, Cond.instanceMethod yX5_times, Cond.selects RX5 yX5_times yX5_times, Cond.code yX5_times cX5_times 6 (some .int), Cond.methodLink RX5 181 yX5_comes, Cond.instanceMethod yX5_comes, Cond.selects RX5 yX5_comes yX5_comes, Cond.code yX5_comes cX5_comes 4 none, Cond.fieldLink RX5 65 "MajorityIndexModel" "heavyTimes" "[I", Cond.fieldLink RX5 62 "MajorityIndexModel" "heavyValue" "[I"]
def wsX5_heavy : List Cond := .code yX5_heavy cX5_heavy 5 (some .int) :: ((wsX5_heavy_r1 ++ wsX5_heavy_r2) ++ wsX50)
def wsX5_heavyAt_r1 : List Cond := [Cond.fieldLink RX5 77 "MajorityIndexModel" "thrown" "I", Cond.fieldLink RX5 178 "MajorityIndexModel" "heavyMany" "I", Cond.fieldLink RX5 62 "MajorityIndexModel" "heavyValue" "[I", Cond.fieldLink RX5 65 "MajorityIndexModel" "heavyTimes" "[I", Cond.methodLink RX5 142 yX5_isRange, Cond.instanceMethod yX5_isRange, Cond.selects RX5 yX5_isRange yX5_isRange, Cond.initialized RX5, Cond.code yX5_isRange cX5_isRange 3 (some .boolean), Cond.fieldLink RX5 84 "MajorityIndexModel" "n" "I", Cond.methodLink RX5 184 yX5_isShare, Cond.static yX5_isShare, Cond.code yX5_isShare cX5_isShare 2 (some .boolean), Cond.methodLink RX5 80 yX5_within, Cond.static yX5_within, Cond.code yX5_within cX5_within 3 (some .boolean), Cond.methodLink RX5 187 yX5_isEnough, Cond.instanceMethod yX5_isEnough, Cond.selects RX5 yX5_isEnough yX5_isEnough, Cond.code yX5_isEnough cX5_isEnough 3 (some .boolean), Cond.fieldLink RX5 13 "MajorityIndexModel" "slots" "I", Cond.methodLink RX5 190 yX5_laysHeavy, Cond.instanceMethod yX5_laysHeavy, Cond.selects RX5 yX5_laysHeavy yX5_laysHeavy]
def wsX5_heavyAt_r2 : List Cond := [Cond.code yX5_laysHeavy cX5_laysHeavy 10 none, Cond.fieldLink RX5 7 "MajorityIndexModel" "row" "[I", Cond.methodLink RX5 149 yX5_times, Cond.instanceMethod yX5_times, Cond.selects RX5 yX5_times yX5_times, Cond.code yX5_times cX5_times 6 (some .int), Cond.methodLink RX5 181 yX5_comes, Cond.instanceMethod yX5_comes, Cond.selects RX5 yX5_comes yX5_comes, Cond.code yX5_comes cX5_comes 4 none]
def wsX5_heavyAt : List Cond := .code yX5_heavyAt cX5_heavyAt 7 (some .int) :: ((wsX5_heavyAt_r1 ++ wsX5_heavyAt_r2) ++ wsX50)
def wsX5_both_r1 : List Cond := [Cond.fieldLink RX5 77 "MajorityIndexModel" "thrown" "I", Cond.fieldLink RX5 178 "MajorityIndexModel" "heavyMany" "I", Cond.methodLink RX5 142 yX5_isRange, Cond.instanceMethod yX5_isRange, Cond.selects RX5 yX5_isRange yX5_isRange, Cond.initialized RX5, Cond.code yX5_isRange cX5_isRange 3 (some .boolean), Cond.fieldLink RX5 84 "MajorityIndexModel" "n" "I", Cond.methodLink RX5 184 yX5_isShare, Cond.static yX5_isShare, Cond.code yX5_isShare cX5_isShare 2 (some .boolean), Cond.methodLink RX5 80 yX5_within, Cond.static yX5_within, Cond.code yX5_within cX5_within 3 (some .boolean), Cond.methodLink RX5 187 yX5_isEnough, Cond.instanceMethod yX5_isEnough, Cond.selects RX5 yX5_isEnough yX5_isEnough, Cond.code yX5_isEnough cX5_isEnough 3 (some .boolean), Cond.fieldLink RX5 13 "MajorityIndexModel" "slots" "I", Cond.methodLink RX5 190 yX5_laysHeavy, Cond.instanceMethod yX5_laysHeavy, Cond.selects RX5 yX5_laysHeavy yX5_laysHeavy, Cond.code yX5_laysHeavy cX5_laysHeavy 10 none, Cond.fieldLink RX5 7 "MajorityIndexModel" "row" "[I"]
def wsX5_both_r2 : List Cond := [Cond.methodLink RX5 149 yX5_times, Cond.instanceMethod yX5_times, Cond.selects RX5 yX5_times yX5_times, Cond.code yX5_times cX5_times 6 (some .int), Cond.methodLink RX5 181 yX5_comes, Cond.instanceMethod yX5_comes, Cond.selects RX5 yX5_comes yX5_comes, Cond.code yX5_comes cX5_comes 4 none, Cond.fieldLink RX5 65 "MajorityIndexModel" "heavyTimes" "[I", Cond.fieldLink RX5 62 "MajorityIndexModel" "heavyValue" "[I"]
def wsX5_both : List Cond := .code yX5_both cX5_both 7 (some .int) :: ((wsX5_both_r1 ++ wsX5_both_r2) ++ wsX50)
def wsX5_bothAt_r1 : List Cond := [Cond.fieldLink RX5 62 "MajorityIndexModel" "heavyValue" "[I", Cond.constant RX5 148 (-40000), Cond.methodLink RX5 197 yX5_both, Cond.instanceMethod yX5_both, Cond.selects RX5 yX5_both yX5_both, Cond.initialized RX5, Cond.code yX5_both cX5_both 7 (some .int), Cond.fieldLink RX5 77 "MajorityIndexModel" "thrown" "I", Cond.fieldLink RX5 178 "MajorityIndexModel" "heavyMany" "I", Cond.methodLink RX5 142 yX5_isRange, Cond.instanceMethod yX5_isRange, Cond.selects RX5 yX5_isRange yX5_isRange, Cond.code yX5_isRange cX5_isRange 3 (some .boolean), Cond.fieldLink RX5 84 "MajorityIndexModel" "n" "I", Cond.methodLink RX5 184 yX5_isShare, Cond.static yX5_isShare, Cond.code yX5_isShare cX5_isShare 2 (some .boolean), Cond.methodLink RX5 80 yX5_within, Cond.static yX5_within, Cond.code yX5_within cX5_within 3 (some .boolean), Cond.methodLink RX5 187 yX5_isEnough, Cond.instanceMethod yX5_isEnough, Cond.selects RX5 yX5_isEnough yX5_isEnough, Cond.code yX5_isEnough cX5_isEnough 3 (some .boolean)]
def wsX5_bothAt_r2 : List Cond := [Cond.fieldLink RX5 13 "MajorityIndexModel" "slots" "I", Cond.methodLink RX5 190 yX5_laysHeavy, Cond.instanceMethod yX5_laysHeavy, Cond.selects RX5 yX5_laysHeavy yX5_laysHeavy, Cond.code yX5_laysHeavy cX5_laysHeavy 10 none, Cond.fieldLink RX5 7 "MajorityIndexModel" "row" "[I", Cond.methodLink RX5 149 yX5_times, Cond.instanceMethod yX5_times, Cond.selects RX5 yX5_times yX5_times, Cond.code yX5_times cX5_times 6 (some .int), Cond.methodLink RX5 181 yX5_comes, Cond.instanceMethod yX5_comes, Cond.selects RX5 yX5_comes yX5_comes, Cond.code yX5_comes cX5_comes 4 none, Cond.fieldLink RX5 65 "MajorityIndexModel" "heavyTimes" "[I"]
def wsX5_bothAt : List Cond := .code yX5_bothAt cX5_bothAt 9 (some .int) :: ((wsX5_bothAt_r1 ++ wsX5_bothAt_r2) ++ wsX50)
def dt_cX5_comes_0 : List (Nat × Instr × Nat) := [(0, .aload_n 0, 1), (1, .getfield 178, 3), (4, .istore_n 3, 1), (5, .iload_n 3, 1), (6, .ifCond .le 73, 3), (9, .aload_n 0, 1), (10, .getfield 65, 3), (13, .iload_n 3, 1), (14, .iconst 1, 1), (15, .isub, 1), (16, .iaload, 1), (17, .iload_n 2, 1), (18, .if_icmp .lt 27, 3), (21, .aload_n 0, 1), (22, .getfield 65, 3), (25, .iload_n 3, 1), (26, .iconst 1, 1), (27, .isub, 1), (28, .iaload, 1), (29, .iload_n 2, 1), (30, .if_icmp .ne 49, 3), (33, .aload_n 0, 1), (34, .getfield 62, 3), (37, .iload_n 3, 1), (38, .iconst 1, 1), (39, .isub, 1), (40, .iaload, 1), (41, .iload_n 1, 1), (42, .if_icmp .le 37, 3), (45, .aload_n 0, 1), (46, .getfield 62, 3), (49, .iload_n 3, 1), (50, .aload_n 0, 1), (51, .getfield 62, 3), (54, .iload_n 3, 1), (55, .iconst 1, 1), (56, .isub, 1), (57, .iaload, 1), (58, .iastore, 1), (59, .aload_n 0, 1), (60, .getfield 65, 3), (63, .iload_n 3, 1), (64, .aload_n 0, 1), (65, .getfield 65, 3), (68, .iload_n 3, 1), (69, .iconst 1, 1), (70, .isub, 1), (71, .iaload, 1), (72, .iastore, 1), (73, .iinc 3 (-1), 3), (76, .goto (-71), 3), (79, .aload_n 0, 1), (80, .getfield 62, 3), (83, .iload_n 3, 1), (84, .iload_n 1, 1), (85, .iastore, 1), (86, .aload_n 0, 1), (87, .getfield 65, 3), (90, .iload_n 3, 1), (91, .iload_n 2, 1)]
theorem da_cX5_comes_0 : dk_all cX5_comes dt_cX5_comes_0 = true := by decide +kernel
theorem dX5_comes_0 : decode cX5_comes 0 = .ok (.aload_n 0, 1) := dk_get _ da_cX5_comes_0 0 _ _ _ rfl
theorem dX5_comes_1 : decode cX5_comes 1 = .ok (.getfield 178, 3) := dk_get _ da_cX5_comes_0 1 _ _ _ rfl
theorem dX5_comes_4 : decode cX5_comes 4 = .ok (.istore_n 3, 1) := dk_get _ da_cX5_comes_0 2 _ _ _ rfl
theorem dX5_comes_5 : decode cX5_comes 5 = .ok (.iload_n 3, 1) := dk_get _ da_cX5_comes_0 3 _ _ _ rfl
theorem dX5_comes_6 : decode cX5_comes 6 = .ok (.ifCond .le 73, 3) := dk_get _ da_cX5_comes_0 4 _ _ _ rfl
theorem dX5_comes_9 : decode cX5_comes 9 = .ok (.aload_n 0, 1) := dk_get _ da_cX5_comes_0 5 _ _ _ rfl
theorem dX5_comes_10 : decode cX5_comes 10 = .ok (.getfield 65, 3) := dk_get _ da_cX5_comes_0 6 _ _ _ rfl
theorem dX5_comes_13 : decode cX5_comes 13 = .ok (.iload_n 3, 1) := dk_get _ da_cX5_comes_0 7 _ _ _ rfl
theorem dX5_comes_14 : decode cX5_comes 14 = .ok (.iconst 1, 1) := dk_get _ da_cX5_comes_0 8 _ _ _ rfl
theorem dX5_comes_15 : decode cX5_comes 15 = .ok (.isub, 1) := dk_get _ da_cX5_comes_0 9 _ _ _ rfl
theorem dX5_comes_16 : decode cX5_comes 16 = .ok (.iaload, 1) := dk_get _ da_cX5_comes_0 10 _ _ _ rfl
theorem dX5_comes_17 : decode cX5_comes 17 = .ok (.iload_n 2, 1) := dk_get _ da_cX5_comes_0 11 _ _ _ rfl
theorem dX5_comes_18 : decode cX5_comes 18 = .ok (.if_icmp .lt 27, 3) := dk_get _ da_cX5_comes_0 12 _ _ _ rfl
theorem dX5_comes_21 : decode cX5_comes 21 = .ok (.aload_n 0, 1) := dk_get _ da_cX5_comes_0 13 _ _ _ rfl
theorem dX5_comes_22 : decode cX5_comes 22 = .ok (.getfield 65, 3) := dk_get _ da_cX5_comes_0 14 _ _ _ rfl
theorem dX5_comes_25 : decode cX5_comes 25 = .ok (.iload_n 3, 1) := dk_get _ da_cX5_comes_0 15 _ _ _ rfl
theorem dX5_comes_26 : decode cX5_comes 26 = .ok (.iconst 1, 1) := dk_get _ da_cX5_comes_0 16 _ _ _ rfl
theorem dX5_comes_27 : decode cX5_comes 27 = .ok (.isub, 1) := dk_get _ da_cX5_comes_0 17 _ _ _ rfl
theorem dX5_comes_28 : decode cX5_comes 28 = .ok (.iaload, 1) := dk_get _ da_cX5_comes_0 18 _ _ _ rfl
theorem dX5_comes_29 : decode cX5_comes 29 = .ok (.iload_n 2, 1) := dk_get _ da_cX5_comes_0 19 _ _ _ rfl
theorem dX5_comes_30 : decode cX5_comes 30 = .ok (.if_icmp .ne 49, 3) := dk_get _ da_cX5_comes_0 20 _ _ _ rfl
theorem dX5_comes_33 : decode cX5_comes 33 = .ok (.aload_n 0, 1) := dk_get _ da_cX5_comes_0 21 _ _ _ rfl
theorem dX5_comes_34 : decode cX5_comes 34 = .ok (.getfield 62, 3) := dk_get _ da_cX5_comes_0 22 _ _ _ rfl
theorem dX5_comes_37 : decode cX5_comes 37 = .ok (.iload_n 3, 1) := dk_get _ da_cX5_comes_0 23 _ _ _ rfl
theorem dX5_comes_38 : decode cX5_comes 38 = .ok (.iconst 1, 1) := dk_get _ da_cX5_comes_0 24 _ _ _ rfl
theorem dX5_comes_39 : decode cX5_comes 39 = .ok (.isub, 1) := dk_get _ da_cX5_comes_0 25 _ _ _ rfl
theorem dX5_comes_40 : decode cX5_comes 40 = .ok (.iaload, 1) := dk_get _ da_cX5_comes_0 26 _ _ _ rfl
theorem dX5_comes_41 : decode cX5_comes 41 = .ok (.iload_n 1, 1) := dk_get _ da_cX5_comes_0 27 _ _ _ rfl
theorem dX5_comes_42 : decode cX5_comes 42 = .ok (.if_icmp .le 37, 3) := dk_get _ da_cX5_comes_0 28 _ _ _ rfl
theorem dX5_comes_45 : decode cX5_comes 45 = .ok (.aload_n 0, 1) := dk_get _ da_cX5_comes_0 29 _ _ _ rfl
theorem dX5_comes_46 : decode cX5_comes 46 = .ok (.getfield 62, 3) := dk_get _ da_cX5_comes_0 30 _ _ _ rfl
theorem dX5_comes_49 : decode cX5_comes 49 = .ok (.iload_n 3, 1) := dk_get _ da_cX5_comes_0 31 _ _ _ rfl
theorem dX5_comes_50 : decode cX5_comes 50 = .ok (.aload_n 0, 1) := dk_get _ da_cX5_comes_0 32 _ _ _ rfl
theorem dX5_comes_51 : decode cX5_comes 51 = .ok (.getfield 62, 3) := dk_get _ da_cX5_comes_0 33 _ _ _ rfl
theorem dX5_comes_54 : decode cX5_comes 54 = .ok (.iload_n 3, 1) := dk_get _ da_cX5_comes_0 34 _ _ _ rfl
theorem dX5_comes_55 : decode cX5_comes 55 = .ok (.iconst 1, 1) := dk_get _ da_cX5_comes_0 35 _ _ _ rfl
theorem dX5_comes_56 : decode cX5_comes 56 = .ok (.isub, 1) := dk_get _ da_cX5_comes_0 36 _ _ _ rfl
theorem dX5_comes_57 : decode cX5_comes 57 = .ok (.iaload, 1) := dk_get _ da_cX5_comes_0 37 _ _ _ rfl
theorem dX5_comes_58 : decode cX5_comes 58 = .ok (.iastore, 1) := dk_get _ da_cX5_comes_0 38 _ _ _ rfl
theorem dX5_comes_59 : decode cX5_comes 59 = .ok (.aload_n 0, 1) := dk_get _ da_cX5_comes_0 39 _ _ _ rfl
theorem dX5_comes_60 : decode cX5_comes 60 = .ok (.getfield 65, 3) := dk_get _ da_cX5_comes_0 40 _ _ _ rfl
theorem dX5_comes_63 : decode cX5_comes 63 = .ok (.iload_n 3, 1) := dk_get _ da_cX5_comes_0 41 _ _ _ rfl
theorem dX5_comes_64 : decode cX5_comes 64 = .ok (.aload_n 0, 1) := dk_get _ da_cX5_comes_0 42 _ _ _ rfl
theorem dX5_comes_65 : decode cX5_comes 65 = .ok (.getfield 65, 3) := dk_get _ da_cX5_comes_0 43 _ _ _ rfl
theorem dX5_comes_68 : decode cX5_comes 68 = .ok (.iload_n 3, 1) := dk_get _ da_cX5_comes_0 44 _ _ _ rfl
theorem dX5_comes_69 : decode cX5_comes 69 = .ok (.iconst 1, 1) := dk_get _ da_cX5_comes_0 45 _ _ _ rfl
theorem dX5_comes_70 : decode cX5_comes 70 = .ok (.isub, 1) := dk_get _ da_cX5_comes_0 46 _ _ _ rfl
theorem dX5_comes_71 : decode cX5_comes 71 = .ok (.iaload, 1) := dk_get _ da_cX5_comes_0 47 _ _ _ rfl
theorem dX5_comes_72 : decode cX5_comes 72 = .ok (.iastore, 1) := dk_get _ da_cX5_comes_0 48 _ _ _ rfl
theorem dX5_comes_73 : decode cX5_comes 73 = .ok (.iinc 3 (-1), 3) := dk_get _ da_cX5_comes_0 49 _ _ _ rfl
theorem dX5_comes_76 : decode cX5_comes 76 = .ok (.goto (-71), 3) := dk_get _ da_cX5_comes_0 50 _ _ _ rfl
theorem dX5_comes_79 : decode cX5_comes 79 = .ok (.aload_n 0, 1) := dk_get _ da_cX5_comes_0 51 _ _ _ rfl
theorem dX5_comes_80 : decode cX5_comes 80 = .ok (.getfield 62, 3) := dk_get _ da_cX5_comes_0 52 _ _ _ rfl
theorem dX5_comes_83 : decode cX5_comes 83 = .ok (.iload_n 3, 1) := dk_get _ da_cX5_comes_0 53 _ _ _ rfl
theorem dX5_comes_84 : decode cX5_comes 84 = .ok (.iload_n 1, 1) := dk_get _ da_cX5_comes_0 54 _ _ _ rfl
theorem dX5_comes_85 : decode cX5_comes 85 = .ok (.iastore, 1) := dk_get _ da_cX5_comes_0 55 _ _ _ rfl
theorem dX5_comes_86 : decode cX5_comes 86 = .ok (.aload_n 0, 1) := dk_get _ da_cX5_comes_0 56 _ _ _ rfl
theorem dX5_comes_87 : decode cX5_comes 87 = .ok (.getfield 65, 3) := dk_get _ da_cX5_comes_0 57 _ _ _ rfl
theorem dX5_comes_90 : decode cX5_comes 90 = .ok (.iload_n 3, 1) := dk_get _ da_cX5_comes_0 58 _ _ _ rfl
theorem dX5_comes_91 : decode cX5_comes 91 = .ok (.iload_n 2, 1) := dk_get _ da_cX5_comes_0 59 _ _ _ rfl
def dt_cX5_comes_1 : List (Nat × Instr × Nat) := [(92, .iastore, 1), (93, .aload_n 0, 1), (94, .dup, 1), (95, .getfield 178, 3), (98, .iconst 1, 1), (99, .iadd, 1), (100, .putfield 178, 3), (103, .return_, 1)]
theorem da_cX5_comes_1 : dk_all cX5_comes dt_cX5_comes_1 = true := by decide +kernel
theorem dX5_comes_92 : decode cX5_comes 92 = .ok (.iastore, 1) := dk_get _ da_cX5_comes_1 0 _ _ _ rfl
theorem dX5_comes_93 : decode cX5_comes 93 = .ok (.aload_n 0, 1) := dk_get _ da_cX5_comes_1 1 _ _ _ rfl
theorem dX5_comes_94 : decode cX5_comes 94 = .ok (.dup, 1) := dk_get _ da_cX5_comes_1 2 _ _ _ rfl
theorem dX5_comes_95 : decode cX5_comes 95 = .ok (.getfield 178, 3) := dk_get _ da_cX5_comes_1 3 _ _ _ rfl
theorem dX5_comes_98 : decode cX5_comes 98 = .ok (.iconst 1, 1) := dk_get _ da_cX5_comes_1 4 _ _ _ rfl
theorem dX5_comes_99 : decode cX5_comes 99 = .ok (.iadd, 1) := dk_get _ da_cX5_comes_1 5 _ _ _ rfl
theorem dX5_comes_100 : decode cX5_comes 100 = .ok (.putfield 178, 3) := dk_get _ da_cX5_comes_1 6 _ _ _ rfl
theorem dX5_comes_103 : decode cX5_comes 103 = .ok (.return_, 1) := dk_get _ da_cX5_comes_1 7 _ _ _ rfl
set_option maxRecDepth 20000 in
theorem ggX5_laysHeavy_X5_times : GoodIn wsX5_laysHeavy wsX5_times := goodIn_r _ [7, 2, 14, 15, 16, 17, 18, 19, 20, 21, 22, 23, 24, 25, 26, 27, 28, 29, 30, 31, 32, 33, 34, 35, 36, 37, 38, 39, 40, 41, 42, 43] rfl (by decide +kernel)
set_option maxRecDepth 20000 in
theorem gX5_laysHeavy_X5_times : GoodIn wsX5_laysHeavy (wsV RX5 149 RX5 yX5_times wsX5_times) := goodIn_app (goodIn_r _ [3, 4, 5, 6] rfl (by decide +kernel)) ggX5_laysHeavy_X5_times
set_option maxRecDepth 20000 in
theorem ggX5_laysHeavy_X5_comes : GoodIn wsX5_laysHeavy wsX5_comes := goodIn_r _ [11, 1, 12, 13, 14, 15, 16, 17, 18, 19, 20, 21, 22, 23, 24, 25, 26, 27, 28, 29, 30, 31, 32, 33, 34, 35, 36, 37, 38, 39, 40, 41, 42, 43] rfl (by decide +kernel)
set_option maxRecDepth 20000 in
theorem gX5_laysHeavy_X5_comes : GoodIn wsX5_laysHeavy (wsV RX5 181 RX5 yX5_comes wsX5_comes) := goodIn_app (goodIn_r _ [8, 9, 10, 6] rfl (by decide +kernel)) ggX5_laysHeavy_X5_comes
def dt_cX5_laysHeavy_0 : List (Nat × Instr × Nat) := [(0, .aload_n 0, 1), (1, .iconst 0, 1), (2, .putfield 178, 3), (5, .iload_n 2, 1), (6, .iload_n 1, 1), (7, .isub, 1), (8, .iload 4, 2), (10, .iadd, 1), (11, .iload_n 3, 1), (12, .isub, 1), (13, .istore 7, 2), (15, .iload_n 1, 1), (16, .istore 8, 2), (18, .iload 8, 2), (20, .iload_n 2, 1), (21, .if_icmp .ge 82, 3), (24, .aload_n 0, 1), (25, .aload_n 0, 1), (26, .getfield 7, 3), (29, .iload 8, 2), (31, .iaload, 1), (32, .iload_n 1, 1), (33, .iload_n 2, 1), (34, .invokevirtual 149, 3), (37, .aload_n 0, 1), (38, .aload_n 0, 1), (39, .getfield 7, 3), (42, .iload 8, 2), (44, .iaload, 1), (45, .iload_n 3, 1), (46, .iload 4, 2), (48, .invokevirtual 149, 3), (51, .iadd, 1), (52, .istore 9, 2), (54, .aload_n 0, 1), (55, .aload_n 0, 1), (56, .getfield 7, 3), (59, .iload 8, 2), (61, .iaload, 1), (62, .iload_n 1, 1), (63, .iload 8, 2), (65, .invokevirtual 149, 3), (68, .ifCond .ne 29, 3), (71, .iload 9, 2), (73, .iload 6, 2), (75, .imul, 1), (76, .iload 5, 2), (78, .iload 7, 2), (80, .imul, 1), (81, .if_icmp .le 16, 3), (84, .aload_n 0, 1), (85, .aload_n 0, 1), (86, .getfield 7, 3), (89, .iload 8, 2), (91, .iaload, 1), (92, .iload 9, 2), (94, .invokevirtual 181, 3), (97, .iinc 8 1, 3), (100, .goto (-82), 3), (103, .iload_n 3, 1)]
theorem da_cX5_laysHeavy_0 : dk_all cX5_laysHeavy dt_cX5_laysHeavy_0 = true := by decide +kernel
theorem dX5_laysHeavy_0 : decode cX5_laysHeavy 0 = .ok (.aload_n 0, 1) := dk_get _ da_cX5_laysHeavy_0 0 _ _ _ rfl
theorem dX5_laysHeavy_1 : decode cX5_laysHeavy 1 = .ok (.iconst 0, 1) := dk_get _ da_cX5_laysHeavy_0 1 _ _ _ rfl
theorem dX5_laysHeavy_2 : decode cX5_laysHeavy 2 = .ok (.putfield 178, 3) := dk_get _ da_cX5_laysHeavy_0 2 _ _ _ rfl
theorem dX5_laysHeavy_5 : decode cX5_laysHeavy 5 = .ok (.iload_n 2, 1) := dk_get _ da_cX5_laysHeavy_0 3 _ _ _ rfl
theorem dX5_laysHeavy_6 : decode cX5_laysHeavy 6 = .ok (.iload_n 1, 1) := dk_get _ da_cX5_laysHeavy_0 4 _ _ _ rfl
theorem dX5_laysHeavy_7 : decode cX5_laysHeavy 7 = .ok (.isub, 1) := dk_get _ da_cX5_laysHeavy_0 5 _ _ _ rfl
theorem dX5_laysHeavy_8 : decode cX5_laysHeavy 8 = .ok (.iload 4, 2) := dk_get _ da_cX5_laysHeavy_0 6 _ _ _ rfl
theorem dX5_laysHeavy_10 : decode cX5_laysHeavy 10 = .ok (.iadd, 1) := dk_get _ da_cX5_laysHeavy_0 7 _ _ _ rfl
theorem dX5_laysHeavy_11 : decode cX5_laysHeavy 11 = .ok (.iload_n 3, 1) := dk_get _ da_cX5_laysHeavy_0 8 _ _ _ rfl
theorem dX5_laysHeavy_12 : decode cX5_laysHeavy 12 = .ok (.isub, 1) := dk_get _ da_cX5_laysHeavy_0 9 _ _ _ rfl
theorem dX5_laysHeavy_13 : decode cX5_laysHeavy 13 = .ok (.istore 7, 2) := dk_get _ da_cX5_laysHeavy_0 10 _ _ _ rfl
theorem dX5_laysHeavy_15 : decode cX5_laysHeavy 15 = .ok (.iload_n 1, 1) := dk_get _ da_cX5_laysHeavy_0 11 _ _ _ rfl
theorem dX5_laysHeavy_16 : decode cX5_laysHeavy 16 = .ok (.istore 8, 2) := dk_get _ da_cX5_laysHeavy_0 12 _ _ _ rfl
theorem dX5_laysHeavy_18 : decode cX5_laysHeavy 18 = .ok (.iload 8, 2) := dk_get _ da_cX5_laysHeavy_0 13 _ _ _ rfl
theorem dX5_laysHeavy_20 : decode cX5_laysHeavy 20 = .ok (.iload_n 2, 1) := dk_get _ da_cX5_laysHeavy_0 14 _ _ _ rfl
theorem dX5_laysHeavy_21 : decode cX5_laysHeavy 21 = .ok (.if_icmp .ge 82, 3) := dk_get _ da_cX5_laysHeavy_0 15 _ _ _ rfl
theorem dX5_laysHeavy_24 : decode cX5_laysHeavy 24 = .ok (.aload_n 0, 1) := dk_get _ da_cX5_laysHeavy_0 16 _ _ _ rfl
theorem dX5_laysHeavy_25 : decode cX5_laysHeavy 25 = .ok (.aload_n 0, 1) := dk_get _ da_cX5_laysHeavy_0 17 _ _ _ rfl
theorem dX5_laysHeavy_26 : decode cX5_laysHeavy 26 = .ok (.getfield 7, 3) := dk_get _ da_cX5_laysHeavy_0 18 _ _ _ rfl
theorem dX5_laysHeavy_29 : decode cX5_laysHeavy 29 = .ok (.iload 8, 2) := dk_get _ da_cX5_laysHeavy_0 19 _ _ _ rfl
theorem dX5_laysHeavy_31 : decode cX5_laysHeavy 31 = .ok (.iaload, 1) := dk_get _ da_cX5_laysHeavy_0 20 _ _ _ rfl
theorem dX5_laysHeavy_32 : decode cX5_laysHeavy 32 = .ok (.iload_n 1, 1) := dk_get _ da_cX5_laysHeavy_0 21 _ _ _ rfl
theorem dX5_laysHeavy_33 : decode cX5_laysHeavy 33 = .ok (.iload_n 2, 1) := dk_get _ da_cX5_laysHeavy_0 22 _ _ _ rfl
theorem dX5_laysHeavy_34 : decode cX5_laysHeavy 34 = .ok (.invokevirtual 149, 3) := dk_get _ da_cX5_laysHeavy_0 23 _ _ _ rfl
theorem dX5_laysHeavy_37 : decode cX5_laysHeavy 37 = .ok (.aload_n 0, 1) := dk_get _ da_cX5_laysHeavy_0 24 _ _ _ rfl
theorem dX5_laysHeavy_38 : decode cX5_laysHeavy 38 = .ok (.aload_n 0, 1) := dk_get _ da_cX5_laysHeavy_0 25 _ _ _ rfl
theorem dX5_laysHeavy_39 : decode cX5_laysHeavy 39 = .ok (.getfield 7, 3) := dk_get _ da_cX5_laysHeavy_0 26 _ _ _ rfl
theorem dX5_laysHeavy_42 : decode cX5_laysHeavy 42 = .ok (.iload 8, 2) := dk_get _ da_cX5_laysHeavy_0 27 _ _ _ rfl
theorem dX5_laysHeavy_44 : decode cX5_laysHeavy 44 = .ok (.iaload, 1) := dk_get _ da_cX5_laysHeavy_0 28 _ _ _ rfl
theorem dX5_laysHeavy_45 : decode cX5_laysHeavy 45 = .ok (.iload_n 3, 1) := dk_get _ da_cX5_laysHeavy_0 29 _ _ _ rfl
theorem dX5_laysHeavy_46 : decode cX5_laysHeavy 46 = .ok (.iload 4, 2) := dk_get _ da_cX5_laysHeavy_0 30 _ _ _ rfl
theorem dX5_laysHeavy_48 : decode cX5_laysHeavy 48 = .ok (.invokevirtual 149, 3) := dk_get _ da_cX5_laysHeavy_0 31 _ _ _ rfl
theorem dX5_laysHeavy_51 : decode cX5_laysHeavy 51 = .ok (.iadd, 1) := dk_get _ da_cX5_laysHeavy_0 32 _ _ _ rfl
theorem dX5_laysHeavy_52 : decode cX5_laysHeavy 52 = .ok (.istore 9, 2) := dk_get _ da_cX5_laysHeavy_0 33 _ _ _ rfl
theorem dX5_laysHeavy_54 : decode cX5_laysHeavy 54 = .ok (.aload_n 0, 1) := dk_get _ da_cX5_laysHeavy_0 34 _ _ _ rfl
theorem dX5_laysHeavy_55 : decode cX5_laysHeavy 55 = .ok (.aload_n 0, 1) := dk_get _ da_cX5_laysHeavy_0 35 _ _ _ rfl
theorem dX5_laysHeavy_56 : decode cX5_laysHeavy 56 = .ok (.getfield 7, 3) := dk_get _ da_cX5_laysHeavy_0 36 _ _ _ rfl
theorem dX5_laysHeavy_59 : decode cX5_laysHeavy 59 = .ok (.iload 8, 2) := dk_get _ da_cX5_laysHeavy_0 37 _ _ _ rfl
theorem dX5_laysHeavy_61 : decode cX5_laysHeavy 61 = .ok (.iaload, 1) := dk_get _ da_cX5_laysHeavy_0 38 _ _ _ rfl
theorem dX5_laysHeavy_62 : decode cX5_laysHeavy 62 = .ok (.iload_n 1, 1) := dk_get _ da_cX5_laysHeavy_0 39 _ _ _ rfl
theorem dX5_laysHeavy_63 : decode cX5_laysHeavy 63 = .ok (.iload 8, 2) := dk_get _ da_cX5_laysHeavy_0 40 _ _ _ rfl
theorem dX5_laysHeavy_65 : decode cX5_laysHeavy 65 = .ok (.invokevirtual 149, 3) := dk_get _ da_cX5_laysHeavy_0 41 _ _ _ rfl
theorem dX5_laysHeavy_68 : decode cX5_laysHeavy 68 = .ok (.ifCond .ne 29, 3) := dk_get _ da_cX5_laysHeavy_0 42 _ _ _ rfl
theorem dX5_laysHeavy_71 : decode cX5_laysHeavy 71 = .ok (.iload 9, 2) := dk_get _ da_cX5_laysHeavy_0 43 _ _ _ rfl
theorem dX5_laysHeavy_73 : decode cX5_laysHeavy 73 = .ok (.iload 6, 2) := dk_get _ da_cX5_laysHeavy_0 44 _ _ _ rfl
theorem dX5_laysHeavy_75 : decode cX5_laysHeavy 75 = .ok (.imul, 1) := dk_get _ da_cX5_laysHeavy_0 45 _ _ _ rfl
theorem dX5_laysHeavy_76 : decode cX5_laysHeavy 76 = .ok (.iload 5, 2) := dk_get _ da_cX5_laysHeavy_0 46 _ _ _ rfl
theorem dX5_laysHeavy_78 : decode cX5_laysHeavy 78 = .ok (.iload 7, 2) := dk_get _ da_cX5_laysHeavy_0 47 _ _ _ rfl
theorem dX5_laysHeavy_80 : decode cX5_laysHeavy 80 = .ok (.imul, 1) := dk_get _ da_cX5_laysHeavy_0 48 _ _ _ rfl
theorem dX5_laysHeavy_81 : decode cX5_laysHeavy 81 = .ok (.if_icmp .le 16, 3) := dk_get _ da_cX5_laysHeavy_0 49 _ _ _ rfl
theorem dX5_laysHeavy_84 : decode cX5_laysHeavy 84 = .ok (.aload_n 0, 1) := dk_get _ da_cX5_laysHeavy_0 50 _ _ _ rfl
theorem dX5_laysHeavy_85 : decode cX5_laysHeavy 85 = .ok (.aload_n 0, 1) := dk_get _ da_cX5_laysHeavy_0 51 _ _ _ rfl
theorem dX5_laysHeavy_86 : decode cX5_laysHeavy 86 = .ok (.getfield 7, 3) := dk_get _ da_cX5_laysHeavy_0 52 _ _ _ rfl
theorem dX5_laysHeavy_89 : decode cX5_laysHeavy 89 = .ok (.iload 8, 2) := dk_get _ da_cX5_laysHeavy_0 53 _ _ _ rfl
theorem dX5_laysHeavy_91 : decode cX5_laysHeavy 91 = .ok (.iaload, 1) := dk_get _ da_cX5_laysHeavy_0 54 _ _ _ rfl
theorem dX5_laysHeavy_92 : decode cX5_laysHeavy 92 = .ok (.iload 9, 2) := dk_get _ da_cX5_laysHeavy_0 55 _ _ _ rfl
theorem dX5_laysHeavy_94 : decode cX5_laysHeavy 94 = .ok (.invokevirtual 181, 3) := dk_get _ da_cX5_laysHeavy_0 56 _ _ _ rfl
theorem dX5_laysHeavy_97 : decode cX5_laysHeavy 97 = .ok (.iinc 8 1, 3) := dk_get _ da_cX5_laysHeavy_0 57 _ _ _ rfl
theorem dX5_laysHeavy_100 : decode cX5_laysHeavy 100 = .ok (.goto (-82), 3) := dk_get _ da_cX5_laysHeavy_0 58 _ _ _ rfl
theorem dX5_laysHeavy_103 : decode cX5_laysHeavy 103 = .ok (.iload_n 3, 1) := dk_get _ da_cX5_laysHeavy_0 59 _ _ _ rfl
def dt_cX5_laysHeavy_1 : List (Nat × Instr × Nat) := [(104, .istore 8, 2), (106, .iload 8, 2), (108, .iload 4, 2), (110, .if_icmp .ge 98, 3), (113, .aload_n 0, 1), (114, .aload_n 0, 1), (115, .getfield 7, 3), (118, .iload 8, 2), (120, .iaload, 1), (121, .iload_n 1, 1), (122, .iload_n 2, 1), (123, .invokevirtual 149, 3), (126, .aload_n 0, 1), (127, .aload_n 0, 1), (128, .getfield 7, 3), (131, .iload 8, 2), (133, .iaload, 1), (134, .iload_n 3, 1), (135, .iload 4, 2), (137, .invokevirtual 149, 3), (140, .iadd, 1), (141, .istore 9, 2), (143, .aload_n 0, 1), (144, .aload_n 0, 1), (145, .getfield 7, 3), (148, .iload 8, 2), (150, .iaload, 1), (151, .iload_n 1, 1), (152, .iload_n 2, 1), (153, .invokevirtual 149, 3), (156, .ifCond .ne 46, 3), (159, .aload_n 0, 1), (160, .aload_n 0, 1), (161, .getfield 7, 3), (164, .iload 8, 2), (166, .iaload, 1), (167, .iload_n 3, 1), (168, .iload 8, 2), (170, .invokevirtual 149, 3), (173, .ifCond .ne 29, 3), (176, .iload 9, 2), (178, .iload 6, 2), (180, .imul, 1), (181, .iload 5, 2), (183, .iload 7, 2), (185, .imul, 1), (186, .if_icmp .le 16, 3), (189, .aload_n 0, 1), (190, .aload_n 0, 1), (191, .getfield 7, 3), (194, .iload 8, 2), (196, .iaload, 1), (197, .iload 9, 2), (199, .invokevirtual 181, 3), (202, .iinc 8 1, 3), (205, .goto (-99), 3), (208, .return_, 1)]
theorem da_cX5_laysHeavy_1 : dk_all cX5_laysHeavy dt_cX5_laysHeavy_1 = true := by decide +kernel
theorem dX5_laysHeavy_104 : decode cX5_laysHeavy 104 = .ok (.istore 8, 2) := dk_get _ da_cX5_laysHeavy_1 0 _ _ _ rfl
theorem dX5_laysHeavy_106 : decode cX5_laysHeavy 106 = .ok (.iload 8, 2) := dk_get _ da_cX5_laysHeavy_1 1 _ _ _ rfl
theorem dX5_laysHeavy_108 : decode cX5_laysHeavy 108 = .ok (.iload 4, 2) := dk_get _ da_cX5_laysHeavy_1 2 _ _ _ rfl
theorem dX5_laysHeavy_110 : decode cX5_laysHeavy 110 = .ok (.if_icmp .ge 98, 3) := dk_get _ da_cX5_laysHeavy_1 3 _ _ _ rfl
theorem dX5_laysHeavy_113 : decode cX5_laysHeavy 113 = .ok (.aload_n 0, 1) := dk_get _ da_cX5_laysHeavy_1 4 _ _ _ rfl
theorem dX5_laysHeavy_114 : decode cX5_laysHeavy 114 = .ok (.aload_n 0, 1) := dk_get _ da_cX5_laysHeavy_1 5 _ _ _ rfl
theorem dX5_laysHeavy_115 : decode cX5_laysHeavy 115 = .ok (.getfield 7, 3) := dk_get _ da_cX5_laysHeavy_1 6 _ _ _ rfl
theorem dX5_laysHeavy_118 : decode cX5_laysHeavy 118 = .ok (.iload 8, 2) := dk_get _ da_cX5_laysHeavy_1 7 _ _ _ rfl
theorem dX5_laysHeavy_120 : decode cX5_laysHeavy 120 = .ok (.iaload, 1) := dk_get _ da_cX5_laysHeavy_1 8 _ _ _ rfl
theorem dX5_laysHeavy_121 : decode cX5_laysHeavy 121 = .ok (.iload_n 1, 1) := dk_get _ da_cX5_laysHeavy_1 9 _ _ _ rfl
theorem dX5_laysHeavy_122 : decode cX5_laysHeavy 122 = .ok (.iload_n 2, 1) := dk_get _ da_cX5_laysHeavy_1 10 _ _ _ rfl
theorem dX5_laysHeavy_123 : decode cX5_laysHeavy 123 = .ok (.invokevirtual 149, 3) := dk_get _ da_cX5_laysHeavy_1 11 _ _ _ rfl
theorem dX5_laysHeavy_126 : decode cX5_laysHeavy 126 = .ok (.aload_n 0, 1) := dk_get _ da_cX5_laysHeavy_1 12 _ _ _ rfl
theorem dX5_laysHeavy_127 : decode cX5_laysHeavy 127 = .ok (.aload_n 0, 1) := dk_get _ da_cX5_laysHeavy_1 13 _ _ _ rfl
theorem dX5_laysHeavy_128 : decode cX5_laysHeavy 128 = .ok (.getfield 7, 3) := dk_get _ da_cX5_laysHeavy_1 14 _ _ _ rfl
theorem dX5_laysHeavy_131 : decode cX5_laysHeavy 131 = .ok (.iload 8, 2) := dk_get _ da_cX5_laysHeavy_1 15 _ _ _ rfl
theorem dX5_laysHeavy_133 : decode cX5_laysHeavy 133 = .ok (.iaload, 1) := dk_get _ da_cX5_laysHeavy_1 16 _ _ _ rfl
theorem dX5_laysHeavy_134 : decode cX5_laysHeavy 134 = .ok (.iload_n 3, 1) := dk_get _ da_cX5_laysHeavy_1 17 _ _ _ rfl
theorem dX5_laysHeavy_135 : decode cX5_laysHeavy 135 = .ok (.iload 4, 2) := dk_get _ da_cX5_laysHeavy_1 18 _ _ _ rfl
theorem dX5_laysHeavy_137 : decode cX5_laysHeavy 137 = .ok (.invokevirtual 149, 3) := dk_get _ da_cX5_laysHeavy_1 19 _ _ _ rfl
theorem dX5_laysHeavy_140 : decode cX5_laysHeavy 140 = .ok (.iadd, 1) := dk_get _ da_cX5_laysHeavy_1 20 _ _ _ rfl
theorem dX5_laysHeavy_141 : decode cX5_laysHeavy 141 = .ok (.istore 9, 2) := dk_get _ da_cX5_laysHeavy_1 21 _ _ _ rfl
theorem dX5_laysHeavy_143 : decode cX5_laysHeavy 143 = .ok (.aload_n 0, 1) := dk_get _ da_cX5_laysHeavy_1 22 _ _ _ rfl
theorem dX5_laysHeavy_144 : decode cX5_laysHeavy 144 = .ok (.aload_n 0, 1) := dk_get _ da_cX5_laysHeavy_1 23 _ _ _ rfl
theorem dX5_laysHeavy_145 : decode cX5_laysHeavy 145 = .ok (.getfield 7, 3) := dk_get _ da_cX5_laysHeavy_1 24 _ _ _ rfl
theorem dX5_laysHeavy_148 : decode cX5_laysHeavy 148 = .ok (.iload 8, 2) := dk_get _ da_cX5_laysHeavy_1 25 _ _ _ rfl
theorem dX5_laysHeavy_150 : decode cX5_laysHeavy 150 = .ok (.iaload, 1) := dk_get _ da_cX5_laysHeavy_1 26 _ _ _ rfl
theorem dX5_laysHeavy_151 : decode cX5_laysHeavy 151 = .ok (.iload_n 1, 1) := dk_get _ da_cX5_laysHeavy_1 27 _ _ _ rfl
theorem dX5_laysHeavy_152 : decode cX5_laysHeavy 152 = .ok (.iload_n 2, 1) := dk_get _ da_cX5_laysHeavy_1 28 _ _ _ rfl
theorem dX5_laysHeavy_153 : decode cX5_laysHeavy 153 = .ok (.invokevirtual 149, 3) := dk_get _ da_cX5_laysHeavy_1 29 _ _ _ rfl
theorem dX5_laysHeavy_156 : decode cX5_laysHeavy 156 = .ok (.ifCond .ne 46, 3) := dk_get _ da_cX5_laysHeavy_1 30 _ _ _ rfl
theorem dX5_laysHeavy_159 : decode cX5_laysHeavy 159 = .ok (.aload_n 0, 1) := dk_get _ da_cX5_laysHeavy_1 31 _ _ _ rfl
theorem dX5_laysHeavy_160 : decode cX5_laysHeavy 160 = .ok (.aload_n 0, 1) := dk_get _ da_cX5_laysHeavy_1 32 _ _ _ rfl
theorem dX5_laysHeavy_161 : decode cX5_laysHeavy 161 = .ok (.getfield 7, 3) := dk_get _ da_cX5_laysHeavy_1 33 _ _ _ rfl
theorem dX5_laysHeavy_164 : decode cX5_laysHeavy 164 = .ok (.iload 8, 2) := dk_get _ da_cX5_laysHeavy_1 34 _ _ _ rfl
theorem dX5_laysHeavy_166 : decode cX5_laysHeavy 166 = .ok (.iaload, 1) := dk_get _ da_cX5_laysHeavy_1 35 _ _ _ rfl
theorem dX5_laysHeavy_167 : decode cX5_laysHeavy 167 = .ok (.iload_n 3, 1) := dk_get _ da_cX5_laysHeavy_1 36 _ _ _ rfl
theorem dX5_laysHeavy_168 : decode cX5_laysHeavy 168 = .ok (.iload 8, 2) := dk_get _ da_cX5_laysHeavy_1 37 _ _ _ rfl
theorem dX5_laysHeavy_170 : decode cX5_laysHeavy 170 = .ok (.invokevirtual 149, 3) := dk_get _ da_cX5_laysHeavy_1 38 _ _ _ rfl
theorem dX5_laysHeavy_173 : decode cX5_laysHeavy 173 = .ok (.ifCond .ne 29, 3) := dk_get _ da_cX5_laysHeavy_1 39 _ _ _ rfl
theorem dX5_laysHeavy_176 : decode cX5_laysHeavy 176 = .ok (.iload 9, 2) := dk_get _ da_cX5_laysHeavy_1 40 _ _ _ rfl
theorem dX5_laysHeavy_178 : decode cX5_laysHeavy 178 = .ok (.iload 6, 2) := dk_get _ da_cX5_laysHeavy_1 41 _ _ _ rfl
theorem dX5_laysHeavy_180 : decode cX5_laysHeavy 180 = .ok (.imul, 1) := dk_get _ da_cX5_laysHeavy_1 42 _ _ _ rfl
theorem dX5_laysHeavy_181 : decode cX5_laysHeavy 181 = .ok (.iload 5, 2) := dk_get _ da_cX5_laysHeavy_1 43 _ _ _ rfl
theorem dX5_laysHeavy_183 : decode cX5_laysHeavy 183 = .ok (.iload 7, 2) := dk_get _ da_cX5_laysHeavy_1 44 _ _ _ rfl
theorem dX5_laysHeavy_185 : decode cX5_laysHeavy 185 = .ok (.imul, 1) := dk_get _ da_cX5_laysHeavy_1 45 _ _ _ rfl
theorem dX5_laysHeavy_186 : decode cX5_laysHeavy 186 = .ok (.if_icmp .le 16, 3) := dk_get _ da_cX5_laysHeavy_1 46 _ _ _ rfl
theorem dX5_laysHeavy_189 : decode cX5_laysHeavy 189 = .ok (.aload_n 0, 1) := dk_get _ da_cX5_laysHeavy_1 47 _ _ _ rfl
theorem dX5_laysHeavy_190 : decode cX5_laysHeavy 190 = .ok (.aload_n 0, 1) := dk_get _ da_cX5_laysHeavy_1 48 _ _ _ rfl
theorem dX5_laysHeavy_191 : decode cX5_laysHeavy 191 = .ok (.getfield 7, 3) := dk_get _ da_cX5_laysHeavy_1 49 _ _ _ rfl
theorem dX5_laysHeavy_194 : decode cX5_laysHeavy 194 = .ok (.iload 8, 2) := dk_get _ da_cX5_laysHeavy_1 50 _ _ _ rfl
theorem dX5_laysHeavy_196 : decode cX5_laysHeavy 196 = .ok (.iaload, 1) := dk_get _ da_cX5_laysHeavy_1 51 _ _ _ rfl
theorem dX5_laysHeavy_197 : decode cX5_laysHeavy 197 = .ok (.iload 9, 2) := dk_get _ da_cX5_laysHeavy_1 52 _ _ _ rfl
theorem dX5_laysHeavy_199 : decode cX5_laysHeavy 199 = .ok (.invokevirtual 181, 3) := dk_get _ da_cX5_laysHeavy_1 53 _ _ _ rfl
theorem dX5_laysHeavy_202 : decode cX5_laysHeavy 202 = .ok (.iinc 8 1, 3) := dk_get _ da_cX5_laysHeavy_1 54 _ _ _ rfl
theorem dX5_laysHeavy_205 : decode cX5_laysHeavy 205 = .ok (.goto (-99), 3) := dk_get _ da_cX5_laysHeavy_1 55 _ _ _ rfl
theorem dX5_laysHeavy_208 : decode cX5_laysHeavy 208 = .ok (.return_, 1) := dk_get _ da_cX5_laysHeavy_1 56 _ _ _ rfl
theorem mi_wsX5_heavy_wsX5_heavy_r1 : ∀ w ∈ wsX5_heavy_r1, w ∈ wsX5_heavy := fun _ h => (List.mem_cons_of_mem _ (List.mem_append_left _ (List.mem_append_left _ h)))
theorem mi_wsX5_heavy_wsX50 : ∀ w ∈ wsX50, w ∈ wsX5_heavy := fun _ h => (List.mem_cons_of_mem _ (List.mem_append_right _ h))
set_option maxRecDepth 20000 in
theorem ggX5_heavy_X5_isRange : GoodIn wsX5_heavy wsX5_isRange := goodIn_k _ [(wsX5_heavy_r1, [6, 7]), (wsX50, [0, 1, 2, 3, 4, 5, 6, 7, 8, 9, 10, 11, 12, 13, 14, 15, 16, 17, 18, 19, 20, 21, 22, 23, 24, 25, 26, 27, 28, 29])] (gk_c mi_wsX5_heavy_wsX5_heavy_r1 (gk_c mi_wsX5_heavy_wsX50 gk_n)) rfl (by decide +kernel)
set_option maxRecDepth 20000 in
theorem gX5_heavy_X5_isRange : GoodIn wsX5_heavy (wsV RX5 142 RX5 yX5_isRange wsX5_isRange) := goodIn_app (goodIn_k _ [(wsX5_heavy_r1, [2, 3, 4, 5])] (gk_c mi_wsX5_heavy_wsX5_heavy_r1 gk_n) rfl (by decide +kernel)) ggX5_heavy_X5_isRange
set_option maxRecDepth 20000 in
theorem ggX5_heavy_X5_isShare : GoodIn wsX5_heavy wsX5_isShare := goodIn_k _ [(wsX5_heavy_r1, [10, 11, 12, 5, 13])] (gk_c mi_wsX5_heavy_wsX5_heavy_r1 gk_n) rfl (by decide +kernel)
set_option maxRecDepth 20000 in
theorem gX5_heavy_X5_isShare : GoodIn wsX5_heavy (va_wsS RX5 184 yX5_isShare wsX5_isShare) := goodIn_app (goodIn_k _ [(wsX5_heavy_r1, [8, 9, 5])] (gk_c mi_wsX5_heavy_wsX5_heavy_r1 gk_n) rfl (by decide +kernel)) ggX5_heavy_X5_isShare
set_option maxRecDepth 20000 in
theorem ggX5_heavy_X5_isEnough : GoodIn wsX5_heavy wsX5_isEnough := goodIn_k _ [(wsX5_heavy_r1, [17, 18]), (wsX50, [0, 1, 2, 3, 4, 5, 6, 7, 8, 9, 10, 11, 12, 13, 14, 15, 16, 17, 18, 19, 20, 21, 22, 23, 24, 25, 26, 27, 28, 29])] (gk_c mi_wsX5_heavy_wsX5_heavy_r1 (gk_c mi_wsX5_heavy_wsX50 gk_n)) rfl (by decide +kernel)
set_option maxRecDepth 20000 in
theorem gX5_heavy_X5_isEnough : GoodIn wsX5_heavy (wsV RX5 187 RX5 yX5_isEnough wsX5_isEnough) := goodIn_app (goodIn_k _ [(wsX5_heavy_r1, [14, 15, 16, 5])] (gk_c mi_wsX5_heavy_wsX5_heavy_r1 gk_n) rfl (by decide +kernel)) ggX5_heavy_X5_isEnough
theorem mi_wsX5_heavy_wsX5_heavy_r2 : ∀ w ∈ wsX5_heavy_r2, w ∈ wsX5_heavy := fun _ h => (List.mem_cons_of_mem _ (List.mem_append_left _ (List.mem_append_right _ h)))
set_option maxRecDepth 20000 in
theorem ggX5_heavy_X5_laysHeavy : GoodIn wsX5_heavy wsX5_laysHeavy := goodIn_k _ [(wsX5_heavy_r1, [22, 1, 23]), (wsX5_heavy_r2, [0, 1, 2]), (wsX5_heavy_r1, [5]), (wsX5_heavy_r2, [3, 4, 5, 6, 7, 8, 9]), (wsX50, [0, 1, 2, 3, 4, 5, 6, 7, 8, 9, 10, 11, 12, 13, 14, 15, 16, 17, 18, 19, 20, 21, 22, 23, 24, 25, 26, 27, 28, 29])] (gk_c mi_wsX5_heavy_wsX5_heavy_r1 (gk_c mi_wsX5_heavy_wsX5_heavy_r2 (gk_c mi_wsX5_heavy_wsX5_heavy_r1 (gk_c mi_wsX5_heavy_wsX5_heavy_r2 (gk_c mi_wsX5_heavy_wsX50 gk_n))))) rfl (by decide +kernel)
set_option maxRecDepth 20000 in
theorem gX5_heavy_X5_laysHeavy : GoodIn wsX5_heavy (wsV RX5 190 RX5 yX5_laysHeavy wsX5_laysHeavy) := goodIn_app (goodIn_k _ [(wsX5_heavy_r1, [19, 20, 21, 5])] (gk_c mi_wsX5_heavy_wsX5_heavy_r1 gk_n) rfl (by decide +kernel)) ggX5_heavy_X5_laysHeavy
def dt_cX5_heavy_0 : List (Nat × Instr × Nat) := [(0, .aload_n 0, 1), (1, .iconst 0, 1), (2, .putfield 77, 3), (5, .aload_n 0, 1), (6, .iload_n 1, 1), (7, .iload_n 2, 1), (8, .invokevirtual 142, 3), (11, .ifCond .eq 12, 3), (14, .iload_n 3, 1), (15, .iload 4, 2), (17, .invokestatic 184, 3), (20, .ifCond .ne 5, 3), (23, .iconst (-1), 1), (24, .ireturn, 1), (25, .aload_n 0, 1), (26, .iload_n 3, 1), (27, .iload 4, 2), (29, .invokevirtual 187, 3), (32, .ifCond .ne 6, 3), (35, .bipush (-2), 2), (37, .ireturn, 1), (38, .aload_n 0, 1), (39, .iload_n 1, 1), (40, .iload_n 2, 1), (41, .iconst 0, 1), (42, .iconst 0, 1), (43, .iload_n 3, 1), (44, .iload 4, 2), (46, .invokevirtual 190, 3), (49, .aload_n 0, 1), (50, .getfield 178, 3), (53, .ireturn, 1)]
theorem da_cX5_heavy_0 : dk_all cX5_heavy dt_cX5_heavy_0 = true := by decide +kernel
theorem dX5_heavy_0 : decode cX5_heavy 0 = .ok (.aload_n 0, 1) := dk_get _ da_cX5_heavy_0 0 _ _ _ rfl
theorem dX5_heavy_1 : decode cX5_heavy 1 = .ok (.iconst 0, 1) := dk_get _ da_cX5_heavy_0 1 _ _ _ rfl
theorem dX5_heavy_2 : decode cX5_heavy 2 = .ok (.putfield 77, 3) := dk_get _ da_cX5_heavy_0 2 _ _ _ rfl
theorem dX5_heavy_5 : decode cX5_heavy 5 = .ok (.aload_n 0, 1) := dk_get _ da_cX5_heavy_0 3 _ _ _ rfl
theorem dX5_heavy_6 : decode cX5_heavy 6 = .ok (.iload_n 1, 1) := dk_get _ da_cX5_heavy_0 4 _ _ _ rfl
theorem dX5_heavy_7 : decode cX5_heavy 7 = .ok (.iload_n 2, 1) := dk_get _ da_cX5_heavy_0 5 _ _ _ rfl
theorem dX5_heavy_8 : decode cX5_heavy 8 = .ok (.invokevirtual 142, 3) := dk_get _ da_cX5_heavy_0 6 _ _ _ rfl
theorem dX5_heavy_11 : decode cX5_heavy 11 = .ok (.ifCond .eq 12, 3) := dk_get _ da_cX5_heavy_0 7 _ _ _ rfl
theorem dX5_heavy_14 : decode cX5_heavy 14 = .ok (.iload_n 3, 1) := dk_get _ da_cX5_heavy_0 8 _ _ _ rfl
theorem dX5_heavy_15 : decode cX5_heavy 15 = .ok (.iload 4, 2) := dk_get _ da_cX5_heavy_0 9 _ _ _ rfl
theorem dX5_heavy_17 : decode cX5_heavy 17 = .ok (.invokestatic 184, 3) := dk_get _ da_cX5_heavy_0 10 _ _ _ rfl
theorem dX5_heavy_20 : decode cX5_heavy 20 = .ok (.ifCond .ne 5, 3) := dk_get _ da_cX5_heavy_0 11 _ _ _ rfl
theorem dX5_heavy_23 : decode cX5_heavy 23 = .ok (.iconst (-1), 1) := dk_get _ da_cX5_heavy_0 12 _ _ _ rfl
theorem dX5_heavy_24 : decode cX5_heavy 24 = .ok (.ireturn, 1) := dk_get _ da_cX5_heavy_0 13 _ _ _ rfl
theorem dX5_heavy_25 : decode cX5_heavy 25 = .ok (.aload_n 0, 1) := dk_get _ da_cX5_heavy_0 14 _ _ _ rfl
theorem dX5_heavy_26 : decode cX5_heavy 26 = .ok (.iload_n 3, 1) := dk_get _ da_cX5_heavy_0 15 _ _ _ rfl
theorem dX5_heavy_27 : decode cX5_heavy 27 = .ok (.iload 4, 2) := dk_get _ da_cX5_heavy_0 16 _ _ _ rfl
theorem dX5_heavy_29 : decode cX5_heavy 29 = .ok (.invokevirtual 187, 3) := dk_get _ da_cX5_heavy_0 17 _ _ _ rfl
theorem dX5_heavy_32 : decode cX5_heavy 32 = .ok (.ifCond .ne 6, 3) := dk_get _ da_cX5_heavy_0 18 _ _ _ rfl
theorem dX5_heavy_35 : decode cX5_heavy 35 = .ok (.bipush (-2), 2) := dk_get _ da_cX5_heavy_0 19 _ _ _ rfl
theorem dX5_heavy_37 : decode cX5_heavy 37 = .ok (.ireturn, 1) := dk_get _ da_cX5_heavy_0 20 _ _ _ rfl
theorem dX5_heavy_38 : decode cX5_heavy 38 = .ok (.aload_n 0, 1) := dk_get _ da_cX5_heavy_0 21 _ _ _ rfl
theorem dX5_heavy_39 : decode cX5_heavy 39 = .ok (.iload_n 1, 1) := dk_get _ da_cX5_heavy_0 22 _ _ _ rfl
theorem dX5_heavy_40 : decode cX5_heavy 40 = .ok (.iload_n 2, 1) := dk_get _ da_cX5_heavy_0 23 _ _ _ rfl
theorem dX5_heavy_41 : decode cX5_heavy 41 = .ok (.iconst 0, 1) := dk_get _ da_cX5_heavy_0 24 _ _ _ rfl
theorem dX5_heavy_42 : decode cX5_heavy 42 = .ok (.iconst 0, 1) := dk_get _ da_cX5_heavy_0 25 _ _ _ rfl
theorem dX5_heavy_43 : decode cX5_heavy 43 = .ok (.iload_n 3, 1) := dk_get _ da_cX5_heavy_0 26 _ _ _ rfl
theorem dX5_heavy_44 : decode cX5_heavy 44 = .ok (.iload 4, 2) := dk_get _ da_cX5_heavy_0 27 _ _ _ rfl
theorem dX5_heavy_46 : decode cX5_heavy 46 = .ok (.invokevirtual 190, 3) := dk_get _ da_cX5_heavy_0 28 _ _ _ rfl
theorem dX5_heavy_49 : decode cX5_heavy 49 = .ok (.aload_n 0, 1) := dk_get _ da_cX5_heavy_0 29 _ _ _ rfl
theorem dX5_heavy_50 : decode cX5_heavy 50 = .ok (.getfield 178, 3) := dk_get _ da_cX5_heavy_0 30 _ _ _ rfl
theorem dX5_heavy_53 : decode cX5_heavy 53 = .ok (.ireturn, 1) := dk_get _ da_cX5_heavy_0 31 _ _ _ rfl
theorem mi_wsX5_heavyAt_wsX5_heavyAt_r1 : ∀ w ∈ wsX5_heavyAt_r1, w ∈ wsX5_heavyAt := fun _ h => (List.mem_cons_of_mem _ (List.mem_append_left _ (List.mem_append_left _ h)))
theorem mi_wsX5_heavyAt_wsX50 : ∀ w ∈ wsX50, w ∈ wsX5_heavyAt := fun _ h => (List.mem_cons_of_mem _ (List.mem_append_right _ h))
set_option maxRecDepth 20000 in
theorem ggX5_heavyAt_X5_isRange : GoodIn wsX5_heavyAt wsX5_isRange := goodIn_k _ [(wsX5_heavyAt_r1, [8, 9]), (wsX50, [0, 1, 2, 3, 4, 5, 6, 7, 8, 9, 10, 11, 12, 13, 14, 15, 16, 17, 18, 19, 20, 21, 22, 23, 24, 25, 26, 27, 28, 29])] (gk_c mi_wsX5_heavyAt_wsX5_heavyAt_r1 (gk_c mi_wsX5_heavyAt_wsX50 gk_n)) rfl (by decide +kernel)
set_option maxRecDepth 20000 in
theorem gX5_heavyAt_X5_isRange : GoodIn wsX5_heavyAt (wsV RX5 142 RX5 yX5_isRange wsX5_isRange) := goodIn_app (goodIn_k _ [(wsX5_heavyAt_r1, [4, 5, 6, 7])] (gk_c mi_wsX5_heavyAt_wsX5_heavyAt_r1 gk_n) rfl (by decide +kernel)) ggX5_heavyAt_X5_isRange
set_option maxRecDepth 20000 in
theorem ggX5_heavyAt_X5_isShare : GoodIn wsX5_heavyAt wsX5_isShare := goodIn_k _ [(wsX5_heavyAt_r1, [12, 13, 14, 7, 15])] (gk_c mi_wsX5_heavyAt_wsX5_heavyAt_r1 gk_n) rfl (by decide +kernel)
set_option maxRecDepth 20000 in
theorem gX5_heavyAt_X5_isShare : GoodIn wsX5_heavyAt (va_wsS RX5 184 yX5_isShare wsX5_isShare) := goodIn_app (goodIn_k _ [(wsX5_heavyAt_r1, [10, 11, 7])] (gk_c mi_wsX5_heavyAt_wsX5_heavyAt_r1 gk_n) rfl (by decide +kernel)) ggX5_heavyAt_X5_isShare
set_option maxRecDepth 20000 in
theorem ggX5_heavyAt_X5_isEnough : GoodIn wsX5_heavyAt wsX5_isEnough := goodIn_k _ [(wsX5_heavyAt_r1, [19, 20]), (wsX50, [0, 1, 2, 3, 4, 5, 6, 7, 8, 9, 10, 11, 12, 13, 14, 15, 16, 17, 18, 19, 20, 21, 22, 23, 24, 25, 26, 27, 28, 29])] (gk_c mi_wsX5_heavyAt_wsX5_heavyAt_r1 (gk_c mi_wsX5_heavyAt_wsX50 gk_n)) rfl (by decide +kernel)
set_option maxRecDepth 20000 in
theorem gX5_heavyAt_X5_isEnough : GoodIn wsX5_heavyAt (wsV RX5 187 RX5 yX5_isEnough wsX5_isEnough) := goodIn_app (goodIn_k _ [(wsX5_heavyAt_r1, [16, 17, 18, 7])] (gk_c mi_wsX5_heavyAt_wsX5_heavyAt_r1 gk_n) rfl (by decide +kernel)) ggX5_heavyAt_X5_isEnough
set_option maxRecDepth 20000 in
theorem ggX5_heavyAt_X5_within : GoodIn wsX5_heavyAt wsX5_within := goodIn_k _ [(wsX5_heavyAt_r1, [15])] (gk_c mi_wsX5_heavyAt_wsX5_heavyAt_r1 gk_n) rfl (by decide +kernel)
set_option maxRecDepth 20000 in
theorem gX5_heavyAt_X5_within : GoodIn wsX5_heavyAt (va_wsS RX5 80 yX5_within wsX5_within) := goodIn_app (goodIn_k _ [(wsX5_heavyAt_r1, [13, 14, 7])] (gk_c mi_wsX5_heavyAt_wsX5_heavyAt_r1 gk_n) rfl (by decide +kernel)) ggX5_heavyAt_X5_within
theorem mi_wsX5_heavyAt_wsX5_heavyAt_r2 : ∀ w ∈ wsX5_heavyAt_r2, w ∈ wsX5_heavyAt := fun _ h => (List.mem_cons_of_mem _ (List.mem_append_left _ (List.mem_append_right _ h)))
set_option maxRecDepth 20000 in
theorem ggX5_heavyAt_X5_laysHeavy : GoodIn wsX5_heavyAt wsX5_laysHeavy := goodIn_k _ [(wsX5_heavyAt_r2, [0]), (wsX5_heavyAt_r1, [1]), (wsX5_heavyAt_r2, [1, 2, 3, 4]), (wsX5_heavyAt_r1, [7]), (wsX5_heavyAt_r2, [5, 6, 7, 8, 9]), (wsX5_heavyAt_r1, [3, 2]), (wsX50, [0, 1, 2, 3, 4, 5, 6, 7, 8, 9, 10, 11, 12, 13, 14, 15, 16, 17, 18, 19, 20, 21, 22, 23, 24, 25, 26, 27, 28, 29])] (gk_c mi_wsX5_heavyAt_wsX5_heavyAt_r2 (gk_c mi_wsX5_heavyAt_wsX5_heavyAt_r1 (gk_c mi_wsX5_heavyAt_wsX5_heavyAt_r2 (gk_c mi_wsX5_heavyAt_wsX5_heavyAt_r1 (gk_c mi_wsX5_heavyAt_wsX5_heavyAt_r2 (gk_c mi_wsX5_heavyAt_wsX5_heavyAt_r1 (gk_c mi_wsX5_heavyAt_wsX50 gk_n))))))) rfl (by decide +kernel)
set_option maxRecDepth 20000 in
theorem gX5_heavyAt_X5_laysHeavy : GoodIn wsX5_heavyAt (wsV RX5 190 RX5 yX5_laysHeavy wsX5_laysHeavy) := goodIn_app (goodIn_k _ [(wsX5_heavyAt_r1, [21, 22, 23, 7])] (gk_c mi_wsX5_heavyAt_wsX5_heavyAt_r1 gk_n) rfl (by decide +kernel)) ggX5_heavyAt_X5_laysHeavy
def dt_cX5_heavyAt_0 : List (Nat × Instr × Nat) := [(0, .aload_n 0, 1), (1, .iconst 1, 1), (2, .putfield 77, 3), (5, .aload_n 0, 1), (6, .iload_n 1, 1), (7, .iload_n 2, 1), (8, .invokevirtual 142, 3), (11, .ifCond .eq 32, 3), (14, .iload_n 3, 1), (15, .iload 4, 2), (17, .invokestatic 184, 3), (20, .ifCond .eq 23, 3), (23, .aload_n 0, 1), (24, .iload_n 3, 1), (25, .iload 4, 2), (27, .invokevirtual 187, 3), (30, .ifCond .eq 13, 3), (33, .iload 6, 2), (35, .iconst 0, 1), (36, .iconst 1, 1), (37, .invokestatic 80, 3), (40, .ifCond .ne 5, 3), (43, .iconst 0, 1), (44, .ireturn, 1), (45, .aload_n 0, 1), (46, .iload_n 1, 1), (47, .iload_n 2, 1), (48, .iconst 0, 1), (49, .iconst 0, 1), (50, .iload_n 3, 1), (51, .iload 4, 2), (53, .invokevirtual 190, 3), (56, .iload 5, 2), (58, .iconst 0, 1), (59, .aload_n 0, 1), (60, .getfield 178, 3), (63, .iconst 1, 1), (64, .isub, 1), (65, .invokestatic 80, 3), (68, .ifCond .ne 5, 3), (71, .iconst 0, 1), (72, .ireturn, 1), (73, .aload_n 0, 1), (74, .iconst 0, 1), (75, .putfield 77, 3), (78, .iload 6, 2), (80, .ifCond .ne 13, 3), (83, .aload_n 0, 1), (84, .getfield 62, 3), (87, .iload 5, 2), (89, .iaload, 1), (90, .goto 10, 3), (93, .aload_n 0, 1), (94, .getfield 65, 3), (97, .iload 5, 2), (99, .iaload, 1), (100, .ireturn, 1)]
theorem da_cX5_heavyAt_0 : dk_all cX5_heavyAt dt_cX5_heavyAt_0 = true := by decide +kernel
theorem dX5_heavyAt_0 : decode cX5_heavyAt 0 = .ok (.aload_n 0, 1) := dk_get _ da_cX5_heavyAt_0 0 _ _ _ rfl
theorem dX5_heavyAt_1 : decode cX5_heavyAt 1 = .ok (.iconst 1, 1) := dk_get _ da_cX5_heavyAt_0 1 _ _ _ rfl
theorem dX5_heavyAt_2 : decode cX5_heavyAt 2 = .ok (.putfield 77, 3) := dk_get _ da_cX5_heavyAt_0 2 _ _ _ rfl
theorem dX5_heavyAt_5 : decode cX5_heavyAt 5 = .ok (.aload_n 0, 1) := dk_get _ da_cX5_heavyAt_0 3 _ _ _ rfl
theorem dX5_heavyAt_6 : decode cX5_heavyAt 6 = .ok (.iload_n 1, 1) := dk_get _ da_cX5_heavyAt_0 4 _ _ _ rfl
theorem dX5_heavyAt_7 : decode cX5_heavyAt 7 = .ok (.iload_n 2, 1) := dk_get _ da_cX5_heavyAt_0 5 _ _ _ rfl
theorem dX5_heavyAt_8 : decode cX5_heavyAt 8 = .ok (.invokevirtual 142, 3) := dk_get _ da_cX5_heavyAt_0 6 _ _ _ rfl
theorem dX5_heavyAt_11 : decode cX5_heavyAt 11 = .ok (.ifCond .eq 32, 3) := dk_get _ da_cX5_heavyAt_0 7 _ _ _ rfl
theorem dX5_heavyAt_14 : decode cX5_heavyAt 14 = .ok (.iload_n 3, 1) := dk_get _ da_cX5_heavyAt_0 8 _ _ _ rfl
theorem dX5_heavyAt_15 : decode cX5_heavyAt 15 = .ok (.iload 4, 2) := dk_get _ da_cX5_heavyAt_0 9 _ _ _ rfl
theorem dX5_heavyAt_17 : decode cX5_heavyAt 17 = .ok (.invokestatic 184, 3) := dk_get _ da_cX5_heavyAt_0 10 _ _ _ rfl
theorem dX5_heavyAt_20 : decode cX5_heavyAt 20 = .ok (.ifCond .eq 23, 3) := dk_get _ da_cX5_heavyAt_0 11 _ _ _ rfl
theorem dX5_heavyAt_23 : decode cX5_heavyAt 23 = .ok (.aload_n 0, 1) := dk_get _ da_cX5_heavyAt_0 12 _ _ _ rfl
theorem dX5_heavyAt_24 : decode cX5_heavyAt 24 = .ok (.iload_n 3, 1) := dk_get _ da_cX5_heavyAt_0 13 _ _ _ rfl
theorem dX5_heavyAt_25 : decode cX5_heavyAt 25 = .ok (.iload 4, 2) := dk_get _ da_cX5_heavyAt_0 14 _ _ _ rfl
theorem dX5_heavyAt_27 : decode cX5_heavyAt 27 = .ok (.invokevirtual 187, 3) := dk_get _ da_cX5_heavyAt_0 15 _ _ _ rfl
theorem dX5_heavyAt_30 : decode cX5_heavyAt 30 = .ok (.ifCond .eq 13, 3) := dk_get _ da_cX5_heavyAt_0 16 _ _ _ rfl
theorem dX5_heavyAt_33 : decode cX5_heavyAt 33 = .ok (.iload 6, 2) := dk_get _ da_cX5_heavyAt_0 17 _ _ _ rfl
theorem dX5_heavyAt_35 : decode cX5_heavyAt 35 = .ok (.iconst 0, 1) := dk_get _ da_cX5_heavyAt_0 18 _ _ _ rfl
theorem dX5_heavyAt_36 : decode cX5_heavyAt 36 = .ok (.iconst 1, 1) := dk_get _ da_cX5_heavyAt_0 19 _ _ _ rfl
theorem dX5_heavyAt_37 : decode cX5_heavyAt 37 = .ok (.invokestatic 80, 3) := dk_get _ da_cX5_heavyAt_0 20 _ _ _ rfl
theorem dX5_heavyAt_40 : decode cX5_heavyAt 40 = .ok (.ifCond .ne 5, 3) := dk_get _ da_cX5_heavyAt_0 21 _ _ _ rfl
theorem dX5_heavyAt_43 : decode cX5_heavyAt 43 = .ok (.iconst 0, 1) := dk_get _ da_cX5_heavyAt_0 22 _ _ _ rfl
theorem dX5_heavyAt_44 : decode cX5_heavyAt 44 = .ok (.ireturn, 1) := dk_get _ da_cX5_heavyAt_0 23 _ _ _ rfl
theorem dX5_heavyAt_45 : decode cX5_heavyAt 45 = .ok (.aload_n 0, 1) := dk_get _ da_cX5_heavyAt_0 24 _ _ _ rfl
theorem dX5_heavyAt_46 : decode cX5_heavyAt 46 = .ok (.iload_n 1, 1) := dk_get _ da_cX5_heavyAt_0 25 _ _ _ rfl
theorem dX5_heavyAt_47 : decode cX5_heavyAt 47 = .ok (.iload_n 2, 1) := dk_get _ da_cX5_heavyAt_0 26 _ _ _ rfl
theorem dX5_heavyAt_48 : decode cX5_heavyAt 48 = .ok (.iconst 0, 1) := dk_get _ da_cX5_heavyAt_0 27 _ _ _ rfl
theorem dX5_heavyAt_49 : decode cX5_heavyAt 49 = .ok (.iconst 0, 1) := dk_get _ da_cX5_heavyAt_0 28 _ _ _ rfl
theorem dX5_heavyAt_50 : decode cX5_heavyAt 50 = .ok (.iload_n 3, 1) := dk_get _ da_cX5_heavyAt_0 29 _ _ _ rfl
theorem dX5_heavyAt_51 : decode cX5_heavyAt 51 = .ok (.iload 4, 2) := dk_get _ da_cX5_heavyAt_0 30 _ _ _ rfl
theorem dX5_heavyAt_53 : decode cX5_heavyAt 53 = .ok (.invokevirtual 190, 3) := dk_get _ da_cX5_heavyAt_0 31 _ _ _ rfl
theorem dX5_heavyAt_56 : decode cX5_heavyAt 56 = .ok (.iload 5, 2) := dk_get _ da_cX5_heavyAt_0 32 _ _ _ rfl
theorem dX5_heavyAt_58 : decode cX5_heavyAt 58 = .ok (.iconst 0, 1) := dk_get _ da_cX5_heavyAt_0 33 _ _ _ rfl
theorem dX5_heavyAt_59 : decode cX5_heavyAt 59 = .ok (.aload_n 0, 1) := dk_get _ da_cX5_heavyAt_0 34 _ _ _ rfl
theorem dX5_heavyAt_60 : decode cX5_heavyAt 60 = .ok (.getfield 178, 3) := dk_get _ da_cX5_heavyAt_0 35 _ _ _ rfl
theorem dX5_heavyAt_63 : decode cX5_heavyAt 63 = .ok (.iconst 1, 1) := dk_get _ da_cX5_heavyAt_0 36 _ _ _ rfl
theorem dX5_heavyAt_64 : decode cX5_heavyAt 64 = .ok (.isub, 1) := dk_get _ da_cX5_heavyAt_0 37 _ _ _ rfl
theorem dX5_heavyAt_65 : decode cX5_heavyAt 65 = .ok (.invokestatic 80, 3) := dk_get _ da_cX5_heavyAt_0 38 _ _ _ rfl
theorem dX5_heavyAt_68 : decode cX5_heavyAt 68 = .ok (.ifCond .ne 5, 3) := dk_get _ da_cX5_heavyAt_0 39 _ _ _ rfl
theorem dX5_heavyAt_71 : decode cX5_heavyAt 71 = .ok (.iconst 0, 1) := dk_get _ da_cX5_heavyAt_0 40 _ _ _ rfl
theorem dX5_heavyAt_72 : decode cX5_heavyAt 72 = .ok (.ireturn, 1) := dk_get _ da_cX5_heavyAt_0 41 _ _ _ rfl
theorem dX5_heavyAt_73 : decode cX5_heavyAt 73 = .ok (.aload_n 0, 1) := dk_get _ da_cX5_heavyAt_0 42 _ _ _ rfl
theorem dX5_heavyAt_74 : decode cX5_heavyAt 74 = .ok (.iconst 0, 1) := dk_get _ da_cX5_heavyAt_0 43 _ _ _ rfl
theorem dX5_heavyAt_75 : decode cX5_heavyAt 75 = .ok (.putfield 77, 3) := dk_get _ da_cX5_heavyAt_0 44 _ _ _ rfl
theorem dX5_heavyAt_78 : decode cX5_heavyAt 78 = .ok (.iload 6, 2) := dk_get _ da_cX5_heavyAt_0 45 _ _ _ rfl
theorem dX5_heavyAt_80 : decode cX5_heavyAt 80 = .ok (.ifCond .ne 13, 3) := dk_get _ da_cX5_heavyAt_0 46 _ _ _ rfl
theorem dX5_heavyAt_83 : decode cX5_heavyAt 83 = .ok (.aload_n 0, 1) := dk_get _ da_cX5_heavyAt_0 47 _ _ _ rfl
theorem dX5_heavyAt_84 : decode cX5_heavyAt 84 = .ok (.getfield 62, 3) := dk_get _ da_cX5_heavyAt_0 48 _ _ _ rfl
theorem dX5_heavyAt_87 : decode cX5_heavyAt 87 = .ok (.iload 5, 2) := dk_get _ da_cX5_heavyAt_0 49 _ _ _ rfl
theorem dX5_heavyAt_89 : decode cX5_heavyAt 89 = .ok (.iaload, 1) := dk_get _ da_cX5_heavyAt_0 50 _ _ _ rfl
theorem dX5_heavyAt_90 : decode cX5_heavyAt 90 = .ok (.goto 10, 3) := dk_get _ da_cX5_heavyAt_0 51 _ _ _ rfl
theorem dX5_heavyAt_93 : decode cX5_heavyAt 93 = .ok (.aload_n 0, 1) := dk_get _ da_cX5_heavyAt_0 52 _ _ _ rfl
theorem dX5_heavyAt_94 : decode cX5_heavyAt 94 = .ok (.getfield 65, 3) := dk_get _ da_cX5_heavyAt_0 53 _ _ _ rfl
theorem dX5_heavyAt_97 : decode cX5_heavyAt 97 = .ok (.iload 5, 2) := dk_get _ da_cX5_heavyAt_0 54 _ _ _ rfl
theorem dX5_heavyAt_99 : decode cX5_heavyAt 99 = .ok (.iaload, 1) := dk_get _ da_cX5_heavyAt_0 55 _ _ _ rfl
theorem dX5_heavyAt_100 : decode cX5_heavyAt 100 = .ok (.ireturn, 1) := dk_get _ da_cX5_heavyAt_0 56 _ _ _ rfl
theorem mi_wsX5_both_wsX5_both_r1 : ∀ w ∈ wsX5_both_r1, w ∈ wsX5_both := fun _ h => (List.mem_cons_of_mem _ (List.mem_append_left _ (List.mem_append_left _ h)))
theorem mi_wsX5_both_wsX50 : ∀ w ∈ wsX50, w ∈ wsX5_both := fun _ h => (List.mem_cons_of_mem _ (List.mem_append_right _ h))
set_option maxRecDepth 20000 in
theorem ggX5_both_X5_isRange : GoodIn wsX5_both wsX5_isRange := goodIn_k _ [(wsX5_both_r1, [6, 7]), (wsX50, [0, 1, 2, 3, 4, 5, 6, 7, 8, 9, 10, 11, 12, 13, 14, 15, 16, 17, 18, 19, 20, 21, 22, 23, 24, 25, 26, 27, 28, 29])] (gk_c mi_wsX5_both_wsX5_both_r1 (gk_c mi_wsX5_both_wsX50 gk_n)) rfl (by decide +kernel)
set_option maxRecDepth 20000 in
theorem gX5_both_X5_isRange : GoodIn wsX5_both (wsV RX5 142 RX5 yX5_isRange wsX5_isRange) := goodIn_app (goodIn_k _ [(wsX5_both_r1, [2, 3, 4, 5])] (gk_c mi_wsX5_both_wsX5_both_r1 gk_n) rfl (by decide +kernel)) ggX5_both_X5_isRange
set_option maxRecDepth 20000 in
theorem ggX5_both_X5_isShare : GoodIn wsX5_both wsX5_isShare := goodIn_k _ [(wsX5_both_r1, [10, 11, 12, 5, 13])] (gk_c mi_wsX5_both_wsX5_both_r1 gk_n) rfl (by decide +kernel)
set_option maxRecDepth 20000 in
theorem gX5_both_X5_isShare : GoodIn wsX5_both (va_wsS RX5 184 yX5_isShare wsX5_isShare) := goodIn_app (goodIn_k _ [(wsX5_both_r1, [8, 9, 5])] (gk_c mi_wsX5_both_wsX5_both_r1 gk_n) rfl (by decide +kernel)) ggX5_both_X5_isShare
set_option maxRecDepth 20000 in
theorem ggX5_both_X5_isEnough : GoodIn wsX5_both wsX5_isEnough := goodIn_k _ [(wsX5_both_r1, [17, 18]), (wsX50, [0, 1, 2, 3, 4, 5, 6, 7, 8, 9, 10, 11, 12, 13, 14, 15, 16, 17, 18, 19, 20, 21, 22, 23, 24, 25, 26, 27, 28, 29])] (gk_c mi_wsX5_both_wsX5_both_r1 (gk_c mi_wsX5_both_wsX50 gk_n)) rfl (by decide +kernel)
set_option maxRecDepth 20000 in
theorem gX5_both_X5_isEnough : GoodIn wsX5_both (wsV RX5 187 RX5 yX5_isEnough wsX5_isEnough) := goodIn_app (goodIn_k _ [(wsX5_both_r1, [14, 15, 16, 5])] (gk_c mi_wsX5_both_wsX5_both_r1 gk_n) rfl (by decide +kernel)) ggX5_both_X5_isEnough
theorem mi_wsX5_both_wsX5_both_r2 : ∀ w ∈ wsX5_both_r2, w ∈ wsX5_both := fun _ h => (List.mem_cons_of_mem _ (List.mem_append_left _ (List.mem_append_right _ h)))
set_option maxRecDepth 20000 in
theorem ggX5_both_X5_laysHeavy : GoodIn wsX5_both wsX5_laysHeavy := goodIn_k _ [(wsX5_both_r1, [22, 1, 23]), (wsX5_both_r2, [0, 1, 2]), (wsX5_both_r1, [5]), (wsX5_both_r2, [3, 4, 5, 6, 7, 8, 9]), (wsX50, [0, 1, 2, 3, 4, 5, 6, 7, 8, 9, 10, 11, 12, 13, 14, 15, 16, 17, 18, 19, 20, 21, 22, 23, 24, 25, 26, 27, 28, 29])] (gk_c mi_wsX5_both_wsX5_both_r1 (gk_c mi_wsX5_both_wsX5_both_r2 (gk_c mi_wsX5_both_wsX5_both_r1 (gk_c mi_wsX5_both_wsX5_both_r2 (gk_c mi_wsX5_both_wsX50 gk_n))))) rfl (by decide +kernel)
set_option maxRecDepth 20000 in
theorem gX5_both_X5_laysHeavy : GoodIn wsX5_both (wsV RX5 190 RX5 yX5_laysHeavy wsX5_laysHeavy) := goodIn_app (goodIn_k _ [(wsX5_both_r1, [19, 20, 21, 5])] (gk_c mi_wsX5_both_wsX5_both_r1 gk_n) rfl (by decide +kernel)) ggX5_both_X5_laysHeavy
def dt_cX5_both_0 : List (Nat × Instr × Nat) := [(0, .aload_n 0, 1), (1, .iconst 0, 1), (2, .putfield 77, 3), (5, .aload_n 0, 1), (6, .iload_n 1, 1), (7, .iload_n 2, 1), (8, .invokevirtual 142, 3), (11, .ifCond .eq 23, 3), (14, .aload_n 0, 1), (15, .iload_n 3, 1), (16, .iload 4, 2), (18, .invokevirtual 142, 3), (21, .ifCond .eq 13, 3), (24, .iload 5, 2), (26, .iload 6, 2), (28, .invokestatic 184, 3), (31, .ifCond .ne 5, 3), (34, .iconst (-1), 1), (35, .ireturn, 1), (36, .aload_n 0, 1), (37, .iload 5, 2), (39, .iload 6, 2), (41, .invokevirtual 187, 3), (44, .ifCond .ne 6, 3), (47, .bipush (-2), 2), (49, .ireturn, 1), (50, .iload_n 1, 1), (51, .iload 4, 2), (53, .if_icmp .ge 11, 3), (56, .iload_n 3, 1), (57, .iload_n 2, 1), (58, .if_icmp .ge 6, 3), (61, .bipush (-3), 2), (63, .ireturn, 1), (64, .aload_n 0, 1), (65, .iload_n 1, 1), (66, .iload_n 2, 1), (67, .iload_n 3, 1), (68, .iload 4, 2), (70, .iload 5, 2), (72, .iload 6, 2), (74, .invokevirtual 190, 3), (77, .aload_n 0, 1), (78, .getfield 178, 3), (81, .ireturn, 1)]
theorem da_cX5_both_0 : dk_all cX5_both dt_cX5_both_0 = true := by decide +kernel
theorem dX5_both_0 : decode cX5_both 0 = .ok (.aload_n 0, 1) := dk_get _ da_cX5_both_0 0 _ _ _ rfl
theorem dX5_both_1 : decode cX5_both 1 = .ok (.iconst 0, 1) := dk_get _ da_cX5_both_0 1 _ _ _ rfl
theorem dX5_both_2 : decode cX5_both 2 = .ok (.putfield 77, 3) := dk_get _ da_cX5_both_0 2 _ _ _ rfl
theorem dX5_both_5 : decode cX5_both 5 = .ok (.aload_n 0, 1) := dk_get _ da_cX5_both_0 3 _ _ _ rfl
theorem dX5_both_6 : decode cX5_both 6 = .ok (.iload_n 1, 1) := dk_get _ da_cX5_both_0 4 _ _ _ rfl
theorem dX5_both_7 : decode cX5_both 7 = .ok (.iload_n 2, 1) := dk_get _ da_cX5_both_0 5 _ _ _ rfl
theorem dX5_both_8 : decode cX5_both 8 = .ok (.invokevirtual 142, 3) := dk_get _ da_cX5_both_0 6 _ _ _ rfl
theorem dX5_both_11 : decode cX5_both 11 = .ok (.ifCond .eq 23, 3) := dk_get _ da_cX5_both_0 7 _ _ _ rfl
theorem dX5_both_14 : decode cX5_both 14 = .ok (.aload_n 0, 1) := dk_get _ da_cX5_both_0 8 _ _ _ rfl
theorem dX5_both_15 : decode cX5_both 15 = .ok (.iload_n 3, 1) := dk_get _ da_cX5_both_0 9 _ _ _ rfl
theorem dX5_both_16 : decode cX5_both 16 = .ok (.iload 4, 2) := dk_get _ da_cX5_both_0 10 _ _ _ rfl
theorem dX5_both_18 : decode cX5_both 18 = .ok (.invokevirtual 142, 3) := dk_get _ da_cX5_both_0 11 _ _ _ rfl
theorem dX5_both_21 : decode cX5_both 21 = .ok (.ifCond .eq 13, 3) := dk_get _ da_cX5_both_0 12 _ _ _ rfl
theorem dX5_both_24 : decode cX5_both 24 = .ok (.iload 5, 2) := dk_get _ da_cX5_both_0 13 _ _ _ rfl
theorem dX5_both_26 : decode cX5_both 26 = .ok (.iload 6, 2) := dk_get _ da_cX5_both_0 14 _ _ _ rfl
theorem dX5_both_28 : decode cX5_both 28 = .ok (.invokestatic 184, 3) := dk_get _ da_cX5_both_0 15 _ _ _ rfl
theorem dX5_both_31 : decode cX5_both 31 = .ok (.ifCond .ne 5, 3) := dk_get _ da_cX5_both_0 16 _ _ _ rfl
theorem dX5_both_34 : decode cX5_both 34 = .ok (.iconst (-1), 1) := dk_get _ da_cX5_both_0 17 _ _ _ rfl
theorem dX5_both_35 : decode cX5_both 35 = .ok (.ireturn, 1) := dk_get _ da_cX5_both_0 18 _ _ _ rfl
theorem dX5_both_36 : decode cX5_both 36 = .ok (.aload_n 0, 1) := dk_get _ da_cX5_both_0 19 _ _ _ rfl
theorem dX5_both_37 : decode cX5_both 37 = .ok (.iload 5, 2) := dk_get _ da_cX5_both_0 20 _ _ _ rfl
theorem dX5_both_39 : decode cX5_both 39 = .ok (.iload 6, 2) := dk_get _ da_cX5_both_0 21 _ _ _ rfl
theorem dX5_both_41 : decode cX5_both 41 = .ok (.invokevirtual 187, 3) := dk_get _ da_cX5_both_0 22 _ _ _ rfl
theorem dX5_both_44 : decode cX5_both 44 = .ok (.ifCond .ne 6, 3) := dk_get _ da_cX5_both_0 23 _ _ _ rfl
theorem dX5_both_47 : decode cX5_both 47 = .ok (.bipush (-2), 2) := dk_get _ da_cX5_both_0 24 _ _ _ rfl
theorem dX5_both_49 : decode cX5_both 49 = .ok (.ireturn, 1) := dk_get _ da_cX5_both_0 25 _ _ _ rfl
theorem dX5_both_50 : decode cX5_both 50 = .ok (.iload_n 1, 1) := dk_get _ da_cX5_both_0 26 _ _ _ rfl
theorem dX5_both_51 : decode cX5_both 51 = .ok (.iload 4, 2) := dk_get _ da_cX5_both_0 27 _ _ _ rfl
theorem dX5_both_53 : decode cX5_both 53 = .ok (.if_icmp .ge 11, 3) := dk_get _ da_cX5_both_0 28 _ _ _ rfl
theorem dX5_both_56 : decode cX5_both 56 = .ok (.iload_n 3, 1) := dk_get _ da_cX5_both_0 29 _ _ _ rfl
theorem dX5_both_57 : decode cX5_both 57 = .ok (.iload_n 2, 1) := dk_get _ da_cX5_both_0 30 _ _ _ rfl
theorem dX5_both_58 : decode cX5_both 58 = .ok (.if_icmp .ge 6, 3) := dk_get _ da_cX5_both_0 31 _ _ _ rfl
theorem dX5_both_61 : decode cX5_both 61 = .ok (.bipush (-3), 2) := dk_get _ da_cX5_both_0 32 _ _ _ rfl
theorem dX5_both_63 : decode cX5_both 63 = .ok (.ireturn, 1) := dk_get _ da_cX5_both_0 33 _ _ _ rfl
theorem dX5_both_64 : decode cX5_both 64 = .ok (.aload_n 0, 1) := dk_get _ da_cX5_both_0 34 _ _ _ rfl
theorem dX5_both_65 : decode cX5_both 65 = .ok (.iload_n 1, 1) := dk_get _ da_cX5_both_0 35 _ _ _ rfl
theorem dX5_both_66 : decode cX5_both 66 = .ok (.iload_n 2, 1) := dk_get _ da_cX5_both_0 36 _ _ _ rfl
theorem dX5_both_67 : decode cX5_both 67 = .ok (.iload_n 3, 1) := dk_get _ da_cX5_both_0 37 _ _ _ rfl
theorem dX5_both_68 : decode cX5_both 68 = .ok (.iload 4, 2) := dk_get _ da_cX5_both_0 38 _ _ _ rfl
theorem dX5_both_70 : decode cX5_both 70 = .ok (.iload 5, 2) := dk_get _ da_cX5_both_0 39 _ _ _ rfl
theorem dX5_both_72 : decode cX5_both 72 = .ok (.iload 6, 2) := dk_get _ da_cX5_both_0 40 _ _ _ rfl
theorem dX5_both_74 : decode cX5_both 74 = .ok (.invokevirtual 190, 3) := dk_get _ da_cX5_both_0 41 _ _ _ rfl
theorem dX5_both_77 : decode cX5_both 77 = .ok (.aload_n 0, 1) := dk_get _ da_cX5_both_0 42 _ _ _ rfl
theorem dX5_both_78 : decode cX5_both 78 = .ok (.getfield 178, 3) := dk_get _ da_cX5_both_0 43 _ _ _ rfl
theorem dX5_both_81 : decode cX5_both 81 = .ok (.ireturn, 1) := dk_get _ da_cX5_both_0 44 _ _ _ rfl
theorem mi_wsX5_bothAt_wsX5_bothAt_r1 : ∀ w ∈ wsX5_bothAt_r1, w ∈ wsX5_bothAt := fun _ h => (List.mem_cons_of_mem _ (List.mem_append_left _ (List.mem_append_left _ h)))
theorem mi_wsX5_bothAt_wsX5_bothAt_r2 : ∀ w ∈ wsX5_bothAt_r2, w ∈ wsX5_bothAt := fun _ h => (List.mem_cons_of_mem _ (List.mem_append_left _ (List.mem_append_right _ h)))
theorem mi_wsX5_bothAt_wsX50 : ∀ w ∈ wsX50, w ∈ wsX5_bothAt := fun _ h => (List.mem_cons_of_mem _ (List.mem_append_right _ h))
set_option maxRecDepth 20000 in
theorem ggX5_bothAt_X5_both : GoodIn wsX5_bothAt wsX5_both := goodIn_k _ [(wsX5_bothAt_r1, [6, 7, 8, 9, 10, 11, 5, 12, 13, 14, 15, 16, 17, 18, 19, 20, 21, 22, 23]), (wsX5_bothAt_r2, [0, 1, 2, 3, 4, 5, 6, 7, 8, 9, 10, 11, 12, 13, 14]), (wsX5_bothAt_r1, [0]), (wsX50, [0, 1, 2, 3, 4, 5, 6, 7, 8, 9, 10, 11, 12, 13, 14, 15, 16, 17, 18, 19, 20, 21, 22, 23, 24, 25, 26, 27, 28, 29])] (gk_c mi_wsX5_bothAt_wsX5_bothAt_r1 (gk_c mi_wsX5_bothAt_wsX5_bothAt_r2 (gk_c mi_wsX5_bothAt_wsX5_bothAt_r1 (gk_c mi_wsX5_bothAt_wsX50 gk_n)))) rfl (by decide +kernel)
set_option maxRecDepth 20000 in
theorem gX5_bothAt_X5_both : GoodIn wsX5_bothAt (wsV RX5 197 RX5 yX5_both wsX5_both) := goodIn_app (goodIn_k _ [(wsX5_bothAt_r1, [2, 3, 4, 5])] (gk_c mi_wsX5_bothAt_wsX5_bothAt_r1 gk_n) rfl (by decide +kernel)) ggX5_bothAt_X5_both
set_option maxRecDepth 20000 in
theorem ggX5_bothAt_X5_within : GoodIn wsX5_bothAt wsX5_within := goodIn_k _ [(wsX5_bothAt_r1, [19])] (gk_c mi_wsX5_bothAt_wsX5_bothAt_r1 gk_n) rfl (by decide +kernel)
set_option maxRecDepth 20000 in
theorem gX5_bothAt_X5_within : GoodIn wsX5_bothAt (va_wsS RX5 80 yX5_within wsX5_within) := goodIn_app (goodIn_k _ [(wsX5_bothAt_r1, [17, 18, 5])] (gk_c mi_wsX5_bothAt_wsX5_bothAt_r1 gk_n) rfl (by decide +kernel)) ggX5_bothAt_X5_within
def dt_cX5_bothAt_0 : List (Nat × Instr × Nat) := [(0, .aload_n 0, 1), (1, .iload_n 1, 1), (2, .iload_n 2, 1), (3, .iload_n 3, 1), (4, .iload 4, 2), (6, .iload 5, 2), (8, .iload 6, 2), (10, .invokevirtual 197, 3), (13, .istore 8, 2), (15, .iload 7, 2), (17, .iconst 0, 1), (18, .iload 8, 2), (20, .iconst 1, 1), (21, .isub, 1), (22, .invokestatic 80, 3), (25, .ifCond .eq 13, 3), (28, .aload_n 0, 1), (29, .getfield 62, 3), (32, .iload 7, 2), (34, .iaload, 1), (35, .goto 5, 3), (38, .ldc 148, 2), (40, .ireturn, 1)]
theorem da_cX5_bothAt_0 : dk_all cX5_bothAt dt_cX5_bothAt_0 = true := by decide +kernel
theorem dX5_bothAt_0 : decode cX5_bothAt 0 = .ok (.aload_n 0, 1) := dk_get _ da_cX5_bothAt_0 0 _ _ _ rfl
theorem dX5_bothAt_1 : decode cX5_bothAt 1 = .ok (.iload_n 1, 1) := dk_get _ da_cX5_bothAt_0 1 _ _ _ rfl
theorem dX5_bothAt_2 : decode cX5_bothAt 2 = .ok (.iload_n 2, 1) := dk_get _ da_cX5_bothAt_0 2 _ _ _ rfl
theorem dX5_bothAt_3 : decode cX5_bothAt 3 = .ok (.iload_n 3, 1) := dk_get _ da_cX5_bothAt_0 3 _ _ _ rfl
theorem dX5_bothAt_4 : decode cX5_bothAt 4 = .ok (.iload 4, 2) := dk_get _ da_cX5_bothAt_0 4 _ _ _ rfl
theorem dX5_bothAt_6 : decode cX5_bothAt 6 = .ok (.iload 5, 2) := dk_get _ da_cX5_bothAt_0 5 _ _ _ rfl
theorem dX5_bothAt_8 : decode cX5_bothAt 8 = .ok (.iload 6, 2) := dk_get _ da_cX5_bothAt_0 6 _ _ _ rfl
theorem dX5_bothAt_10 : decode cX5_bothAt 10 = .ok (.invokevirtual 197, 3) := dk_get _ da_cX5_bothAt_0 7 _ _ _ rfl
theorem dX5_bothAt_13 : decode cX5_bothAt 13 = .ok (.istore 8, 2) := dk_get _ da_cX5_bothAt_0 8 _ _ _ rfl
theorem dX5_bothAt_15 : decode cX5_bothAt 15 = .ok (.iload 7, 2) := dk_get _ da_cX5_bothAt_0 9 _ _ _ rfl
theorem dX5_bothAt_17 : decode cX5_bothAt 17 = .ok (.iconst 0, 1) := dk_get _ da_cX5_bothAt_0 10 _ _ _ rfl
theorem dX5_bothAt_18 : decode cX5_bothAt 18 = .ok (.iload 8, 2) := dk_get _ da_cX5_bothAt_0 11 _ _ _ rfl
theorem dX5_bothAt_20 : decode cX5_bothAt 20 = .ok (.iconst 1, 1) := dk_get _ da_cX5_bothAt_0 12 _ _ _ rfl
theorem dX5_bothAt_21 : decode cX5_bothAt 21 = .ok (.isub, 1) := dk_get _ da_cX5_bothAt_0 13 _ _ _ rfl
theorem dX5_bothAt_22 : decode cX5_bothAt 22 = .ok (.invokestatic 80, 3) := dk_get _ da_cX5_bothAt_0 14 _ _ _ rfl
theorem dX5_bothAt_25 : decode cX5_bothAt 25 = .ok (.ifCond .eq 13, 3) := dk_get _ da_cX5_bothAt_0 15 _ _ _ rfl
theorem dX5_bothAt_28 : decode cX5_bothAt 28 = .ok (.aload_n 0, 1) := dk_get _ da_cX5_bothAt_0 16 _ _ _ rfl
theorem dX5_bothAt_29 : decode cX5_bothAt 29 = .ok (.getfield 62, 3) := dk_get _ da_cX5_bothAt_0 17 _ _ _ rfl
theorem dX5_bothAt_32 : decode cX5_bothAt 32 = .ok (.iload 7, 2) := dk_get _ da_cX5_bothAt_0 18 _ _ _ rfl
theorem dX5_bothAt_34 : decode cX5_bothAt 34 = .ok (.iaload, 1) := dk_get _ da_cX5_bothAt_0 19 _ _ _ rfl
theorem dX5_bothAt_35 : decode cX5_bothAt 35 = .ok (.goto 5, 3) := dk_get _ da_cX5_bothAt_0 20 _ _ _ rfl
theorem dX5_bothAt_38 : decode cX5_bothAt 38 = .ok (.ldc 148, 2) := dk_get _ da_cX5_bothAt_0 21 _ _ _ rfl
theorem dX5_bothAt_40 : decode cX5_bothAt 40 = .ok (.ireturn, 1) := dk_get _ da_cX5_bothAt_0 22 _ _ _ rfl

