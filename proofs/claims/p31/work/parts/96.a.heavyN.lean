abbrev cX5_comes : ByteArray := prog_7_method_53_code
def yX5_comes : MethodName := ⟨RX5, "comes", "(II)V"⟩
abbrev cX5_laysHeavy : ByteArray := prog_7_method_54_code
def yX5_laysHeavy : MethodName := ⟨RX5, "laysHeavy", "(IIIIII)V"⟩
abbrev cX5_heavy : ByteArray := prog_7_method_56_code
def yX5_heavy : MethodName := ⟨RX5, "heavy", "(IIII)I"⟩
abbrev cX5_heavyAt : ByteArray := prog_7_method_57_code
def yX5_heavyAt : MethodName := ⟨RX5, "heavyAt", "(IIIIII)I"⟩
abbrev cX5_both : ByteArray := prog_7_method_63_code
def yX5_both : MethodName := ⟨RX5, "both", "(IIIIII)I"⟩
abbrev cX5_bothAt : ByteArray := prog_7_method_64_code
def yX5_bothAt : MethodName := ⟨RX5, "bothAt", "(IIIIIII)I"⟩
def wsX5_comes : List Cond := .code yX5_comes cX5_comes 4 none :: ([.fieldLink RX5 178 "MajorityIndexModel" "heavyMany" "I", .fieldLink RX5 65 "MajorityIndexModel" "heavyTimes" "[I", .fieldLink RX5 62 "MajorityIndexModel" "heavyValue" "[I"] ++ wsX50)
def wsX5_laysHeavy : List Cond := .code yX5_laysHeavy cX5_laysHeavy 10 none :: ([.fieldLink RX5 178 "MajorityIndexModel" "heavyMany" "I", .fieldLink RX5 7 "MajorityIndexModel" "row" "[I", .methodLink RX5 149 yX5_times, .instanceMethod yX5_times, .selects RX5 yX5_times yX5_times, .initialized RX5, .code yX5_times cX5_times 6 (some .int), .methodLink RX5 181 yX5_comes, .instanceMethod yX5_comes, .selects RX5 yX5_comes yX5_comes, .code yX5_comes cX5_comes 4 none, .fieldLink RX5 65 "MajorityIndexModel" "heavyTimes" "[I", .fieldLink RX5 62 "MajorityIndexModel" "heavyValue" "[I"] ++ wsX50)
def wsX5_heavy_r1 : List Cond := [Cond.fieldLink RX5 77 "MajorityIndexModel" "thrown" "I", Cond.fieldLink RX5 178 "MajorityIndexModel" "heavyMany" "I", Cond.methodLink RX5 142 yX5_isRange, Cond.instanceMethod yX5_isRange, Cond.selects RX5 yX5_isRange yX5_isRange, Cond.initialized RX5, Cond.code yX5_isRange cX5_isRange 3 (some .boolean), Cond.fieldLink RX5 84 "MajorityIndexModel" "n" "I", Cond.methodLink RX5 184 yX5_isShare, Cond.static yX5_isShare, Cond.code yX5_isShare cX5_isShare 2 (some .boolean), Cond.methodLink RX5 80 yX5_within, Cond.static yX5_within, Cond.code yX5_within cX5_within 3 (some .boolean), Cond.methodLink RX5 187 yX5_isEnough, Cond.instanceMethod yX5_isEnough, Cond.selects RX5 yX5_isEnough yX5_isEnough, Cond.code yX5_isEnough cX5_isEnough 3 (some .boolean), Cond.fieldLink RX5 13 "MajorityIndexModel" "slots" "I", Cond.methodLink RX5 190 yX5_laysHeavy, Cond.instanceMethod yX5_laysHeavy, Cond.selects RX5 yX5_laysHeavy yX5_laysHeavy, Cond.code yX5_laysHeavy cX5_laysHeavy 10 none, Cond.fieldLink RX5 7 "MajorityIndexModel" "row" "[I"]
def wsX5_heavy_r2 : List Cond := [Cond.methodLink RX5 149 yX5_times, Cond.instanceMethod yX5_times, Cond.selects RX5 yX5_times yX5_times, Cond.code yX5_times cX5_times 6 (some .int), Cond.methodLink RX5 181 yX5_comes, Cond.instanceMethod yX5_comes, Cond.selects RX5 yX5_comes yX5_comes, Cond.code yX5_comes cX5_comes 4 none, Cond.fieldLink RX5 65 "MajorityIndexModel" "heavyTimes" "[I", Cond.fieldLink RX5 62 "MajorityIndexModel" "heavyValue" "[I"]
def wsX5_heavy : List Cond := .code yX5_heavy cX5_heavy 5 (some .int) :: ((wsX5_heavy_r1 ++ wsX5_heavy_r2) ++ wsX50)
def wsX5_heavyAt_r1 : List Cond := [Cond.fieldLink RX5 77 "MajorityIndexModel" "thrown" "I", Cond.fieldLink RX5 178 "MajorityIndexModel" "heavyMany" "I", Cond.fieldLink RX5 62 "MajorityIndexModel" "heavyValue" "[I", Cond.fieldLink RX5 65 "MajorityIndexModel" "heavyTimes" "[I", Cond.methodLink RX5 142 yX5_isRange, Cond.instanceMethod yX5_isRange, Cond.selects RX5 yX5_isRange yX5_isRange, Cond.initialized RX5, Cond.code yX5_isRange cX5_isRange 3 (some .boolean), Cond.fieldLink RX5 84 "MajorityIndexModel" "n" "I", Cond.methodLink RX5 184 yX5_isShare, Cond.static yX5_isShare, Cond.code yX5_isShare cX5_isShare 2 (some .boolean), Cond.methodLink RX5 80 yX5_within, Cond.static yX5_within, Cond.code yX5_within cX5_within 3 (some .boolean), Cond.methodLink RX5 187 yX5_isEnough, Cond.instanceMethod yX5_isEnough, Cond.selects RX5 yX5_isEnough yX5_isEnough, Cond.code yX5_isEnough cX5_isEnough 3 (some .boolean), Cond.fieldLink RX5 13 "MajorityIndexModel" "slots" "I", Cond.methodLink RX5 190 yX5_laysHeavy, Cond.instanceMethod yX5_laysHeavy, Cond.selects RX5 yX5_laysHeavy yX5_laysHeavy]
def wsX5_heavyAt_r2 : List Cond := [Cond.code yX5_laysHeavy cX5_laysHeavy 10 none, Cond.fieldLink RX5 7 "MajorityIndexModel" "row" "[I", Cond.methodLink RX5 149 yX5_times, Cond.instanceMethod yX5_times, Cond.selects RX5 yX5_times yX5_times, Cond.code yX5_times cX5_times 6 (some .int), Cond.methodLink RX5 181 yX5_comes, Cond.instanceMethod yX5_comes, Cond.selects RX5 yX5_comes yX5_comes, Cond.code yX5_comes cX5_comes 4 none]
def wsX5_heavyAt : List Cond := .code yX5_heavyAt cX5_heavyAt 7 (some .int) :: ((wsX5_heavyAt_r1 ++ wsX5_heavyAt_r2) ++ wsX50)
def wsX5_both_r1 : List Cond := [Cond.fieldLink RX5 77 "MajorityIndexModel" "thrown" "I", Cond.fieldLink RX5 178 "MajorityIndexModel" "heavyMany" "I", Cond.methodLink RX5 142 yX5_isRange, Cond.instanceMethod yX5_isRange, Cond.selects RX5 yX5_isRange yX5_isRange, Cond.initialized RX5, Cond.code yX5_isRange cX5_isRange 3 (some .boolean), Cond.fieldLink RX5 84 "MajorityIndexModel" "n" "I", Cond.methodLink RX5 184 yX5_isShare, Cond.static yX5_isShare, Cond.code yX5_isShare cX5_isShare 2 (some .boolean), Cond.methodLink RX5 80 yX5_within, Cond.static yX5_within, Cond.code yX5_within cX5_within 3 (some .boolean), Cond.methodLink RX5 187 yX5_isEnough, Cond.instanceMethod yX5_isEnough, Cond.selects RX5 yX5_isEnough yX5_isEnough, Cond.code yX5_isEnough cX5_isEnough 3 (some .boolean), Cond.fieldLink RX5 13 "MajorityIndexModel" "slots" "I", Cond.methodLink RX5 190 yX5_laysHeavy, Cond.instanceMethod yX5_laysHeavy, Cond.selects RX5 yX5_laysHeavy yX5_laysHeavy, Cond.code yX5_laysHeavy cX5_laysHeavy 10 none, Cond.fieldLink RX5 7 "MajorityIndexModel" "row" "[I"]
def wsX5_both_r2 : List Cond := [Cond.methodLink RX5 149 yX5_times, Cond.instanceMethod yX5_times, Cond.selects RX5 yX5_times yX5_times, Cond.code yX5_times cX5_times 6 (some .int), Cond.methodLink RX5 181 yX5_comes, Cond.instanceMethod yX5_comes, Cond.selects RX5 yX5_comes yX5_comes, Cond.code yX5_comes cX5_comes 4 none, Cond.fieldLink RX5 65 "MajorityIndexModel" "heavyTimes" "[I", Cond.fieldLink RX5 62 "MajorityIndexModel" "heavyValue" "[I"]
def wsX5_both : List Cond := .code yX5_both cX5_both 7 (some .int) :: ((wsX5_both_r1 ++ wsX5_both_r2) ++ wsX50)
def wsX5_bothAt_r1 : List Cond := [Cond.fieldLink RX5 62 "MajorityIndexModel" "heavyValue" "[I", Cond.constant RX5 148 (-40000), Cond.methodLink RX5 197 yX5_both, Cond.instanceMethod yX5_both, Cond.selects RX5 yX5_both yX5_both, Cond.initialized RX5, Cond.code yX5_both cX5_both 7 (some .int), Cond.fieldLink RX5 77 "MajorityIndexModel" "thrown" "I", Cond.fieldLink RX5 178 "MajorityIndexModel" "heavyMany" "I", Cond.methodLink RX5 142 yX5_isRange, Cond.instanceMethod yX5_isRange, Cond.selects RX5 yX5_isRange yX5_isRange, Cond.code yX5_isRange cX5_isRange 3 (some .boolean), Cond.fieldLink RX5 84 "MajorityIndexModel" "n" "I", Cond.methodLink RX5 184 yX5_isShare, Cond.static yX5_isShare, Cond.code yX5_isShare cX5_isShare 2 (some .boolean), Cond.methodLink RX5 80 yX5_within, Cond.static yX5_within, Cond.code yX5_within cX5_within 3 (some .boolean), Cond.methodLink RX5 187 yX5_isEnough, Cond.instanceMethod yX5_isEnough, Cond.selects RX5 yX5_isEnough yX5_isEnough, Cond.code yX5_isEnough cX5_isEnough 3 (some .boolean)]
def wsX5_bothAt_r2 : List Cond := [Cond.fieldLink RX5 13 "MajorityIndexModel" "slots" "I", Cond.methodLink RX5 190 yX5_laysHeavy, Cond.instanceMethod yX5_laysHeavy, Cond.selects RX5 yX5_laysHeavy yX5_laysHeavy, Cond.code yX5_laysHeavy cX5_laysHeavy 10 none, Cond.fieldLink RX5 7 "MajorityIndexModel" "row" "[I", Cond.methodLink RX5 149 yX5_times, Cond.instanceMethod yX5_times, Cond.selects RX5 yX5_times yX5_times, Cond.code yX5_times cX5_times 6 (some .int), Cond.methodLink RX5 181 yX5_comes, Cond.instanceMethod yX5_comes, Cond.selects RX5 yX5_comes yX5_comes, Cond.code yX5_comes cX5_comes 4 none, Cond.fieldLink RX5 65 "MajorityIndexModel" "heavyTimes" "[I"]
def wsX5_bothAt : List Cond := .code yX5_bothAt cX5_bothAt 9 (some .int) :: ((wsX5_bothAt_r1 ++ wsX5_bothAt_r2) ++ wsX50)
def dt_cX5_comes_0 : List (Nat × Nat × Nat × Nat) := [(0, 42, 0, 0), (1, 180, 2, 178), (4, 62, 0, 0), (5, 29, 0, 0), (6, 158, 2, 73), (9, 42, 0, 0), (10, 180, 2, 65), (13, 29, 0, 0), (14, 4, 0, 0), (15, 100, 0, 0), (16, 46, 0, 0), (17, 28, 0, 0), (18, 161, 2, 27), (21, 42, 0, 0), (22, 180, 2, 65), (25, 29, 0, 0), (26, 4, 0, 0), (27, 100, 0, 0), (28, 46, 0, 0), (29, 28, 0, 0)]
theorem da_cX5_comes_0 : fw dt_cX5_comes_0 0 cX5_comes.data.toList = true := by decide +kernel
theorem dX5_comes_0 : decode cX5_comes 0 = .ok (.aload_n 0, 1) := fo_42 (fw_get da_cX5_comes_0 0 rfl)
theorem dX5_comes_1 : decode cX5_comes 1 = .ok (.getfield 178, 3) := fo_180 (fw_get da_cX5_comes_0 1 rfl)
theorem dX5_comes_4 : decode cX5_comes 4 = .ok (.istore_n 3, 1) := fo_62 (fw_get da_cX5_comes_0 2 rfl)
theorem dX5_comes_5 : decode cX5_comes 5 = .ok (.iload_n 3, 1) := fo_29 (fw_get da_cX5_comes_0 3 rfl)
theorem dX5_comes_6 : decode cX5_comes 6 = .ok (.ifCond .le 73, 3) := fo_158 (fw_get da_cX5_comes_0 4 rfl) (by decide +kernel)
theorem dX5_comes_9 : decode cX5_comes 9 = .ok (.aload_n 0, 1) := fo_42 (fw_get da_cX5_comes_0 5 rfl)
theorem dX5_comes_10 : decode cX5_comes 10 = .ok (.getfield 65, 3) := fo_180 (fw_get da_cX5_comes_0 6 rfl)
theorem dX5_comes_13 : decode cX5_comes 13 = .ok (.iload_n 3, 1) := fo_29 (fw_get da_cX5_comes_0 7 rfl)
theorem dX5_comes_14 : decode cX5_comes 14 = .ok (.iconst 1, 1) := fo_4 (fw_get da_cX5_comes_0 8 rfl)
theorem dX5_comes_15 : decode cX5_comes 15 = .ok (.isub, 1) := fo_100 (fw_get da_cX5_comes_0 9 rfl)
theorem dX5_comes_16 : decode cX5_comes 16 = .ok (.iaload, 1) := fo_46 (fw_get da_cX5_comes_0 10 rfl)
theorem dX5_comes_17 : decode cX5_comes 17 = .ok (.iload_n 2, 1) := fo_28 (fw_get da_cX5_comes_0 11 rfl)
theorem dX5_comes_18 : decode cX5_comes 18 = .ok (.if_icmp .lt 27, 3) := fo_161 (fw_get da_cX5_comes_0 12 rfl) (by decide +kernel)
theorem dX5_comes_21 : decode cX5_comes 21 = .ok (.aload_n 0, 1) := fo_42 (fw_get da_cX5_comes_0 13 rfl)
theorem dX5_comes_22 : decode cX5_comes 22 = .ok (.getfield 65, 3) := fo_180 (fw_get da_cX5_comes_0 14 rfl)
theorem dX5_comes_25 : decode cX5_comes 25 = .ok (.iload_n 3, 1) := fo_29 (fw_get da_cX5_comes_0 15 rfl)
theorem dX5_comes_26 : decode cX5_comes 26 = .ok (.iconst 1, 1) := fo_4 (fw_get da_cX5_comes_0 16 rfl)
theorem dX5_comes_27 : decode cX5_comes 27 = .ok (.isub, 1) := fo_100 (fw_get da_cX5_comes_0 17 rfl)
theorem dX5_comes_28 : decode cX5_comes 28 = .ok (.iaload, 1) := fo_46 (fw_get da_cX5_comes_0 18 rfl)
theorem dX5_comes_29 : decode cX5_comes 29 = .ok (.iload_n 2, 1) := fo_28 (fw_get da_cX5_comes_0 19 rfl)
def dt_cX5_comes_1 : List (Nat × Nat × Nat × Nat) := [(30, 160, 2, 49), (33, 42, 0, 0), (34, 180, 2, 62), (37, 29, 0, 0), (38, 4, 0, 0), (39, 100, 0, 0), (40, 46, 0, 0), (41, 27, 0, 0), (42, 164, 2, 37), (45, 42, 0, 0), (46, 180, 2, 62), (49, 29, 0, 0), (50, 42, 0, 0), (51, 180, 2, 62), (54, 29, 0, 0), (55, 4, 0, 0), (56, 100, 0, 0), (57, 46, 0, 0), (58, 79, 0, 0), (59, 42, 0, 0)]
theorem da_cX5_comes_1 : fw dt_cX5_comes_1 0 cX5_comes.data.toList = true := by decide +kernel
theorem dX5_comes_30 : decode cX5_comes 30 = .ok (.if_icmp .ne 49, 3) := fo_160 (fw_get da_cX5_comes_1 0 rfl) (by decide +kernel)
theorem dX5_comes_33 : decode cX5_comes 33 = .ok (.aload_n 0, 1) := fo_42 (fw_get da_cX5_comes_1 1 rfl)
theorem dX5_comes_34 : decode cX5_comes 34 = .ok (.getfield 62, 3) := fo_180 (fw_get da_cX5_comes_1 2 rfl)
theorem dX5_comes_37 : decode cX5_comes 37 = .ok (.iload_n 3, 1) := fo_29 (fw_get da_cX5_comes_1 3 rfl)
theorem dX5_comes_38 : decode cX5_comes 38 = .ok (.iconst 1, 1) := fo_4 (fw_get da_cX5_comes_1 4 rfl)
theorem dX5_comes_39 : decode cX5_comes 39 = .ok (.isub, 1) := fo_100 (fw_get da_cX5_comes_1 5 rfl)
theorem dX5_comes_40 : decode cX5_comes 40 = .ok (.iaload, 1) := fo_46 (fw_get da_cX5_comes_1 6 rfl)
theorem dX5_comes_41 : decode cX5_comes 41 = .ok (.iload_n 1, 1) := fo_27 (fw_get da_cX5_comes_1 7 rfl)
theorem dX5_comes_42 : decode cX5_comes 42 = .ok (.if_icmp .le 37, 3) := fo_164 (fw_get da_cX5_comes_1 8 rfl) (by decide +kernel)
theorem dX5_comes_45 : decode cX5_comes 45 = .ok (.aload_n 0, 1) := fo_42 (fw_get da_cX5_comes_1 9 rfl)
theorem dX5_comes_46 : decode cX5_comes 46 = .ok (.getfield 62, 3) := fo_180 (fw_get da_cX5_comes_1 10 rfl)
theorem dX5_comes_49 : decode cX5_comes 49 = .ok (.iload_n 3, 1) := fo_29 (fw_get da_cX5_comes_1 11 rfl)
theorem dX5_comes_50 : decode cX5_comes 50 = .ok (.aload_n 0, 1) := fo_42 (fw_get da_cX5_comes_1 12 rfl)
theorem dX5_comes_51 : decode cX5_comes 51 = .ok (.getfield 62, 3) := fo_180 (fw_get da_cX5_comes_1 13 rfl)
theorem dX5_comes_54 : decode cX5_comes 54 = .ok (.iload_n 3, 1) := fo_29 (fw_get da_cX5_comes_1 14 rfl)
theorem dX5_comes_55 : decode cX5_comes 55 = .ok (.iconst 1, 1) := fo_4 (fw_get da_cX5_comes_1 15 rfl)
theorem dX5_comes_56 : decode cX5_comes 56 = .ok (.isub, 1) := fo_100 (fw_get da_cX5_comes_1 16 rfl)
theorem dX5_comes_57 : decode cX5_comes 57 = .ok (.iaload, 1) := fo_46 (fw_get da_cX5_comes_1 17 rfl)
theorem dX5_comes_58 : decode cX5_comes 58 = .ok (.iastore, 1) := fo_79 (fw_get da_cX5_comes_1 18 rfl)
theorem dX5_comes_59 : decode cX5_comes 59 = .ok (.aload_n 0, 1) := fo_42 (fw_get da_cX5_comes_1 19 rfl)
def dt_cX5_comes_2 : List (Nat × Nat × Nat × Nat) := [(60, 180, 2, 65), (63, 29, 0, 0), (64, 42, 0, 0), (65, 180, 2, 65), (68, 29, 0, 0), (69, 4, 0, 0), (70, 100, 0, 0), (71, 46, 0, 0), (72, 79, 0, 0), (73, 132, 2, 1023), (76, 167, 2, 65465), (79, 42, 0, 0), (80, 180, 2, 62), (83, 29, 0, 0), (84, 27, 0, 0), (85, 79, 0, 0), (86, 42, 0, 0), (87, 180, 2, 65), (90, 29, 0, 0), (91, 28, 0, 0)]
theorem da_cX5_comes_2 : fw dt_cX5_comes_2 0 cX5_comes.data.toList = true := by decide +kernel
theorem dX5_comes_60 : decode cX5_comes 60 = .ok (.getfield 65, 3) := fo_180 (fw_get da_cX5_comes_2 0 rfl)
theorem dX5_comes_63 : decode cX5_comes 63 = .ok (.iload_n 3, 1) := fo_29 (fw_get da_cX5_comes_2 1 rfl)
theorem dX5_comes_64 : decode cX5_comes 64 = .ok (.aload_n 0, 1) := fo_42 (fw_get da_cX5_comes_2 2 rfl)
theorem dX5_comes_65 : decode cX5_comes 65 = .ok (.getfield 65, 3) := fo_180 (fw_get da_cX5_comes_2 3 rfl)
theorem dX5_comes_68 : decode cX5_comes 68 = .ok (.iload_n 3, 1) := fo_29 (fw_get da_cX5_comes_2 4 rfl)
theorem dX5_comes_69 : decode cX5_comes 69 = .ok (.iconst 1, 1) := fo_4 (fw_get da_cX5_comes_2 5 rfl)
theorem dX5_comes_70 : decode cX5_comes 70 = .ok (.isub, 1) := fo_100 (fw_get da_cX5_comes_2 6 rfl)
theorem dX5_comes_71 : decode cX5_comes 71 = .ok (.iaload, 1) := fo_46 (fw_get da_cX5_comes_2 7 rfl)
theorem dX5_comes_72 : decode cX5_comes 72 = .ok (.iastore, 1) := fo_79 (fw_get da_cX5_comes_2 8 rfl)
theorem dX5_comes_73 : decode cX5_comes 73 = .ok (.iinc 3 (-1), 3) := fo_132 (fw_get da_cX5_comes_2 9 rfl) rfl (by decide +kernel)
theorem dX5_comes_76 : decode cX5_comes 76 = .ok (.goto (-71), 3) := fo_167 (fw_get da_cX5_comes_2 10 rfl) (by decide +kernel)
theorem dX5_comes_79 : decode cX5_comes 79 = .ok (.aload_n 0, 1) := fo_42 (fw_get da_cX5_comes_2 11 rfl)
theorem dX5_comes_80 : decode cX5_comes 80 = .ok (.getfield 62, 3) := fo_180 (fw_get da_cX5_comes_2 12 rfl)
theorem dX5_comes_83 : decode cX5_comes 83 = .ok (.iload_n 3, 1) := fo_29 (fw_get da_cX5_comes_2 13 rfl)
theorem dX5_comes_84 : decode cX5_comes 84 = .ok (.iload_n 1, 1) := fo_27 (fw_get da_cX5_comes_2 14 rfl)
theorem dX5_comes_85 : decode cX5_comes 85 = .ok (.iastore, 1) := fo_79 (fw_get da_cX5_comes_2 15 rfl)
theorem dX5_comes_86 : decode cX5_comes 86 = .ok (.aload_n 0, 1) := fo_42 (fw_get da_cX5_comes_2 16 rfl)
theorem dX5_comes_87 : decode cX5_comes 87 = .ok (.getfield 65, 3) := fo_180 (fw_get da_cX5_comes_2 17 rfl)
theorem dX5_comes_90 : decode cX5_comes 90 = .ok (.iload_n 3, 1) := fo_29 (fw_get da_cX5_comes_2 18 rfl)
theorem dX5_comes_91 : decode cX5_comes 91 = .ok (.iload_n 2, 1) := fo_28 (fw_get da_cX5_comes_2 19 rfl)
def dt_cX5_comes_3 : List (Nat × Nat × Nat × Nat) := [(92, 79, 0, 0), (93, 42, 0, 0), (94, 89, 0, 0), (95, 180, 2, 178), (98, 4, 0, 0), (99, 96, 0, 0), (100, 181, 2, 178), (103, 177, 0, 0)]
theorem da_cX5_comes_3 : fw dt_cX5_comes_3 0 cX5_comes.data.toList = true := by decide +kernel
theorem dX5_comes_92 : decode cX5_comes 92 = .ok (.iastore, 1) := fo_79 (fw_get da_cX5_comes_3 0 rfl)
theorem dX5_comes_93 : decode cX5_comes 93 = .ok (.aload_n 0, 1) := fo_42 (fw_get da_cX5_comes_3 1 rfl)
theorem dX5_comes_94 : decode cX5_comes 94 = .ok (.dup, 1) := fo_89 (fw_get da_cX5_comes_3 2 rfl)
theorem dX5_comes_95 : decode cX5_comes 95 = .ok (.getfield 178, 3) := fo_180 (fw_get da_cX5_comes_3 3 rfl)
theorem dX5_comes_98 : decode cX5_comes 98 = .ok (.iconst 1, 1) := fo_4 (fw_get da_cX5_comes_3 4 rfl)
theorem dX5_comes_99 : decode cX5_comes 99 = .ok (.iadd, 1) := fo_96 (fw_get da_cX5_comes_3 5 rfl)
theorem dX5_comes_100 : decode cX5_comes 100 = .ok (.putfield 178, 3) := fo_181 (fw_get da_cX5_comes_3 6 rfl)
theorem dX5_comes_103 : decode cX5_comes 103 = .ok (.return_, 1) := fo_177 (fw_get da_cX5_comes_3 7 rfl)
set_option maxRecDepth 20000 in
theorem ggX5_laysHeavy_X5_times : GoodIn wsX5_laysHeavy wsX5_times := goodIn_r _ [7, 2, 14, 15, 16, 17, 18, 19, 20, 21, 22, 23, 24, 25, 26, 27, 28, 29, 30, 31, 32, 33, 34, 35, 36, 37, 38, 39, 40, 41, 42, 43] rfl (by decide +kernel)
set_option maxRecDepth 20000 in
theorem gX5_laysHeavy_X5_times : GoodIn wsX5_laysHeavy (wsV RX5 149 RX5 yX5_times wsX5_times) := goodIn_app (goodIn_r _ [3, 4, 5, 6] rfl (by decide +kernel)) ggX5_laysHeavy_X5_times
set_option maxRecDepth 20000 in
theorem ggX5_laysHeavy_X5_comes : GoodIn wsX5_laysHeavy wsX5_comes := goodIn_r _ [11, 1, 12, 13, 14, 15, 16, 17, 18, 19, 20, 21, 22, 23, 24, 25, 26, 27, 28, 29, 30, 31, 32, 33, 34, 35, 36, 37, 38, 39, 40, 41, 42, 43] rfl (by decide +kernel)
set_option maxRecDepth 20000 in
theorem gX5_laysHeavy_X5_comes : GoodIn wsX5_laysHeavy (wsV RX5 181 RX5 yX5_comes wsX5_comes) := goodIn_app (goodIn_r _ [8, 9, 10, 6] rfl (by decide +kernel)) ggX5_laysHeavy_X5_comes
def dt_cX5_laysHeavy_0 : List (Nat × Nat × Nat × Nat) := [(0, 42, 0, 0), (1, 3, 0, 0), (2, 181, 2, 178), (5, 28, 0, 0), (6, 27, 0, 0), (7, 100, 0, 0), (8, 21, 1, 4), (10, 96, 0, 0), (11, 29, 0, 0), (12, 100, 0, 0), (13, 54, 1, 7), (15, 27, 0, 0), (16, 54, 1, 8), (18, 21, 1, 8), (20, 28, 0, 0), (21, 162, 2, 82), (24, 42, 0, 0), (25, 42, 0, 0), (26, 180, 2, 7), (29, 21, 1, 8)]
theorem da_cX5_laysHeavy_0 : fw dt_cX5_laysHeavy_0 0 cX5_laysHeavy.data.toList = true := by decide +kernel
theorem dX5_laysHeavy_0 : decode cX5_laysHeavy 0 = .ok (.aload_n 0, 1) := fo_42 (fw_get da_cX5_laysHeavy_0 0 rfl)
theorem dX5_laysHeavy_1 : decode cX5_laysHeavy 1 = .ok (.iconst 0, 1) := fo_3 (fw_get da_cX5_laysHeavy_0 1 rfl)
theorem dX5_laysHeavy_2 : decode cX5_laysHeavy 2 = .ok (.putfield 178, 3) := fo_181 (fw_get da_cX5_laysHeavy_0 2 rfl)
theorem dX5_laysHeavy_5 : decode cX5_laysHeavy 5 = .ok (.iload_n 2, 1) := fo_28 (fw_get da_cX5_laysHeavy_0 3 rfl)
theorem dX5_laysHeavy_6 : decode cX5_laysHeavy 6 = .ok (.iload_n 1, 1) := fo_27 (fw_get da_cX5_laysHeavy_0 4 rfl)
theorem dX5_laysHeavy_7 : decode cX5_laysHeavy 7 = .ok (.isub, 1) := fo_100 (fw_get da_cX5_laysHeavy_0 5 rfl)
theorem dX5_laysHeavy_8 : decode cX5_laysHeavy 8 = .ok (.iload 4, 2) := fo_21 (fw_get da_cX5_laysHeavy_0 6 rfl)
theorem dX5_laysHeavy_10 : decode cX5_laysHeavy 10 = .ok (.iadd, 1) := fo_96 (fw_get da_cX5_laysHeavy_0 7 rfl)
theorem dX5_laysHeavy_11 : decode cX5_laysHeavy 11 = .ok (.iload_n 3, 1) := fo_29 (fw_get da_cX5_laysHeavy_0 8 rfl)
theorem dX5_laysHeavy_12 : decode cX5_laysHeavy 12 = .ok (.isub, 1) := fo_100 (fw_get da_cX5_laysHeavy_0 9 rfl)
theorem dX5_laysHeavy_13 : decode cX5_laysHeavy 13 = .ok (.istore 7, 2) := fo_54 (fw_get da_cX5_laysHeavy_0 10 rfl)
theorem dX5_laysHeavy_15 : decode cX5_laysHeavy 15 = .ok (.iload_n 1, 1) := fo_27 (fw_get da_cX5_laysHeavy_0 11 rfl)
theorem dX5_laysHeavy_16 : decode cX5_laysHeavy 16 = .ok (.istore 8, 2) := fo_54 (fw_get da_cX5_laysHeavy_0 12 rfl)
theorem dX5_laysHeavy_18 : decode cX5_laysHeavy 18 = .ok (.iload 8, 2) := fo_21 (fw_get da_cX5_laysHeavy_0 13 rfl)
theorem dX5_laysHeavy_20 : decode cX5_laysHeavy 20 = .ok (.iload_n 2, 1) := fo_28 (fw_get da_cX5_laysHeavy_0 14 rfl)
theorem dX5_laysHeavy_21 : decode cX5_laysHeavy 21 = .ok (.if_icmp .ge 82, 3) := fo_162 (fw_get da_cX5_laysHeavy_0 15 rfl) (by decide +kernel)
theorem dX5_laysHeavy_24 : decode cX5_laysHeavy 24 = .ok (.aload_n 0, 1) := fo_42 (fw_get da_cX5_laysHeavy_0 16 rfl)
theorem dX5_laysHeavy_25 : decode cX5_laysHeavy 25 = .ok (.aload_n 0, 1) := fo_42 (fw_get da_cX5_laysHeavy_0 17 rfl)
theorem dX5_laysHeavy_26 : decode cX5_laysHeavy 26 = .ok (.getfield 7, 3) := fo_180 (fw_get da_cX5_laysHeavy_0 18 rfl)
theorem dX5_laysHeavy_29 : decode cX5_laysHeavy 29 = .ok (.iload 8, 2) := fo_21 (fw_get da_cX5_laysHeavy_0 19 rfl)
def dt_cX5_laysHeavy_1 : List (Nat × Nat × Nat × Nat) := [(31, 46, 0, 0), (32, 27, 0, 0), (33, 28, 0, 0), (34, 182, 2, 149), (37, 42, 0, 0), (38, 42, 0, 0), (39, 180, 2, 7), (42, 21, 1, 8), (44, 46, 0, 0), (45, 29, 0, 0), (46, 21, 1, 4), (48, 182, 2, 149), (51, 96, 0, 0), (52, 54, 1, 9), (54, 42, 0, 0), (55, 42, 0, 0), (56, 180, 2, 7), (59, 21, 1, 8), (61, 46, 0, 0), (62, 27, 0, 0)]
theorem da_cX5_laysHeavy_1 : fw dt_cX5_laysHeavy_1 0 cX5_laysHeavy.data.toList = true := by decide +kernel
theorem dX5_laysHeavy_31 : decode cX5_laysHeavy 31 = .ok (.iaload, 1) := fo_46 (fw_get da_cX5_laysHeavy_1 0 rfl)
theorem dX5_laysHeavy_32 : decode cX5_laysHeavy 32 = .ok (.iload_n 1, 1) := fo_27 (fw_get da_cX5_laysHeavy_1 1 rfl)
theorem dX5_laysHeavy_33 : decode cX5_laysHeavy 33 = .ok (.iload_n 2, 1) := fo_28 (fw_get da_cX5_laysHeavy_1 2 rfl)
theorem dX5_laysHeavy_34 : decode cX5_laysHeavy 34 = .ok (.invokevirtual 149, 3) := fo_182 (fw_get da_cX5_laysHeavy_1 3 rfl)
theorem dX5_laysHeavy_37 : decode cX5_laysHeavy 37 = .ok (.aload_n 0, 1) := fo_42 (fw_get da_cX5_laysHeavy_1 4 rfl)
theorem dX5_laysHeavy_38 : decode cX5_laysHeavy 38 = .ok (.aload_n 0, 1) := fo_42 (fw_get da_cX5_laysHeavy_1 5 rfl)
theorem dX5_laysHeavy_39 : decode cX5_laysHeavy 39 = .ok (.getfield 7, 3) := fo_180 (fw_get da_cX5_laysHeavy_1 6 rfl)
theorem dX5_laysHeavy_42 : decode cX5_laysHeavy 42 = .ok (.iload 8, 2) := fo_21 (fw_get da_cX5_laysHeavy_1 7 rfl)
theorem dX5_laysHeavy_44 : decode cX5_laysHeavy 44 = .ok (.iaload, 1) := fo_46 (fw_get da_cX5_laysHeavy_1 8 rfl)
theorem dX5_laysHeavy_45 : decode cX5_laysHeavy 45 = .ok (.iload_n 3, 1) := fo_29 (fw_get da_cX5_laysHeavy_1 9 rfl)
theorem dX5_laysHeavy_46 : decode cX5_laysHeavy 46 = .ok (.iload 4, 2) := fo_21 (fw_get da_cX5_laysHeavy_1 10 rfl)
theorem dX5_laysHeavy_48 : decode cX5_laysHeavy 48 = .ok (.invokevirtual 149, 3) := fo_182 (fw_get da_cX5_laysHeavy_1 11 rfl)
theorem dX5_laysHeavy_51 : decode cX5_laysHeavy 51 = .ok (.iadd, 1) := fo_96 (fw_get da_cX5_laysHeavy_1 12 rfl)
theorem dX5_laysHeavy_52 : decode cX5_laysHeavy 52 = .ok (.istore 9, 2) := fo_54 (fw_get da_cX5_laysHeavy_1 13 rfl)
theorem dX5_laysHeavy_54 : decode cX5_laysHeavy 54 = .ok (.aload_n 0, 1) := fo_42 (fw_get da_cX5_laysHeavy_1 14 rfl)
theorem dX5_laysHeavy_55 : decode cX5_laysHeavy 55 = .ok (.aload_n 0, 1) := fo_42 (fw_get da_cX5_laysHeavy_1 15 rfl)
theorem dX5_laysHeavy_56 : decode cX5_laysHeavy 56 = .ok (.getfield 7, 3) := fo_180 (fw_get da_cX5_laysHeavy_1 16 rfl)
theorem dX5_laysHeavy_59 : decode cX5_laysHeavy 59 = .ok (.iload 8, 2) := fo_21 (fw_get da_cX5_laysHeavy_1 17 rfl)
theorem dX5_laysHeavy_61 : decode cX5_laysHeavy 61 = .ok (.iaload, 1) := fo_46 (fw_get da_cX5_laysHeavy_1 18 rfl)
theorem dX5_laysHeavy_62 : decode cX5_laysHeavy 62 = .ok (.iload_n 1, 1) := fo_27 (fw_get da_cX5_laysHeavy_1 19 rfl)
def dt_cX5_laysHeavy_2 : List (Nat × Nat × Nat × Nat) := [(63, 21, 1, 8), (65, 182, 2, 149), (68, 154, 2, 29), (71, 21, 1, 9), (73, 21, 1, 6), (75, 104, 0, 0), (76, 21, 1, 5), (78, 21, 1, 7), (80, 104, 0, 0), (81, 164, 2, 16), (84, 42, 0, 0), (85, 42, 0, 0), (86, 180, 2, 7), (89, 21, 1, 8), (91, 46, 0, 0), (92, 21, 1, 9), (94, 182, 2, 181), (97, 132, 2, 2049), (100, 167, 2, 65454), (103, 29, 0, 0)]
theorem da_cX5_laysHeavy_2 : fw dt_cX5_laysHeavy_2 0 cX5_laysHeavy.data.toList = true := by decide +kernel
theorem dX5_laysHeavy_63 : decode cX5_laysHeavy 63 = .ok (.iload 8, 2) := fo_21 (fw_get da_cX5_laysHeavy_2 0 rfl)
theorem dX5_laysHeavy_65 : decode cX5_laysHeavy 65 = .ok (.invokevirtual 149, 3) := fo_182 (fw_get da_cX5_laysHeavy_2 1 rfl)
theorem dX5_laysHeavy_68 : decode cX5_laysHeavy 68 = .ok (.ifCond .ne 29, 3) := fo_154 (fw_get da_cX5_laysHeavy_2 2 rfl) (by decide +kernel)
theorem dX5_laysHeavy_71 : decode cX5_laysHeavy 71 = .ok (.iload 9, 2) := fo_21 (fw_get da_cX5_laysHeavy_2 3 rfl)
theorem dX5_laysHeavy_73 : decode cX5_laysHeavy 73 = .ok (.iload 6, 2) := fo_21 (fw_get da_cX5_laysHeavy_2 4 rfl)
theorem dX5_laysHeavy_75 : decode cX5_laysHeavy 75 = .ok (.imul, 1) := fo_104 (fw_get da_cX5_laysHeavy_2 5 rfl)
theorem dX5_laysHeavy_76 : decode cX5_laysHeavy 76 = .ok (.iload 5, 2) := fo_21 (fw_get da_cX5_laysHeavy_2 6 rfl)
theorem dX5_laysHeavy_78 : decode cX5_laysHeavy 78 = .ok (.iload 7, 2) := fo_21 (fw_get da_cX5_laysHeavy_2 7 rfl)
theorem dX5_laysHeavy_80 : decode cX5_laysHeavy 80 = .ok (.imul, 1) := fo_104 (fw_get da_cX5_laysHeavy_2 8 rfl)
theorem dX5_laysHeavy_81 : decode cX5_laysHeavy 81 = .ok (.if_icmp .le 16, 3) := fo_164 (fw_get da_cX5_laysHeavy_2 9 rfl) (by decide +kernel)
theorem dX5_laysHeavy_84 : decode cX5_laysHeavy 84 = .ok (.aload_n 0, 1) := fo_42 (fw_get da_cX5_laysHeavy_2 10 rfl)
theorem dX5_laysHeavy_85 : decode cX5_laysHeavy 85 = .ok (.aload_n 0, 1) := fo_42 (fw_get da_cX5_laysHeavy_2 11 rfl)
theorem dX5_laysHeavy_86 : decode cX5_laysHeavy 86 = .ok (.getfield 7, 3) := fo_180 (fw_get da_cX5_laysHeavy_2 12 rfl)
theorem dX5_laysHeavy_89 : decode cX5_laysHeavy 89 = .ok (.iload 8, 2) := fo_21 (fw_get da_cX5_laysHeavy_2 13 rfl)
theorem dX5_laysHeavy_91 : decode cX5_laysHeavy 91 = .ok (.iaload, 1) := fo_46 (fw_get da_cX5_laysHeavy_2 14 rfl)
theorem dX5_laysHeavy_92 : decode cX5_laysHeavy 92 = .ok (.iload 9, 2) := fo_21 (fw_get da_cX5_laysHeavy_2 15 rfl)
theorem dX5_laysHeavy_94 : decode cX5_laysHeavy 94 = .ok (.invokevirtual 181, 3) := fo_182 (fw_get da_cX5_laysHeavy_2 16 rfl)
theorem dX5_laysHeavy_97 : decode cX5_laysHeavy 97 = .ok (.iinc 8 1, 3) := fo_132 (fw_get da_cX5_laysHeavy_2 17 rfl) rfl (by decide +kernel)
theorem dX5_laysHeavy_100 : decode cX5_laysHeavy 100 = .ok (.goto (-82), 3) := fo_167 (fw_get da_cX5_laysHeavy_2 18 rfl) (by decide +kernel)
theorem dX5_laysHeavy_103 : decode cX5_laysHeavy 103 = .ok (.iload_n 3, 1) := fo_29 (fw_get da_cX5_laysHeavy_2 19 rfl)
def dt_cX5_laysHeavy_3 : List (Nat × Nat × Nat × Nat) := [(104, 54, 1, 8), (106, 21, 1, 8), (108, 21, 1, 4), (110, 162, 2, 98), (113, 42, 0, 0), (114, 42, 0, 0), (115, 180, 2, 7), (118, 21, 1, 8), (120, 46, 0, 0), (121, 27, 0, 0), (122, 28, 0, 0), (123, 182, 2, 149), (126, 42, 0, 0), (127, 42, 0, 0), (128, 180, 2, 7), (131, 21, 1, 8), (133, 46, 0, 0), (134, 29, 0, 0), (135, 21, 1, 4), (137, 182, 2, 149)]
theorem da_cX5_laysHeavy_3 : fw dt_cX5_laysHeavy_3 0 cX5_laysHeavy.data.toList = true := by decide +kernel
theorem dX5_laysHeavy_104 : decode cX5_laysHeavy 104 = .ok (.istore 8, 2) := fo_54 (fw_get da_cX5_laysHeavy_3 0 rfl)
theorem dX5_laysHeavy_106 : decode cX5_laysHeavy 106 = .ok (.iload 8, 2) := fo_21 (fw_get da_cX5_laysHeavy_3 1 rfl)
theorem dX5_laysHeavy_108 : decode cX5_laysHeavy 108 = .ok (.iload 4, 2) := fo_21 (fw_get da_cX5_laysHeavy_3 2 rfl)
theorem dX5_laysHeavy_110 : decode cX5_laysHeavy 110 = .ok (.if_icmp .ge 98, 3) := fo_162 (fw_get da_cX5_laysHeavy_3 3 rfl) (by decide +kernel)
theorem dX5_laysHeavy_113 : decode cX5_laysHeavy 113 = .ok (.aload_n 0, 1) := fo_42 (fw_get da_cX5_laysHeavy_3 4 rfl)
theorem dX5_laysHeavy_114 : decode cX5_laysHeavy 114 = .ok (.aload_n 0, 1) := fo_42 (fw_get da_cX5_laysHeavy_3 5 rfl)
theorem dX5_laysHeavy_115 : decode cX5_laysHeavy 115 = .ok (.getfield 7, 3) := fo_180 (fw_get da_cX5_laysHeavy_3 6 rfl)
theorem dX5_laysHeavy_118 : decode cX5_laysHeavy 118 = .ok (.iload 8, 2) := fo_21 (fw_get da_cX5_laysHeavy_3 7 rfl)
theorem dX5_laysHeavy_120 : decode cX5_laysHeavy 120 = .ok (.iaload, 1) := fo_46 (fw_get da_cX5_laysHeavy_3 8 rfl)
theorem dX5_laysHeavy_121 : decode cX5_laysHeavy 121 = .ok (.iload_n 1, 1) := fo_27 (fw_get da_cX5_laysHeavy_3 9 rfl)
theorem dX5_laysHeavy_122 : decode cX5_laysHeavy 122 = .ok (.iload_n 2, 1) := fo_28 (fw_get da_cX5_laysHeavy_3 10 rfl)
theorem dX5_laysHeavy_123 : decode cX5_laysHeavy 123 = .ok (.invokevirtual 149, 3) := fo_182 (fw_get da_cX5_laysHeavy_3 11 rfl)
theorem dX5_laysHeavy_126 : decode cX5_laysHeavy 126 = .ok (.aload_n 0, 1) := fo_42 (fw_get da_cX5_laysHeavy_3 12 rfl)
theorem dX5_laysHeavy_127 : decode cX5_laysHeavy 127 = .ok (.aload_n 0, 1) := fo_42 (fw_get da_cX5_laysHeavy_3 13 rfl)
theorem dX5_laysHeavy_128 : decode cX5_laysHeavy 128 = .ok (.getfield 7, 3) := fo_180 (fw_get da_cX5_laysHeavy_3 14 rfl)
theorem dX5_laysHeavy_131 : decode cX5_laysHeavy 131 = .ok (.iload 8, 2) := fo_21 (fw_get da_cX5_laysHeavy_3 15 rfl)
theorem dX5_laysHeavy_133 : decode cX5_laysHeavy 133 = .ok (.iaload, 1) := fo_46 (fw_get da_cX5_laysHeavy_3 16 rfl)
theorem dX5_laysHeavy_134 : decode cX5_laysHeavy 134 = .ok (.iload_n 3, 1) := fo_29 (fw_get da_cX5_laysHeavy_3 17 rfl)
theorem dX5_laysHeavy_135 : decode cX5_laysHeavy 135 = .ok (.iload 4, 2) := fo_21 (fw_get da_cX5_laysHeavy_3 18 rfl)
theorem dX5_laysHeavy_137 : decode cX5_laysHeavy 137 = .ok (.invokevirtual 149, 3) := fo_182 (fw_get da_cX5_laysHeavy_3 19 rfl)
def dt_cX5_laysHeavy_4 : List (Nat × Nat × Nat × Nat) := [(140, 96, 0, 0), (141, 54, 1, 9), (143, 42, 0, 0), (144, 42, 0, 0), (145, 180, 2, 7), (148, 21, 1, 8), (150, 46, 0, 0), (151, 27, 0, 0), (152, 28, 0, 0), (153, 182, 2, 149), (156, 154, 2, 46), (159, 42, 0, 0), (160, 42, 0, 0), (161, 180, 2, 7), (164, 21, 1, 8), (166, 46, 0, 0), (167, 29, 0, 0), (168, 21, 1, 8), (170, 182, 2, 149), (173, 154, 2, 29)]
theorem da_cX5_laysHeavy_4 : fw dt_cX5_laysHeavy_4 0 cX5_laysHeavy.data.toList = true := by decide +kernel
theorem dX5_laysHeavy_140 : decode cX5_laysHeavy 140 = .ok (.iadd, 1) := fo_96 (fw_get da_cX5_laysHeavy_4 0 rfl)
theorem dX5_laysHeavy_141 : decode cX5_laysHeavy 141 = .ok (.istore 9, 2) := fo_54 (fw_get da_cX5_laysHeavy_4 1 rfl)
theorem dX5_laysHeavy_143 : decode cX5_laysHeavy 143 = .ok (.aload_n 0, 1) := fo_42 (fw_get da_cX5_laysHeavy_4 2 rfl)
theorem dX5_laysHeavy_144 : decode cX5_laysHeavy 144 = .ok (.aload_n 0, 1) := fo_42 (fw_get da_cX5_laysHeavy_4 3 rfl)
theorem dX5_laysHeavy_145 : decode cX5_laysHeavy 145 = .ok (.getfield 7, 3) := fo_180 (fw_get da_cX5_laysHeavy_4 4 rfl)
theorem dX5_laysHeavy_148 : decode cX5_laysHeavy 148 = .ok (.iload 8, 2) := fo_21 (fw_get da_cX5_laysHeavy_4 5 rfl)
theorem dX5_laysHeavy_150 : decode cX5_laysHeavy 150 = .ok (.iaload, 1) := fo_46 (fw_get da_cX5_laysHeavy_4 6 rfl)
theorem dX5_laysHeavy_151 : decode cX5_laysHeavy 151 = .ok (.iload_n 1, 1) := fo_27 (fw_get da_cX5_laysHeavy_4 7 rfl)
theorem dX5_laysHeavy_152 : decode cX5_laysHeavy 152 = .ok (.iload_n 2, 1) := fo_28 (fw_get da_cX5_laysHeavy_4 8 rfl)
theorem dX5_laysHeavy_153 : decode cX5_laysHeavy 153 = .ok (.invokevirtual 149, 3) := fo_182 (fw_get da_cX5_laysHeavy_4 9 rfl)
theorem dX5_laysHeavy_156 : decode cX5_laysHeavy 156 = .ok (.ifCond .ne 46, 3) := fo_154 (fw_get da_cX5_laysHeavy_4 10 rfl) (by decide +kernel)
theorem dX5_laysHeavy_159 : decode cX5_laysHeavy 159 = .ok (.aload_n 0, 1) := fo_42 (fw_get da_cX5_laysHeavy_4 11 rfl)
theorem dX5_laysHeavy_160 : decode cX5_laysHeavy 160 = .ok (.aload_n 0, 1) := fo_42 (fw_get da_cX5_laysHeavy_4 12 rfl)
theorem dX5_laysHeavy_161 : decode cX5_laysHeavy 161 = .ok (.getfield 7, 3) := fo_180 (fw_get da_cX5_laysHeavy_4 13 rfl)
theorem dX5_laysHeavy_164 : decode cX5_laysHeavy 164 = .ok (.iload 8, 2) := fo_21 (fw_get da_cX5_laysHeavy_4 14 rfl)
theorem dX5_laysHeavy_166 : decode cX5_laysHeavy 166 = .ok (.iaload, 1) := fo_46 (fw_get da_cX5_laysHeavy_4 15 rfl)
theorem dX5_laysHeavy_167 : decode cX5_laysHeavy 167 = .ok (.iload_n 3, 1) := fo_29 (fw_get da_cX5_laysHeavy_4 16 rfl)
theorem dX5_laysHeavy_168 : decode cX5_laysHeavy 168 = .ok (.iload 8, 2) := fo_21 (fw_get da_cX5_laysHeavy_4 17 rfl)
theorem dX5_laysHeavy_170 : decode cX5_laysHeavy 170 = .ok (.invokevirtual 149, 3) := fo_182 (fw_get da_cX5_laysHeavy_4 18 rfl)
theorem dX5_laysHeavy_173 : decode cX5_laysHeavy 173 = .ok (.ifCond .ne 29, 3) := fo_154 (fw_get da_cX5_laysHeavy_4 19 rfl) (by decide +kernel)
def dt_cX5_laysHeavy_5 : List (Nat × Nat × Nat × Nat) := [(176, 21, 1, 9), (178, 21, 1, 6), (180, 104, 0, 0), (181, 21, 1, 5), (183, 21, 1, 7), (185, 104, 0, 0), (186, 164, 2, 16), (189, 42, 0, 0), (190, 42, 0, 0), (191, 180, 2, 7), (194, 21, 1, 8), (196, 46, 0, 0), (197, 21, 1, 9), (199, 182, 2, 181), (202, 132, 2, 2049), (205, 167, 2, 65437), (208, 177, 0, 0)]
theorem da_cX5_laysHeavy_5 : fw dt_cX5_laysHeavy_5 0 cX5_laysHeavy.data.toList = true := by decide +kernel
theorem dX5_laysHeavy_176 : decode cX5_laysHeavy 176 = .ok (.iload 9, 2) := fo_21 (fw_get da_cX5_laysHeavy_5 0 rfl)
theorem dX5_laysHeavy_178 : decode cX5_laysHeavy 178 = .ok (.iload 6, 2) := fo_21 (fw_get da_cX5_laysHeavy_5 1 rfl)
theorem dX5_laysHeavy_180 : decode cX5_laysHeavy 180 = .ok (.imul, 1) := fo_104 (fw_get da_cX5_laysHeavy_5 2 rfl)
theorem dX5_laysHeavy_181 : decode cX5_laysHeavy 181 = .ok (.iload 5, 2) := fo_21 (fw_get da_cX5_laysHeavy_5 3 rfl)
theorem dX5_laysHeavy_183 : decode cX5_laysHeavy 183 = .ok (.iload 7, 2) := fo_21 (fw_get da_cX5_laysHeavy_5 4 rfl)
theorem dX5_laysHeavy_185 : decode cX5_laysHeavy 185 = .ok (.imul, 1) := fo_104 (fw_get da_cX5_laysHeavy_5 5 rfl)
theorem dX5_laysHeavy_186 : decode cX5_laysHeavy 186 = .ok (.if_icmp .le 16, 3) := fo_164 (fw_get da_cX5_laysHeavy_5 6 rfl) (by decide +kernel)
theorem dX5_laysHeavy_189 : decode cX5_laysHeavy 189 = .ok (.aload_n 0, 1) := fo_42 (fw_get da_cX5_laysHeavy_5 7 rfl)
theorem dX5_laysHeavy_190 : decode cX5_laysHeavy 190 = .ok (.aload_n 0, 1) := fo_42 (fw_get da_cX5_laysHeavy_5 8 rfl)
theorem dX5_laysHeavy_191 : decode cX5_laysHeavy 191 = .ok (.getfield 7, 3) := fo_180 (fw_get da_cX5_laysHeavy_5 9 rfl)
theorem dX5_laysHeavy_194 : decode cX5_laysHeavy 194 = .ok (.iload 8, 2) := fo_21 (fw_get da_cX5_laysHeavy_5 10 rfl)
theorem dX5_laysHeavy_196 : decode cX5_laysHeavy 196 = .ok (.iaload, 1) := fo_46 (fw_get da_cX5_laysHeavy_5 11 rfl)
theorem dX5_laysHeavy_197 : decode cX5_laysHeavy 197 = .ok (.iload 9, 2) := fo_21 (fw_get da_cX5_laysHeavy_5 12 rfl)
theorem dX5_laysHeavy_199 : decode cX5_laysHeavy 199 = .ok (.invokevirtual 181, 3) := fo_182 (fw_get da_cX5_laysHeavy_5 13 rfl)
theorem dX5_laysHeavy_202 : decode cX5_laysHeavy 202 = .ok (.iinc 8 1, 3) := fo_132 (fw_get da_cX5_laysHeavy_5 14 rfl) rfl (by decide +kernel)
theorem dX5_laysHeavy_205 : decode cX5_laysHeavy 205 = .ok (.goto (-99), 3) := fo_167 (fw_get da_cX5_laysHeavy_5 15 rfl) (by decide +kernel)
theorem dX5_laysHeavy_208 : decode cX5_laysHeavy 208 = .ok (.return_, 1) := fo_177 (fw_get da_cX5_laysHeavy_5 16 rfl)
theorem mi_wsX5_heavy_wsX5_heavy_r1 : ∀ w ∈ wsX5_heavy_r1, w ∈ wsX5_heavy := fun _ h => (List.mem_cons_of_mem _ (List.mem_append_left _ (List.mem_append_left _ h)))
theorem mi_wsX5_heavy_wsX50 : ∀ w ∈ wsX50, w ∈ wsX5_heavy := fun _ h => (List.mem_cons_of_mem _ (List.mem_append_right _ h))
set_option maxRecDepth 20000 in
theorem ggX5_heavy_X5_isRange : GoodIn wsX5_heavy wsX5_isRange := goodIn_k _ [(wsX5_heavy_r1, [6, 7]), (wsX50, [0, 1, 2, 3, 4, 5, 6, 7, 8, 9, 10, 11, 12, 13, 14, 15, 16, 17, 18, 19, 20, 21, 22, 23, 24, 25, 26, 27, 28, 29])] (gk_c mi_wsX5_heavy_wsX5_heavy_r1 (gk_c mi_wsX5_heavy_wsX50 gk_n)) rfl (by decide +kernel)
set_option maxRecDepth 20000 in
theorem gX5_heavy_X5_isRange : GoodIn wsX5_heavy (wsV RX5 142 RX5 yX5_isRange wsX5_isRange) := goodIn_app (goodIn_k _ [(wsX5_heavy_r1, [2, 3, 4, 5])] (gk_c mi_wsX5_heavy_wsX5_heavy_r1 gk_n) rfl (by decide +kernel)) ggX5_heavy_X5_isRange
set_option maxRecDepth 20000 in
theorem ggX5_heavy_X5_isShare : GoodIn wsX5_heavy wsX5_isShare := goodIn_k _ [(wsX5_heavy_r1, [10, 11, 12, 5, 13])] (gk_c mi_wsX5_heavy_wsX5_heavy_r1 gk_n) rfl (by decide +kernel)
set_option maxRecDepth 20000 in
theorem gX5_heavy_X5_isShare : GoodIn wsX5_heavy (va_wsS RX5 184 yX5_isShare wsX5_isShare) := goodIn_app (goodIn_k _ [(wsX5_heavy_r1, [8, 9, 5])] (gk_c mi_wsX5_heavy_wsX5_heavy_r1 gk_n) rfl (by decide +kernel)) ggX5_heavy_X5_isShare
set_option maxRecDepth 20000 in
theorem ggX5_heavy_X5_isEnough : GoodIn wsX5_heavy wsX5_isEnough := goodIn_k _ [(wsX5_heavy_r1, [17, 18]), (wsX50, [0, 1, 2, 3, 4, 5, 6, 7, 8, 9, 10, 11, 12, 13, 14, 15, 16, 17, 18, 19, 20, 21, 22, 23, 24, 25, 26, 27, 28, 29])] (gk_c mi_wsX5_heavy_wsX5_heavy_r1 (gk_c mi_wsX5_heavy_wsX50 gk_n)) rfl (by decide +kernel)
set_option maxRecDepth 20000 in
theorem gX5_heavy_X5_isEnough : GoodIn wsX5_heavy (wsV RX5 187 RX5 yX5_isEnough wsX5_isEnough) := goodIn_app (goodIn_k _ [(wsX5_heavy_r1, [14, 15, 16, 5])] (gk_c mi_wsX5_heavy_wsX5_heavy_r1 gk_n) rfl (by decide +kernel)) ggX5_heavy_X5_isEnough
theorem mi_wsX5_heavy_wsX5_heavy_r2 : ∀ w ∈ wsX5_heavy_r2, w ∈ wsX5_heavy := fun _ h => (List.mem_cons_of_mem _ (List.mem_append_left _ (List.mem_append_right _ h)))
set_option maxRecDepth 20000 in
theorem ggX5_heavy_X5_laysHeavy : GoodIn wsX5_heavy wsX5_laysHeavy := goodIn_k _ [(wsX5_heavy_r1, [22, 1, 23]), (wsX5_heavy_r2, [0, 1, 2]), (wsX5_heavy_r1, [5]), (wsX5_heavy_r2, [3, 4, 5, 6, 7, 8, 9]), (wsX50, [0, 1, 2, 3, 4, 5, 6, 7, 8, 9, 10, 11, 12, 13, 14, 15, 16, 17, 18, 19, 20, 21, 22, 23, 24, 25, 26, 27, 28, 29])] (gk_c mi_wsX5_heavy_wsX5_heavy_r1 (gk_c mi_wsX5_heavy_wsX5_heavy_r2 (gk_c mi_wsX5_heavy_wsX5_heavy_r1 (gk_c mi_wsX5_heavy_wsX5_heavy_r2 (gk_c mi_wsX5_heavy_wsX50 gk_n))))) rfl (by decide +kernel)
set_option maxRecDepth 20000 in
theorem gX5_heavy_X5_laysHeavy : GoodIn wsX5_heavy (wsV RX5 190 RX5 yX5_laysHeavy wsX5_laysHeavy) := goodIn_app (goodIn_k _ [(wsX5_heavy_r1, [19, 20, 21, 5])] (gk_c mi_wsX5_heavy_wsX5_heavy_r1 gk_n) rfl (by decide +kernel)) ggX5_heavy_X5_laysHeavy
def dt_cX5_heavy_0 : List (Nat × Nat × Nat × Nat) := [(0, 42, 0, 0), (1, 3, 0, 0), (2, 181, 2, 77), (5, 42, 0, 0), (6, 27, 0, 0), (7, 28, 0, 0), (8, 182, 2, 142), (11, 153, 2, 12), (14, 29, 0, 0), (15, 21, 1, 4), (17, 184, 2, 184), (20, 154, 2, 5), (23, 2, 0, 0), (24, 172, 0, 0), (25, 42, 0, 0), (26, 29, 0, 0), (27, 21, 1, 4), (29, 182, 2, 187), (32, 154, 2, 6), (35, 16, 1, 254)]
theorem da_cX5_heavy_0 : fw dt_cX5_heavy_0 0 cX5_heavy.data.toList = true := by decide +kernel
theorem dX5_heavy_0 : decode cX5_heavy 0 = .ok (.aload_n 0, 1) := fo_42 (fw_get da_cX5_heavy_0 0 rfl)
theorem dX5_heavy_1 : decode cX5_heavy 1 = .ok (.iconst 0, 1) := fo_3 (fw_get da_cX5_heavy_0 1 rfl)
theorem dX5_heavy_2 : decode cX5_heavy 2 = .ok (.putfield 77, 3) := fo_181 (fw_get da_cX5_heavy_0 2 rfl)
theorem dX5_heavy_5 : decode cX5_heavy 5 = .ok (.aload_n 0, 1) := fo_42 (fw_get da_cX5_heavy_0 3 rfl)
theorem dX5_heavy_6 : decode cX5_heavy 6 = .ok (.iload_n 1, 1) := fo_27 (fw_get da_cX5_heavy_0 4 rfl)
theorem dX5_heavy_7 : decode cX5_heavy 7 = .ok (.iload_n 2, 1) := fo_28 (fw_get da_cX5_heavy_0 5 rfl)
theorem dX5_heavy_8 : decode cX5_heavy 8 = .ok (.invokevirtual 142, 3) := fo_182 (fw_get da_cX5_heavy_0 6 rfl)
theorem dX5_heavy_11 : decode cX5_heavy 11 = .ok (.ifCond .eq 12, 3) := fo_153 (fw_get da_cX5_heavy_0 7 rfl) (by decide +kernel)
theorem dX5_heavy_14 : decode cX5_heavy 14 = .ok (.iload_n 3, 1) := fo_29 (fw_get da_cX5_heavy_0 8 rfl)
theorem dX5_heavy_15 : decode cX5_heavy 15 = .ok (.iload 4, 2) := fo_21 (fw_get da_cX5_heavy_0 9 rfl)
theorem dX5_heavy_17 : decode cX5_heavy 17 = .ok (.invokestatic 184, 3) := fo_184 (fw_get da_cX5_heavy_0 10 rfl)
theorem dX5_heavy_20 : decode cX5_heavy 20 = .ok (.ifCond .ne 5, 3) := fo_154 (fw_get da_cX5_heavy_0 11 rfl) (by decide +kernel)
theorem dX5_heavy_23 : decode cX5_heavy 23 = .ok (.iconst (-1), 1) := fo_2 (fw_get da_cX5_heavy_0 12 rfl)
theorem dX5_heavy_24 : decode cX5_heavy 24 = .ok (.ireturn, 1) := fo_172 (fw_get da_cX5_heavy_0 13 rfl)
theorem dX5_heavy_25 : decode cX5_heavy 25 = .ok (.aload_n 0, 1) := fo_42 (fw_get da_cX5_heavy_0 14 rfl)
theorem dX5_heavy_26 : decode cX5_heavy 26 = .ok (.iload_n 3, 1) := fo_29 (fw_get da_cX5_heavy_0 15 rfl)
theorem dX5_heavy_27 : decode cX5_heavy 27 = .ok (.iload 4, 2) := fo_21 (fw_get da_cX5_heavy_0 16 rfl)
theorem dX5_heavy_29 : decode cX5_heavy 29 = .ok (.invokevirtual 187, 3) := fo_182 (fw_get da_cX5_heavy_0 17 rfl)
theorem dX5_heavy_32 : decode cX5_heavy 32 = .ok (.ifCond .ne 6, 3) := fo_154 (fw_get da_cX5_heavy_0 18 rfl) (by decide +kernel)
theorem dX5_heavy_35 : decode cX5_heavy 35 = .ok (.bipush (-2), 2) := fo_16 (fw_get da_cX5_heavy_0 19 rfl) (by decide +kernel)
def dt_cX5_heavy_1 : List (Nat × Nat × Nat × Nat) := [(37, 172, 0, 0), (38, 42, 0, 0), (39, 27, 0, 0), (40, 28, 0, 0), (41, 3, 0, 0), (42, 3, 0, 0), (43, 29, 0, 0), (44, 21, 1, 4), (46, 182, 2, 190), (49, 42, 0, 0), (50, 180, 2, 178), (53, 172, 0, 0)]
theorem da_cX5_heavy_1 : fw dt_cX5_heavy_1 0 cX5_heavy.data.toList = true := by decide +kernel
theorem dX5_heavy_37 : decode cX5_heavy 37 = .ok (.ireturn, 1) := fo_172 (fw_get da_cX5_heavy_1 0 rfl)
theorem dX5_heavy_38 : decode cX5_heavy 38 = .ok (.aload_n 0, 1) := fo_42 (fw_get da_cX5_heavy_1 1 rfl)
theorem dX5_heavy_39 : decode cX5_heavy 39 = .ok (.iload_n 1, 1) := fo_27 (fw_get da_cX5_heavy_1 2 rfl)
theorem dX5_heavy_40 : decode cX5_heavy 40 = .ok (.iload_n 2, 1) := fo_28 (fw_get da_cX5_heavy_1 3 rfl)
theorem dX5_heavy_41 : decode cX5_heavy 41 = .ok (.iconst 0, 1) := fo_3 (fw_get da_cX5_heavy_1 4 rfl)
theorem dX5_heavy_42 : decode cX5_heavy 42 = .ok (.iconst 0, 1) := fo_3 (fw_get da_cX5_heavy_1 5 rfl)
theorem dX5_heavy_43 : decode cX5_heavy 43 = .ok (.iload_n 3, 1) := fo_29 (fw_get da_cX5_heavy_1 6 rfl)
theorem dX5_heavy_44 : decode cX5_heavy 44 = .ok (.iload 4, 2) := fo_21 (fw_get da_cX5_heavy_1 7 rfl)
theorem dX5_heavy_46 : decode cX5_heavy 46 = .ok (.invokevirtual 190, 3) := fo_182 (fw_get da_cX5_heavy_1 8 rfl)
theorem dX5_heavy_49 : decode cX5_heavy 49 = .ok (.aload_n 0, 1) := fo_42 (fw_get da_cX5_heavy_1 9 rfl)
theorem dX5_heavy_50 : decode cX5_heavy 50 = .ok (.getfield 178, 3) := fo_180 (fw_get da_cX5_heavy_1 10 rfl)
theorem dX5_heavy_53 : decode cX5_heavy 53 = .ok (.ireturn, 1) := fo_172 (fw_get da_cX5_heavy_1 11 rfl)
theorem mi_wsX5_heavyAt_wsX5_heavyAt_r1 : ∀ w ∈ wsX5_heavyAt_r1, w ∈ wsX5_heavyAt := fun _ h => (List.mem_cons_of_mem _ (List.mem_append_left _ (List.mem_append_left _ h)))
theorem mi_wsX5_heavyAt_wsX50 : ∀ w ∈ wsX50, w ∈ wsX5_heavyAt := fun _ h => (List.mem_cons_of_mem _ (List.mem_append_right _ h))
set_option maxRecDepth 20000 in
theorem ggX5_heavyAt_X5_isRange : GoodIn wsX5_heavyAt wsX5_isRange := goodIn_k _ [(wsX5_heavyAt_r1, [8, 9]), (wsX50, [0, 1, 2, 3, 4, 5, 6, 7, 8, 9, 10, 11, 12, 13, 14, 15, 16, 17, 18, 19, 20, 21, 22, 23, 24, 25, 26, 27, 28, 29])] (gk_c mi_wsX5_heavyAt_wsX5_heavyAt_r1 (gk_c mi_wsX5_heavyAt_wsX50 gk_n)) rfl (by decide +kernel)
set_option maxRecDepth 20000 in
theorem gX5_heavyAt_X5_isRange : GoodIn wsX5_heavyAt (wsV RX5 142 RX5 yX5_isRange wsX5_isRange) := goodIn_app (goodIn_k _ [(wsX5_heavyAt_r1, [4, 5, 6, 7])] (gk_c mi_wsX5_heavyAt_wsX5_heavyAt_r1 gk_n) rfl (by decide +kernel)) ggX5_heavyAt_X5_isRange
set_option maxRecDepth 20000 in
theorem ggX5_heavyAt_X5_isShare : GoodIn wsX5_heavyAt wsX5_isShare := goodIn_k _ [(wsX5_heavyAt_r1, [12, 13, 14, 7, 15])] (gk_c mi_wsX5_heavyAt_wsX5_heavyAt_r1 gk_n) rfl (by decide +kernel)
set_option maxRecDepth 20000 in
theorem gX5_heavyAt_X5_isShare : GoodIn wsX5_heavyAt (va_wsS RX5 184 yX5_isShare wsX5_isShare) := goodIn_app (goodIn_k _ [(wsX5_heavyAt_r1, [10, 11, 7])] (gk_c mi_wsX5_heavyAt_wsX5_heavyAt_r1 gk_n) rfl (by decide +kernel)) ggX5_heavyAt_X5_isShare
set_option maxRecDepth 20000 in
theorem ggX5_heavyAt_X5_isEnough : GoodIn wsX5_heavyAt wsX5_isEnough := goodIn_k _ [(wsX5_heavyAt_r1, [19, 20]), (wsX50, [0, 1, 2, 3, 4, 5, 6, 7, 8, 9, 10, 11, 12, 13, 14, 15, 16, 17, 18, 19, 20, 21, 22, 23, 24, 25, 26, 27, 28, 29])] (gk_c mi_wsX5_heavyAt_wsX5_heavyAt_r1 (gk_c mi_wsX5_heavyAt_wsX50 gk_n)) rfl (by decide +kernel)
set_option maxRecDepth 20000 in
theorem gX5_heavyAt_X5_isEnough : GoodIn wsX5_heavyAt (wsV RX5 187 RX5 yX5_isEnough wsX5_isEnough) := goodIn_app (goodIn_k _ [(wsX5_heavyAt_r1, [16, 17, 18, 7])] (gk_c mi_wsX5_heavyAt_wsX5_heavyAt_r1 gk_n) rfl (by decide +kernel)) ggX5_heavyAt_X5_isEnough
set_option maxRecDepth 20000 in
theorem ggX5_heavyAt_X5_within : GoodIn wsX5_heavyAt wsX5_within := goodIn_k _ [(wsX5_heavyAt_r1, [15])] (gk_c mi_wsX5_heavyAt_wsX5_heavyAt_r1 gk_n) rfl (by decide +kernel)
set_option maxRecDepth 20000 in
theorem gX5_heavyAt_X5_within : GoodIn wsX5_heavyAt (va_wsS RX5 80 yX5_within wsX5_within) := goodIn_app (goodIn_k _ [(wsX5_heavyAt_r1, [13, 14, 7])] (gk_c mi_wsX5_heavyAt_wsX5_heavyAt_r1 gk_n) rfl (by decide +kernel)) ggX5_heavyAt_X5_within
theorem mi_wsX5_heavyAt_wsX5_heavyAt_r2 : ∀ w ∈ wsX5_heavyAt_r2, w ∈ wsX5_heavyAt := fun _ h => (List.mem_cons_of_mem _ (List.mem_append_left _ (List.mem_append_right _ h)))
set_option maxRecDepth 20000 in
theorem ggX5_heavyAt_X5_laysHeavy : GoodIn wsX5_heavyAt wsX5_laysHeavy := goodIn_k _ [(wsX5_heavyAt_r2, [0]), (wsX5_heavyAt_r1, [1]), (wsX5_heavyAt_r2, [1, 2, 3, 4]), (wsX5_heavyAt_r1, [7]), (wsX5_heavyAt_r2, [5, 6, 7, 8, 9]), (wsX5_heavyAt_r1, [3, 2]), (wsX50, [0, 1, 2, 3, 4, 5, 6, 7, 8, 9, 10, 11, 12, 13, 14, 15, 16, 17, 18, 19, 20, 21, 22, 23, 24, 25, 26, 27, 28, 29])] (gk_c mi_wsX5_heavyAt_wsX5_heavyAt_r2 (gk_c mi_wsX5_heavyAt_wsX5_heavyAt_r1 (gk_c mi_wsX5_heavyAt_wsX5_heavyAt_r2 (gk_c mi_wsX5_heavyAt_wsX5_heavyAt_r1 (gk_c mi_wsX5_heavyAt_wsX5_heavyAt_r2 (gk_c mi_wsX5_heavyAt_wsX5_heavyAt_r1 (gk_c mi_wsX5_heavyAt_wsX50 gk_n))))))) rfl (by decide +kernel)
set_option maxRecDepth 20000 in
theorem gX5_heavyAt_X5_laysHeavy : GoodIn wsX5_heavyAt (wsV RX5 190 RX5 yX5_laysHeavy wsX5_laysHeavy) := goodIn_app (goodIn_k _ [(wsX5_heavyAt_r1, [21, 22, 23, 7])] (gk_c mi_wsX5_heavyAt_wsX5_heavyAt_r1 gk_n) rfl (by decide +kernel)) ggX5_heavyAt_X5_laysHeavy
def dt_cX5_heavyAt_0 : List (Nat × Nat × Nat × Nat) := [(0, 42, 0, 0), (1, 4, 0, 0), (2, 181, 2, 77), (5, 42, 0, 0), (6, 27, 0, 0), (7, 28, 0, 0), (8, 182, 2, 142), (11, 153, 2, 32), (14, 29, 0, 0), (15, 21, 1, 4), (17, 184, 2, 184), (20, 153, 2, 23), (23, 42, 0, 0), (24, 29, 0, 0), (25, 21, 1, 4), (27, 182, 2, 187), (30, 153, 2, 13), (33, 21, 1, 6), (35, 3, 0, 0), (36, 4, 0, 0)]
theorem da_cX5_heavyAt_0 : fw dt_cX5_heavyAt_0 0 cX5_heavyAt.data.toList = true := by decide +kernel
theorem dX5_heavyAt_0 : decode cX5_heavyAt 0 = .ok (.aload_n 0, 1) := fo_42 (fw_get da_cX5_heavyAt_0 0 rfl)
theorem dX5_heavyAt_1 : decode cX5_heavyAt 1 = .ok (.iconst 1, 1) := fo_4 (fw_get da_cX5_heavyAt_0 1 rfl)
theorem dX5_heavyAt_2 : decode cX5_heavyAt 2 = .ok (.putfield 77, 3) := fo_181 (fw_get da_cX5_heavyAt_0 2 rfl)
theorem dX5_heavyAt_5 : decode cX5_heavyAt 5 = .ok (.aload_n 0, 1) := fo_42 (fw_get da_cX5_heavyAt_0 3 rfl)
theorem dX5_heavyAt_6 : decode cX5_heavyAt 6 = .ok (.iload_n 1, 1) := fo_27 (fw_get da_cX5_heavyAt_0 4 rfl)
theorem dX5_heavyAt_7 : decode cX5_heavyAt 7 = .ok (.iload_n 2, 1) := fo_28 (fw_get da_cX5_heavyAt_0 5 rfl)
theorem dX5_heavyAt_8 : decode cX5_heavyAt 8 = .ok (.invokevirtual 142, 3) := fo_182 (fw_get da_cX5_heavyAt_0 6 rfl)
theorem dX5_heavyAt_11 : decode cX5_heavyAt 11 = .ok (.ifCond .eq 32, 3) := fo_153 (fw_get da_cX5_heavyAt_0 7 rfl) (by decide +kernel)
theorem dX5_heavyAt_14 : decode cX5_heavyAt 14 = .ok (.iload_n 3, 1) := fo_29 (fw_get da_cX5_heavyAt_0 8 rfl)
theorem dX5_heavyAt_15 : decode cX5_heavyAt 15 = .ok (.iload 4, 2) := fo_21 (fw_get da_cX5_heavyAt_0 9 rfl)
theorem dX5_heavyAt_17 : decode cX5_heavyAt 17 = .ok (.invokestatic 184, 3) := fo_184 (fw_get da_cX5_heavyAt_0 10 rfl)
theorem dX5_heavyAt_20 : decode cX5_heavyAt 20 = .ok (.ifCond .eq 23, 3) := fo_153 (fw_get da_cX5_heavyAt_0 11 rfl) (by decide +kernel)
theorem dX5_heavyAt_23 : decode cX5_heavyAt 23 = .ok (.aload_n 0, 1) := fo_42 (fw_get da_cX5_heavyAt_0 12 rfl)
theorem dX5_heavyAt_24 : decode cX5_heavyAt 24 = .ok (.iload_n 3, 1) := fo_29 (fw_get da_cX5_heavyAt_0 13 rfl)
theorem dX5_heavyAt_25 : decode cX5_heavyAt 25 = .ok (.iload 4, 2) := fo_21 (fw_get da_cX5_heavyAt_0 14 rfl)
theorem dX5_heavyAt_27 : decode cX5_heavyAt 27 = .ok (.invokevirtual 187, 3) := fo_182 (fw_get da_cX5_heavyAt_0 15 rfl)
theorem dX5_heavyAt_30 : decode cX5_heavyAt 30 = .ok (.ifCond .eq 13, 3) := fo_153 (fw_get da_cX5_heavyAt_0 16 rfl) (by decide +kernel)
theorem dX5_heavyAt_33 : decode cX5_heavyAt 33 = .ok (.iload 6, 2) := fo_21 (fw_get da_cX5_heavyAt_0 17 rfl)
theorem dX5_heavyAt_35 : decode cX5_heavyAt 35 = .ok (.iconst 0, 1) := fo_3 (fw_get da_cX5_heavyAt_0 18 rfl)
theorem dX5_heavyAt_36 : decode cX5_heavyAt 36 = .ok (.iconst 1, 1) := fo_4 (fw_get da_cX5_heavyAt_0 19 rfl)
def dt_cX5_heavyAt_1 : List (Nat × Nat × Nat × Nat) := [(37, 184, 2, 80), (40, 154, 2, 5), (43, 3, 0, 0), (44, 172, 0, 0), (45, 42, 0, 0), (46, 27, 0, 0), (47, 28, 0, 0), (48, 3, 0, 0), (49, 3, 0, 0), (50, 29, 0, 0), (51, 21, 1, 4), (53, 182, 2, 190), (56, 21, 1, 5), (58, 3, 0, 0), (59, 42, 0, 0), (60, 180, 2, 178), (63, 4, 0, 0), (64, 100, 0, 0), (65, 184, 2, 80), (68, 154, 2, 5)]
theorem da_cX5_heavyAt_1 : fw dt_cX5_heavyAt_1 0 cX5_heavyAt.data.toList = true := by decide +kernel
theorem dX5_heavyAt_37 : decode cX5_heavyAt 37 = .ok (.invokestatic 80, 3) := fo_184 (fw_get da_cX5_heavyAt_1 0 rfl)
theorem dX5_heavyAt_40 : decode cX5_heavyAt 40 = .ok (.ifCond .ne 5, 3) := fo_154 (fw_get da_cX5_heavyAt_1 1 rfl) (by decide +kernel)
theorem dX5_heavyAt_43 : decode cX5_heavyAt 43 = .ok (.iconst 0, 1) := fo_3 (fw_get da_cX5_heavyAt_1 2 rfl)
theorem dX5_heavyAt_44 : decode cX5_heavyAt 44 = .ok (.ireturn, 1) := fo_172 (fw_get da_cX5_heavyAt_1 3 rfl)
theorem dX5_heavyAt_45 : decode cX5_heavyAt 45 = .ok (.aload_n 0, 1) := fo_42 (fw_get da_cX5_heavyAt_1 4 rfl)
theorem dX5_heavyAt_46 : decode cX5_heavyAt 46 = .ok (.iload_n 1, 1) := fo_27 (fw_get da_cX5_heavyAt_1 5 rfl)
theorem dX5_heavyAt_47 : decode cX5_heavyAt 47 = .ok (.iload_n 2, 1) := fo_28 (fw_get da_cX5_heavyAt_1 6 rfl)
theorem dX5_heavyAt_48 : decode cX5_heavyAt 48 = .ok (.iconst 0, 1) := fo_3 (fw_get da_cX5_heavyAt_1 7 rfl)
theorem dX5_heavyAt_49 : decode cX5_heavyAt 49 = .ok (.iconst 0, 1) := fo_3 (fw_get da_cX5_heavyAt_1 8 rfl)
theorem dX5_heavyAt_50 : decode cX5_heavyAt 50 = .ok (.iload_n 3, 1) := fo_29 (fw_get da_cX5_heavyAt_1 9 rfl)
theorem dX5_heavyAt_51 : decode cX5_heavyAt 51 = .ok (.iload 4, 2) := fo_21 (fw_get da_cX5_heavyAt_1 10 rfl)
theorem dX5_heavyAt_53 : decode cX5_heavyAt 53 = .ok (.invokevirtual 190, 3) := fo_182 (fw_get da_cX5_heavyAt_1 11 rfl)
theorem dX5_heavyAt_56 : decode cX5_heavyAt 56 = .ok (.iload 5, 2) := fo_21 (fw_get da_cX5_heavyAt_1 12 rfl)
theorem dX5_heavyAt_58 : decode cX5_heavyAt 58 = .ok (.iconst 0, 1) := fo_3 (fw_get da_cX5_heavyAt_1 13 rfl)
theorem dX5_heavyAt_59 : decode cX5_heavyAt 59 = .ok (.aload_n 0, 1) := fo_42 (fw_get da_cX5_heavyAt_1 14 rfl)
theorem dX5_heavyAt_60 : decode cX5_heavyAt 60 = .ok (.getfield 178, 3) := fo_180 (fw_get da_cX5_heavyAt_1 15 rfl)
theorem dX5_heavyAt_63 : decode cX5_heavyAt 63 = .ok (.iconst 1, 1) := fo_4 (fw_get da_cX5_heavyAt_1 16 rfl)
theorem dX5_heavyAt_64 : decode cX5_heavyAt 64 = .ok (.isub, 1) := fo_100 (fw_get da_cX5_heavyAt_1 17 rfl)
theorem dX5_heavyAt_65 : decode cX5_heavyAt 65 = .ok (.invokestatic 80, 3) := fo_184 (fw_get da_cX5_heavyAt_1 18 rfl)
theorem dX5_heavyAt_68 : decode cX5_heavyAt 68 = .ok (.ifCond .ne 5, 3) := fo_154 (fw_get da_cX5_heavyAt_1 19 rfl) (by decide +kernel)
def dt_cX5_heavyAt_2 : List (Nat × Nat × Nat × Nat) := [(71, 3, 0, 0), (72, 172, 0, 0), (73, 42, 0, 0), (74, 3, 0, 0), (75, 181, 2, 77), (78, 21, 1, 6), (80, 154, 2, 13), (83, 42, 0, 0), (84, 180, 2, 62), (87, 21, 1, 5), (89, 46, 0, 0), (90, 167, 2, 10), (93, 42, 0, 0), (94, 180, 2, 65), (97, 21, 1, 5), (99, 46, 0, 0), (100, 172, 0, 0)]
theorem da_cX5_heavyAt_2 : fw dt_cX5_heavyAt_2 0 cX5_heavyAt.data.toList = true := by decide +kernel
theorem dX5_heavyAt_71 : decode cX5_heavyAt 71 = .ok (.iconst 0, 1) := fo_3 (fw_get da_cX5_heavyAt_2 0 rfl)
theorem dX5_heavyAt_72 : decode cX5_heavyAt 72 = .ok (.ireturn, 1) := fo_172 (fw_get da_cX5_heavyAt_2 1 rfl)
theorem dX5_heavyAt_73 : decode cX5_heavyAt 73 = .ok (.aload_n 0, 1) := fo_42 (fw_get da_cX5_heavyAt_2 2 rfl)
theorem dX5_heavyAt_74 : decode cX5_heavyAt 74 = .ok (.iconst 0, 1) := fo_3 (fw_get da_cX5_heavyAt_2 3 rfl)
theorem dX5_heavyAt_75 : decode cX5_heavyAt 75 = .ok (.putfield 77, 3) := fo_181 (fw_get da_cX5_heavyAt_2 4 rfl)
theorem dX5_heavyAt_78 : decode cX5_heavyAt 78 = .ok (.iload 6, 2) := fo_21 (fw_get da_cX5_heavyAt_2 5 rfl)
theorem dX5_heavyAt_80 : decode cX5_heavyAt 80 = .ok (.ifCond .ne 13, 3) := fo_154 (fw_get da_cX5_heavyAt_2 6 rfl) (by decide +kernel)
theorem dX5_heavyAt_83 : decode cX5_heavyAt 83 = .ok (.aload_n 0, 1) := fo_42 (fw_get da_cX5_heavyAt_2 7 rfl)
theorem dX5_heavyAt_84 : decode cX5_heavyAt 84 = .ok (.getfield 62, 3) := fo_180 (fw_get da_cX5_heavyAt_2 8 rfl)
theorem dX5_heavyAt_87 : decode cX5_heavyAt 87 = .ok (.iload 5, 2) := fo_21 (fw_get da_cX5_heavyAt_2 9 rfl)
theorem dX5_heavyAt_89 : decode cX5_heavyAt 89 = .ok (.iaload, 1) := fo_46 (fw_get da_cX5_heavyAt_2 10 rfl)
theorem dX5_heavyAt_90 : decode cX5_heavyAt 90 = .ok (.goto 10, 3) := fo_167 (fw_get da_cX5_heavyAt_2 11 rfl) (by decide +kernel)
theorem dX5_heavyAt_93 : decode cX5_heavyAt 93 = .ok (.aload_n 0, 1) := fo_42 (fw_get da_cX5_heavyAt_2 12 rfl)
theorem dX5_heavyAt_94 : decode cX5_heavyAt 94 = .ok (.getfield 65, 3) := fo_180 (fw_get da_cX5_heavyAt_2 13 rfl)
theorem dX5_heavyAt_97 : decode cX5_heavyAt 97 = .ok (.iload 5, 2) := fo_21 (fw_get da_cX5_heavyAt_2 14 rfl)
theorem dX5_heavyAt_99 : decode cX5_heavyAt 99 = .ok (.iaload, 1) := fo_46 (fw_get da_cX5_heavyAt_2 15 rfl)
theorem dX5_heavyAt_100 : decode cX5_heavyAt 100 = .ok (.ireturn, 1) := fo_172 (fw_get da_cX5_heavyAt_2 16 rfl)
theorem mi_wsX5_both_wsX5_both_r1 : ∀ w ∈ wsX5_both_r1, w ∈ wsX5_both := fun _ h => (List.mem_cons_of_mem _ (List.mem_append_left _ (List.mem_append_left _ h)))
theorem mi_wsX5_both_wsX50 : ∀ w ∈ wsX50, w ∈ wsX5_both := fun _ h => (List.mem_cons_of_mem _ (List.mem_append_right _ h))
set_option maxRecDepth 20000 in
theorem ggX5_both_X5_isRange : GoodIn wsX5_both wsX5_isRange := goodIn_k _ [(wsX5_both_r1, [6, 7]), (wsX50, [0, 1, 2, 3, 4, 5, 6, 7, 8, 9, 10, 11, 12, 13, 14, 15, 16, 17, 18, 19, 20, 21, 22, 23, 24, 25, 26, 27, 28, 29])] (gk_c mi_wsX5_both_wsX5_both_r1 (gk_c mi_wsX5_both_wsX50 gk_n)) rfl (by decide +kernel)
set_option maxRecDepth 20000 in
theorem gX5_both_X5_isRange : GoodIn wsX5_both (wsV RX5 142 RX5 yX5_isRange wsX5_isRange) := goodIn_app (goodIn_k _ [(wsX5_both_r1, [2, 3, 4, 5])] (gk_c mi_wsX5_both_wsX5_both_r1 gk_n) rfl (by decide +kernel)) ggX5_both_X5_isRange
set_option maxRecDepth 20000 in
theorem ggX5_both_X5_isShare : GoodIn wsX5_both wsX5_isShare := goodIn_k _ [(wsX5_both_r1, [10, 11, 12, 5, 13])] (gk_c mi_wsX5_both_wsX5_both_r1 gk_n) rfl (by decide +kernel)
set_option maxRecDepth 20000 in
theorem gX5_both_X5_isShare : GoodIn wsX5_both (va_wsS RX5 184 yX5_isShare wsX5_isShare) := goodIn_app (goodIn_k _ [(wsX5_both_r1, [8, 9, 5])] (gk_c mi_wsX5_both_wsX5_both_r1 gk_n) rfl (by decide +kernel)) ggX5_both_X5_isShare
set_option maxRecDepth 20000 in
theorem ggX5_both_X5_isEnough : GoodIn wsX5_both wsX5_isEnough := goodIn_k _ [(wsX5_both_r1, [17, 18]), (wsX50, [0, 1, 2, 3, 4, 5, 6, 7, 8, 9, 10, 11, 12, 13, 14, 15, 16, 17, 18, 19, 20, 21, 22, 23, 24, 25, 26, 27, 28, 29])] (gk_c mi_wsX5_both_wsX5_both_r1 (gk_c mi_wsX5_both_wsX50 gk_n)) rfl (by decide +kernel)
set_option maxRecDepth 20000 in
theorem gX5_both_X5_isEnough : GoodIn wsX5_both (wsV RX5 187 RX5 yX5_isEnough wsX5_isEnough) := goodIn_app (goodIn_k _ [(wsX5_both_r1, [14, 15, 16, 5])] (gk_c mi_wsX5_both_wsX5_both_r1 gk_n) rfl (by decide +kernel)) ggX5_both_X5_isEnough
theorem mi_wsX5_both_wsX5_both_r2 : ∀ w ∈ wsX5_both_r2, w ∈ wsX5_both := fun _ h => (List.mem_cons_of_mem _ (List.mem_append_left _ (List.mem_append_right _ h)))
set_option maxRecDepth 20000 in
theorem ggX5_both_X5_laysHeavy : GoodIn wsX5_both wsX5_laysHeavy := goodIn_k _ [(wsX5_both_r1, [22, 1, 23]), (wsX5_both_r2, [0, 1, 2]), (wsX5_both_r1, [5]), (wsX5_both_r2, [3, 4, 5, 6, 7, 8, 9]), (wsX50, [0, 1, 2, 3, 4, 5, 6, 7, 8, 9, 10, 11, 12, 13, 14, 15, 16, 17, 18, 19, 20, 21, 22, 23, 24, 25, 26, 27, 28, 29])] (gk_c mi_wsX5_both_wsX5_both_r1 (gk_c mi_wsX5_both_wsX5_both_r2 (gk_c mi_wsX5_both_wsX5_both_r1 (gk_c mi_wsX5_both_wsX5_both_r2 (gk_c mi_wsX5_both_wsX50 gk_n))))) rfl (by decide +kernel)
set_option maxRecDepth 20000 in
theorem gX5_both_X5_laysHeavy : GoodIn wsX5_both (wsV RX5 190 RX5 yX5_laysHeavy wsX5_laysHeavy) := goodIn_app (goodIn_k _ [(wsX5_both_r1, [19, 20, 21, 5])] (gk_c mi_wsX5_both_wsX5_both_r1 gk_n) rfl (by decide +kernel)) ggX5_both_X5_laysHeavy
def dt_cX5_both_0 : List (Nat × Nat × Nat × Nat) := [(0, 42, 0, 0), (1, 3, 0, 0), (2, 181, 2, 77), (5, 42, 0, 0), (6, 27, 0, 0), (7, 28, 0, 0), (8, 182, 2, 142), (11, 153, 2, 23), (14, 42, 0, 0), (15, 29, 0, 0), (16, 21, 1, 4), (18, 182, 2, 142), (21, 153, 2, 13), (24, 21, 1, 5), (26, 21, 1, 6), (28, 184, 2, 184), (31, 154, 2, 5), (34, 2, 0, 0), (35, 172, 0, 0), (36, 42, 0, 0)]
theorem da_cX5_both_0 : fw dt_cX5_both_0 0 cX5_both.data.toList = true := by decide +kernel
theorem dX5_both_0 : decode cX5_both 0 = .ok (.aload_n 0, 1) := fo_42 (fw_get da_cX5_both_0 0 rfl)
theorem dX5_both_1 : decode cX5_both 1 = .ok (.iconst 0, 1) := fo_3 (fw_get da_cX5_both_0 1 rfl)
theorem dX5_both_2 : decode cX5_both 2 = .ok (.putfield 77, 3) := fo_181 (fw_get da_cX5_both_0 2 rfl)
theorem dX5_both_5 : decode cX5_both 5 = .ok (.aload_n 0, 1) := fo_42 (fw_get da_cX5_both_0 3 rfl)
theorem dX5_both_6 : decode cX5_both 6 = .ok (.iload_n 1, 1) := fo_27 (fw_get da_cX5_both_0 4 rfl)
theorem dX5_both_7 : decode cX5_both 7 = .ok (.iload_n 2, 1) := fo_28 (fw_get da_cX5_both_0 5 rfl)
theorem dX5_both_8 : decode cX5_both 8 = .ok (.invokevirtual 142, 3) := fo_182 (fw_get da_cX5_both_0 6 rfl)
theorem dX5_both_11 : decode cX5_both 11 = .ok (.ifCond .eq 23, 3) := fo_153 (fw_get da_cX5_both_0 7 rfl) (by decide +kernel)
theorem dX5_both_14 : decode cX5_both 14 = .ok (.aload_n 0, 1) := fo_42 (fw_get da_cX5_both_0 8 rfl)
theorem dX5_both_15 : decode cX5_both 15 = .ok (.iload_n 3, 1) := fo_29 (fw_get da_cX5_both_0 9 rfl)
theorem dX5_both_16 : decode cX5_both 16 = .ok (.iload 4, 2) := fo_21 (fw_get da_cX5_both_0 10 rfl)
theorem dX5_both_18 : decode cX5_both 18 = .ok (.invokevirtual 142, 3) := fo_182 (fw_get da_cX5_both_0 11 rfl)
theorem dX5_both_21 : decode cX5_both 21 = .ok (.ifCond .eq 13, 3) := fo_153 (fw_get da_cX5_both_0 12 rfl) (by decide +kernel)
theorem dX5_both_24 : decode cX5_both 24 = .ok (.iload 5, 2) := fo_21 (fw_get da_cX5_both_0 13 rfl)
theorem dX5_both_26 : decode cX5_both 26 = .ok (.iload 6, 2) := fo_21 (fw_get da_cX5_both_0 14 rfl)
theorem dX5_both_28 : decode cX5_both 28 = .ok (.invokestatic 184, 3) := fo_184 (fw_get da_cX5_both_0 15 rfl)
theorem dX5_both_31 : decode cX5_both 31 = .ok (.ifCond .ne 5, 3) := fo_154 (fw_get da_cX5_both_0 16 rfl) (by decide +kernel)
theorem dX5_both_34 : decode cX5_both 34 = .ok (.iconst (-1), 1) := fo_2 (fw_get da_cX5_both_0 17 rfl)
theorem dX5_both_35 : decode cX5_both 35 = .ok (.ireturn, 1) := fo_172 (fw_get da_cX5_both_0 18 rfl)
theorem dX5_both_36 : decode cX5_both 36 = .ok (.aload_n 0, 1) := fo_42 (fw_get da_cX5_both_0 19 rfl)
def dt_cX5_both_1 : List (Nat × Nat × Nat × Nat) := [(37, 21, 1, 5), (39, 21, 1, 6), (41, 182, 2, 187), (44, 154, 2, 6), (47, 16, 1, 254), (49, 172, 0, 0), (50, 27, 0, 0), (51, 21, 1, 4), (53, 162, 2, 11), (56, 29, 0, 0), (57, 28, 0, 0), (58, 162, 2, 6), (61, 16, 1, 253), (63, 172, 0, 0), (64, 42, 0, 0), (65, 27, 0, 0), (66, 28, 0, 0), (67, 29, 0, 0), (68, 21, 1, 4), (70, 21, 1, 5)]
theorem da_cX5_both_1 : fw dt_cX5_both_1 0 cX5_both.data.toList = true := by decide +kernel
theorem dX5_both_37 : decode cX5_both 37 = .ok (.iload 5, 2) := fo_21 (fw_get da_cX5_both_1 0 rfl)
theorem dX5_both_39 : decode cX5_both 39 = .ok (.iload 6, 2) := fo_21 (fw_get da_cX5_both_1 1 rfl)
theorem dX5_both_41 : decode cX5_both 41 = .ok (.invokevirtual 187, 3) := fo_182 (fw_get da_cX5_both_1 2 rfl)
theorem dX5_both_44 : decode cX5_both 44 = .ok (.ifCond .ne 6, 3) := fo_154 (fw_get da_cX5_both_1 3 rfl) (by decide +kernel)
theorem dX5_both_47 : decode cX5_both 47 = .ok (.bipush (-2), 2) := fo_16 (fw_get da_cX5_both_1 4 rfl) (by decide +kernel)
theorem dX5_both_49 : decode cX5_both 49 = .ok (.ireturn, 1) := fo_172 (fw_get da_cX5_both_1 5 rfl)
theorem dX5_both_50 : decode cX5_both 50 = .ok (.iload_n 1, 1) := fo_27 (fw_get da_cX5_both_1 6 rfl)
theorem dX5_both_51 : decode cX5_both 51 = .ok (.iload 4, 2) := fo_21 (fw_get da_cX5_both_1 7 rfl)
theorem dX5_both_53 : decode cX5_both 53 = .ok (.if_icmp .ge 11, 3) := fo_162 (fw_get da_cX5_both_1 8 rfl) (by decide +kernel)
theorem dX5_both_56 : decode cX5_both 56 = .ok (.iload_n 3, 1) := fo_29 (fw_get da_cX5_both_1 9 rfl)
theorem dX5_both_57 : decode cX5_both 57 = .ok (.iload_n 2, 1) := fo_28 (fw_get da_cX5_both_1 10 rfl)
theorem dX5_both_58 : decode cX5_both 58 = .ok (.if_icmp .ge 6, 3) := fo_162 (fw_get da_cX5_both_1 11 rfl) (by decide +kernel)
theorem dX5_both_61 : decode cX5_both 61 = .ok (.bipush (-3), 2) := fo_16 (fw_get da_cX5_both_1 12 rfl) (by decide +kernel)
theorem dX5_both_63 : decode cX5_both 63 = .ok (.ireturn, 1) := fo_172 (fw_get da_cX5_both_1 13 rfl)
theorem dX5_both_64 : decode cX5_both 64 = .ok (.aload_n 0, 1) := fo_42 (fw_get da_cX5_both_1 14 rfl)
theorem dX5_both_65 : decode cX5_both 65 = .ok (.iload_n 1, 1) := fo_27 (fw_get da_cX5_both_1 15 rfl)
theorem dX5_both_66 : decode cX5_both 66 = .ok (.iload_n 2, 1) := fo_28 (fw_get da_cX5_both_1 16 rfl)
theorem dX5_both_67 : decode cX5_both 67 = .ok (.iload_n 3, 1) := fo_29 (fw_get da_cX5_both_1 17 rfl)
theorem dX5_both_68 : decode cX5_both 68 = .ok (.iload 4, 2) := fo_21 (fw_get da_cX5_both_1 18 rfl)
theorem dX5_both_70 : decode cX5_both 70 = .ok (.iload 5, 2) := fo_21 (fw_get da_cX5_both_1 19 rfl)
def dt_cX5_both_2 : List (Nat × Nat × Nat × Nat) := [(72, 21, 1, 6), (74, 182, 2, 190), (77, 42, 0, 0), (78, 180, 2, 178), (81, 172, 0, 0)]
theorem da_cX5_both_2 : fw dt_cX5_both_2 0 cX5_both.data.toList = true := by decide +kernel
theorem dX5_both_72 : decode cX5_both 72 = .ok (.iload 6, 2) := fo_21 (fw_get da_cX5_both_2 0 rfl)
theorem dX5_both_74 : decode cX5_both 74 = .ok (.invokevirtual 190, 3) := fo_182 (fw_get da_cX5_both_2 1 rfl)
theorem dX5_both_77 : decode cX5_both 77 = .ok (.aload_n 0, 1) := fo_42 (fw_get da_cX5_both_2 2 rfl)
theorem dX5_both_78 : decode cX5_both 78 = .ok (.getfield 178, 3) := fo_180 (fw_get da_cX5_both_2 3 rfl)
theorem dX5_both_81 : decode cX5_both 81 = .ok (.ireturn, 1) := fo_172 (fw_get da_cX5_both_2 4 rfl)
theorem mi_wsX5_bothAt_wsX5_bothAt_r1 : ∀ w ∈ wsX5_bothAt_r1, w ∈ wsX5_bothAt := fun _ h => (List.mem_cons_of_mem _ (List.mem_append_left _ (List.mem_append_left _ h)))
theorem mi_wsX5_bothAt_wsX5_bothAt_r2 : ∀ w ∈ wsX5_bothAt_r2, w ∈ wsX5_bothAt := fun _ h => (List.mem_cons_of_mem _ (List.mem_append_left _ (List.mem_append_right _ h)))
theorem mi_wsX5_bothAt_wsX50 : ∀ w ∈ wsX50, w ∈ wsX5_bothAt := fun _ h => (List.mem_cons_of_mem _ (List.mem_append_right _ h))
set_option maxRecDepth 20000 in
theorem ggX5_bothAt_X5_both : GoodIn wsX5_bothAt wsX5_both := goodIn_k _ [(wsX5_bothAt_r1, [6, 7, 8, 9, 10, 11, 5, 12, 13, 14, 15, 16, 17, 18, 19, 20, 21, 22, 23]), (wsX5_bothAt_r2, [0, 1, 2, 3, 4, 5, 6, 7, 8, 9, 10, 11, 12, 13, 14]), (wsX5_bothAt_r1, [0]), (wsX50, [0, 1, 2, 3, 4, 5, 6, 7, 8, 9, 10, 11, 12, 13, 14, 15, 16, 17, 18, 19, 20, 21, 22, 23, 24, 25, 26, 27, 28, 29])] (gk_c mi_wsX5_bothAt_wsX5_bothAt_r1 (gk_c mi_wsX5_bothAt_wsX5_bothAt_r2 (gk_c mi_wsX5_bothAt_wsX5_bothAt_r1 (gk_c mi_wsX5_bothAt_wsX50 gk_n)))) rfl (by decide +kernel)
set_option maxRecDepth 20000 in
theorem gX5_bothAt_X5_both : GoodIn wsX5_bothAt (wsV RX5 197 RX5 yX5_both wsX5_both) := goodIn_app (goodIn_k _ [(wsX5_bothAt_r1, [2, 3, 4, 5])] (gk_c mi_wsX5_bothAt_wsX5_bothAt_r1 gk_n) rfl (by decide +kernel)) ggX5_bothAt_X5_both
set_option maxRecDepth 20000 in
theorem ggX5_bothAt_X5_within : GoodIn wsX5_bothAt wsX5_within := goodIn_k _ [(wsX5_bothAt_r1, [19])] (gk_c mi_wsX5_bothAt_wsX5_bothAt_r1 gk_n) rfl (by decide +kernel)
set_option maxRecDepth 20000 in
theorem gX5_bothAt_X5_within : GoodIn wsX5_bothAt (va_wsS RX5 80 yX5_within wsX5_within) := goodIn_app (goodIn_k _ [(wsX5_bothAt_r1, [17, 18, 5])] (gk_c mi_wsX5_bothAt_wsX5_bothAt_r1 gk_n) rfl (by decide +kernel)) ggX5_bothAt_X5_within
def dt_cX5_bothAt_0 : List (Nat × Nat × Nat × Nat) := [(0, 42, 0, 0), (1, 27, 0, 0), (2, 28, 0, 0), (3, 29, 0, 0), (4, 21, 1, 4), (6, 21, 1, 5), (8, 21, 1, 6), (10, 182, 2, 197), (13, 54, 1, 8), (15, 21, 1, 7), (17, 3, 0, 0), (18, 21, 1, 8), (20, 4, 0, 0), (21, 100, 0, 0), (22, 184, 2, 80), (25, 153, 2, 13), (28, 42, 0, 0), (29, 180, 2, 62), (32, 21, 1, 7), (34, 46, 0, 0)]
theorem da_cX5_bothAt_0 : fw dt_cX5_bothAt_0 0 cX5_bothAt.data.toList = true := by decide +kernel
theorem dX5_bothAt_0 : decode cX5_bothAt 0 = .ok (.aload_n 0, 1) := fo_42 (fw_get da_cX5_bothAt_0 0 rfl)
theorem dX5_bothAt_1 : decode cX5_bothAt 1 = .ok (.iload_n 1, 1) := fo_27 (fw_get da_cX5_bothAt_0 1 rfl)
theorem dX5_bothAt_2 : decode cX5_bothAt 2 = .ok (.iload_n 2, 1) := fo_28 (fw_get da_cX5_bothAt_0 2 rfl)
theorem dX5_bothAt_3 : decode cX5_bothAt 3 = .ok (.iload_n 3, 1) := fo_29 (fw_get da_cX5_bothAt_0 3 rfl)
theorem dX5_bothAt_4 : decode cX5_bothAt 4 = .ok (.iload 4, 2) := fo_21 (fw_get da_cX5_bothAt_0 4 rfl)
theorem dX5_bothAt_6 : decode cX5_bothAt 6 = .ok (.iload 5, 2) := fo_21 (fw_get da_cX5_bothAt_0 5 rfl)
theorem dX5_bothAt_8 : decode cX5_bothAt 8 = .ok (.iload 6, 2) := fo_21 (fw_get da_cX5_bothAt_0 6 rfl)
theorem dX5_bothAt_10 : decode cX5_bothAt 10 = .ok (.invokevirtual 197, 3) := fo_182 (fw_get da_cX5_bothAt_0 7 rfl)
theorem dX5_bothAt_13 : decode cX5_bothAt 13 = .ok (.istore 8, 2) := fo_54 (fw_get da_cX5_bothAt_0 8 rfl)
theorem dX5_bothAt_15 : decode cX5_bothAt 15 = .ok (.iload 7, 2) := fo_21 (fw_get da_cX5_bothAt_0 9 rfl)
theorem dX5_bothAt_17 : decode cX5_bothAt 17 = .ok (.iconst 0, 1) := fo_3 (fw_get da_cX5_bothAt_0 10 rfl)
theorem dX5_bothAt_18 : decode cX5_bothAt 18 = .ok (.iload 8, 2) := fo_21 (fw_get da_cX5_bothAt_0 11 rfl)
theorem dX5_bothAt_20 : decode cX5_bothAt 20 = .ok (.iconst 1, 1) := fo_4 (fw_get da_cX5_bothAt_0 12 rfl)
theorem dX5_bothAt_21 : decode cX5_bothAt 21 = .ok (.isub, 1) := fo_100 (fw_get da_cX5_bothAt_0 13 rfl)
theorem dX5_bothAt_22 : decode cX5_bothAt 22 = .ok (.invokestatic 80, 3) := fo_184 (fw_get da_cX5_bothAt_0 14 rfl)
theorem dX5_bothAt_25 : decode cX5_bothAt 25 = .ok (.ifCond .eq 13, 3) := fo_153 (fw_get da_cX5_bothAt_0 15 rfl) (by decide +kernel)
theorem dX5_bothAt_28 : decode cX5_bothAt 28 = .ok (.aload_n 0, 1) := fo_42 (fw_get da_cX5_bothAt_0 16 rfl)
theorem dX5_bothAt_29 : decode cX5_bothAt 29 = .ok (.getfield 62, 3) := fo_180 (fw_get da_cX5_bothAt_0 17 rfl)
theorem dX5_bothAt_32 : decode cX5_bothAt 32 = .ok (.iload 7, 2) := fo_21 (fw_get da_cX5_bothAt_0 18 rfl)
theorem dX5_bothAt_34 : decode cX5_bothAt 34 = .ok (.iaload, 1) := fo_46 (fw_get da_cX5_bothAt_0 19 rfl)
def dt_cX5_bothAt_1 : List (Nat × Nat × Nat × Nat) := [(35, 167, 2, 5), (38, 18, 1, 148), (40, 172, 0, 0)]
theorem da_cX5_bothAt_1 : fw dt_cX5_bothAt_1 0 cX5_bothAt.data.toList = true := by decide +kernel
theorem dX5_bothAt_35 : decode cX5_bothAt 35 = .ok (.goto 5, 3) := fo_167 (fw_get da_cX5_bothAt_1 0 rfl) (by decide +kernel)
theorem dX5_bothAt_38 : decode cX5_bothAt 38 = .ok (.ldc 148, 2) := fo_18 (fw_get da_cX5_bothAt_1 1 rfl)
theorem dX5_bothAt_40 : decode cX5_bothAt 40 = .ok (.ireturn, 1) := fo_172 (fw_get da_cX5_bothAt_1 2 rfl)

