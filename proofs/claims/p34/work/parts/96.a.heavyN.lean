abbrev cX5_comes : ByteArray := prog_7_method_53_code
def yX5_comes : MethodName := ⟨RX5, "comes", "(II)V"⟩
abbrev cX5_laysHeavy : ByteArray := prog_7_method_54_code
def yX5_laysHeavy : MethodName := ⟨RX5, "laysHeavy", "(IIIIII)V"⟩
abbrev cX5_heavy : ByteArray := prog_7_method_56_code
def yX5_heavy : MethodName := ⟨RX5, "heavy", "(IIII)I"⟩
abbrev cX5_heavyAt : ByteArray := prog_7_method_57_code
def yX5_heavyAt : MethodName := ⟨RX5, "heavyAt", "(IIIIII)I"⟩
abbrev cX5_both : ByteArray := prog_7_method_63_code
def yX5_both : MethodName := ⟨RX5, "both", "(IIIIII)I"⟩
abbrev cX5_bothAt : ByteArray := prog_7_method_64_code
def yX5_bothAt : MethodName := ⟨RX5, "bothAt", "(IIIIIII)I"⟩
def wsX5_comes : List Cond := .code yX5_comes cX5_comes 4 none :: ([.fieldLink RX5 178 "MajorityIndexModel" "heavyMany" "I", .fieldLink RX5 65 "MajorityIndexModel" "heavyTimes" "[I", .fieldLink RX5 62 "MajorityIndexModel" "heavyValue" "[I"] ++ wsX50)
def wsX5_laysHeavy : List Cond := .code yX5_laysHeavy cX5_laysHeavy 10 none :: ([.fieldLink RX5 178 "MajorityIndexModel" "heavyMany" "I", .fieldLink RX5 7 "MajorityIndexModel" "row" "[I", .methodLink RX5 149 yX5_times, .instanceMethod yX5_times, .selects RX5 yX5_times yX5_times, .initialized RX5, .code yX5_times cX5_times 6 (some .int), .methodLink RX5 181 yX5_comes, .instanceMethod yX5_comes, .selects RX5 yX5_comes yX5_comes, .code yX5_comes cX5_comes 4 none, .fieldLink RX5 65 "MajorityIndexModel" "heavyTimes" "[I", .fieldLink RX5 62 "MajorityIndexModel" "heavyValue" "[I"] ++ wsX50)
def wsX5_heavy_r1 : List Cond := [Cond.fieldLink RX5 77 "MajorityIndexModel" "thrown" "I", Cond.fieldLink RX5 178 "MajorityIndexModel" "heavyMany" "I", Cond.methodLink RX5 142 yX5_isRange, Cond.instanceMethod yX5_isRange, Cond.selects RX5 yX5_isRange yX5_isRange, Cond.initialized RX5, Cond.code yX5_isRange cX5_isRange 3 (some .boolean), Cond.fieldLink RX5 84 "MajorityIndexModel" "n" "I", Cond.methodLink RX5 184 yX5_isShare, Cond.static yX5_isShare, Cond.code yX5_isShare cX5_isShare 2 (some .boolean), Cond.methodLink RX5 80 yX5_within, Cond.static yX5_within, Cond.code yX5_within cX5_within 3 (some .boolean), Cond.methodLink RX5 187 yX5_isEnough, Cond.instanceMethod yX5_isEnough, Cond.selects RX5 yX5_isEnough yX5_isEnough, Cond.code yX5_isEnough cX5_isEnough 3 (some .boolean), Cond.fieldLink RX5 13 "MajorityIndexModel" "slots" "I", Cond.methodLink RX5 190 yX5_laysHeavy, Cond.instanceMethod yX5_laysHeavy, Cond.selects RX5 yX5_laysHeavy yX5_laysHeavy, Cond.code yX5_laysHeavy cX5_laysHeavy 10 none, Cond.fieldLink RX5 7 "MajorityIndexModel" "row" "[I"]
def wsX5_heavy_r2 : List Cond := [Cond.methodLink RX5 149 yX5_times, Cond.instanceMethod yX5_times, Cond.selects RX5 yX5_times yX5_times, Cond.code yX5_times cX5_times 6 (some .int), Cond.methodLink RX5 181 yX5_comes, Cond.instanceMethod yX5_comes, Cond.selects RX5 yX5_comes yX5_comes, Cond.code yX5_comes cX5_comes 4 none, Cond.fieldLink RX5 65 "MajorityIndexModel" "heavyTimes" "[I", Cond.fieldLink RX5 62 "MajorityIndexModel" "heavyValue" "[I"]
def wsX5_heavy : List Cond := .code yX5_heavy cX5_heavy 5 (some .int) :: ((wsX5_heavy_r1 ++ wsX5_heavy_r2) ++ wsX50)
def wsX5_heavyAt_r1 : List Cond := [Cond.fieldLink RX5 77 "MajorityIndexModel" "thrown" "I", Cond.fieldLink RX5 178 "MajorityIndexModel" "heavyMany" "I", Cond.fieldLink RX5 62 "MajorityIndexModel" "heavyValue" "[I", Cond.fieldLink RX5 65 "MajorityIndexModel" "heavyTimes" "[I", Cond.methodLink RX5 142 yX5_isRange, Cond.instanceMethod yX5_isRange, Cond.selects RX5 yX5_isRange yX5_isRange, Cond.initialized RX5, Cond.code yX5_isRange cX5_isRange 3 (some .boolean), Cond.fieldLink RX5 84 "MajorityIndexModel" "n" "I", Cond.methodLink RX5 184 yX5_isShare, Cond.static yX5_isShare, Cond.code yX5_isShare cX5_isShare 2 (some .boolean), Cond.methodLink RX5 80 yX5_within, Cond.static yX5_within, Cond.code yX5_within cX5_within 3 (some .boolean), Cond.methodLink RX5 187 yX5_isEnough, Cond.instanceMethod yX5_isEnough, Cond.selects RX5 yX5_isEnough yX5_isEnough, Cond.code yX5_isEnough cX5_isEnough 3 (some .boolean), Cond.fieldLink RX5 13 "MajorityIndexModel" "slots" "I", Cond.methodLink RX5 190 yX5_laysHeavy, Cond.instanceMethod yX5_laysHeavy, Cond.selects RX5 yX5_laysHeavy yX5_laysHeavy]
def wsX5_heavyAt_r2 : List Cond := [Cond.code yX5_laysHeavy cX5_laysHeavy 10 none, Cond.fieldLink RX5 7 "MajorityIndexModel" "row" "[I", Cond.methodLink RX5 149 yX5_times, Cond.instanceMethod yX5_times, Cond.selects RX5 yX5_times yX5_times, Cond.code yX5_times cX5_times 6 (some .int), Cond.methodLink RX5 181 yX5_comes, Cond.instanceMethod yX5_comes, Cond.selects RX5 yX5_comes yX5_comes, Cond.code yX5_comes cX5_comes 4 none]
def wsX5_heavyAt : List Cond := .code yX5_heavyAt cX5_heavyAt 7 (some .int) :: ((wsX5_heavyAt_r1 ++ wsX5_heavyAt_r2) ++ wsX50)
def wsX5_both_r1 : List Cond := [Cond.fieldLink RX5 77 "MajorityIndexModel" "thrown" "I", Cond.fieldLink RX5 178 "MajorityIndexModel" "heavyMany" "I", Cond.methodLink RX5 142 yX5_isRange, Cond.instanceMethod yX5_isRange, Cond.selects RX5 yX5_isRange yX5_isRange, Cond.initialized RX5, Cond.code yX5_isRange cX5_isRange 3 (some .boolean), Cond.fieldLink RX5 84 "MajorityIndexModel" "n" "I", Cond.methodLink RX5 184 yX5_isShare, Cond.static yX5_isShare, Cond.code yX5_isShare cX5_isShare 2 (some .boolean), Cond.methodLink RX5 80 yX5_within, Cond.static yX5_within, Cond.code yX5_within cX5_within 3 (some .boolean), Cond.methodLink RX5 187 yX5_isEnough, Cond.instanceMethod yX5_isEnough, Cond.selects RX5 yX5_isEnough yX5_isEnough, Cond.code yX5_isEnough cX5_isEnough 3 (some .boolean), Cond.fieldLink RX5 13 "MajorityIndexModel" "slots" "I", Cond.methodLink RX5 190 yX5_laysHeavy, Cond.instanceMethod yX5_laysHeavy, Cond.selects RX5 yX5_laysHeavy yX5_laysHeavy, Cond.code yX5_laysHeavy cX5_laysHeavy 10 none, Cond.fieldLink RX5 7 "MajorityIndexModel" "row" "[I"]
def wsX5_both_r2 : List Cond := [Cond.methodLink RX5 149 yX5_times, Cond.instanceMethod yX5_times, Cond.selects RX5 yX5_times yX5_times, Cond.code yX5_times cX5_times 6 (some .int), Cond.methodLink RX5 181 yX5_comes, Cond.instanceMethod yX5_comes, Cond.selects RX5 yX5_comes yX5_comes, Cond.code yX5_comes cX5_comes 4 none, Cond.fieldLink RX5 65 "MajorityIndexModel" "heavyTimes" "[I", Cond.fieldLink RX5 62 "MajorityIndexModel" "heavyValue" "[I"]
def wsX5_both : List Cond := .code yX5_both cX5_both 7 (some .int) :: ((wsX5_both_r1 ++ wsX5_both_r2) ++ wsX50)
def wsX5_bothAt_r1 : List Cond := [Cond.fieldLink RX5 62 "MajorityIndexModel" "heavyValue" "[I", Cond.constant RX5 148 (-40000), Cond.methodLink RX5 197 yX5_both, Cond.instanceMethod yX5_both, Cond.selects RX5 yX5_both yX5_both, Cond.initialized RX5, Cond.code yX5_both cX5_both 7 (some .int), Cond.fieldLink RX5 77 "MajorityIndexModel" "thrown" "I", Cond.fieldLink RX5 178 "MajorityIndexModel" "heavyMany" "I", Cond.methodLink RX5 142 yX5_isRange, Cond.instanceMethod yX5_isRange, Cond.selects RX5 yX5_isRange yX5_isRange, Cond.code yX5_isRange cX5_isRange 3 (some .boolean), Cond.fieldLink RX5 84 "MajorityIndexModel" "n" "I", Cond.methodLink RX5 184 yX5_isShare, Cond.static yX5_isShare, Cond.code yX5_isShare cX5_isShare 2 (some .boolean), Cond.methodLink RX5 80 yX5_within, Cond.static yX5_within, Cond.code yX5_within cX5_within 3 (some .boolean), Cond.methodLink RX5 187 yX5_isEnough, Cond.instanceMethod yX5_isEnough, Cond.selects RX5 yX5_isEnough yX5_isEnough, Cond.code yX5_isEnough cX5_isEnough 3 (some .boolean)]
def wsX5_bothAt_r2 : List Cond := [Cond.fieldLink RX5 13 "MajorityIndexModel" "slots" "I", Cond.methodLink RX5 190 yX5_laysHeavy, Cond.instanceMethod yX5_laysHeavy, Cond.selects RX5 yX5_laysHeavy yX5_laysHeavy, Cond.code yX5_laysHeavy cX5_laysHeavy 10 none, Cond.fieldLink RX5 7 "MajorityIndexModel" "row" "[I", Cond.methodLink RX5 149 yX5_times, Cond.instanceMethod yX5_times, Cond.selects RX5 yX5_times yX5_times, Cond.code yX5_times cX5_times 6 (some .int), Cond.methodLink RX5 181 yX5_comes, Cond.instanceMethod yX5_comes, Cond.selects RX5 yX5_comes yX5_comes, Cond.code yX5_comes cX5_comes 4 none, Cond.fieldLink RX5 65 "MajorityIndexModel" "heavyTimes" "[I"]
def wsX5_bothAt : List Cond := .code yX5_bothAt cX5_bothAt 9 (some .int) :: ((wsX5_bothAt_r1 ++ wsX5_bothAt_r2) ++ wsX50)
def dt_cX5_comes_0 : List (Nat × Nat × Nat × Nat) := [(0, 42, 0, 0), (1, 180, 2, 178), (4, 62, 0, 0), (5, 29, 0, 0), (6, 158, 2, 73), (9, 42, 0, 0), (10, 180, 2, 65), (13, 29, 0, 0), (14, 4, 0, 0), (15, 100, 0, 0), (16, 46, 0, 0), (17, 28, 0, 0), (18, 161, 2, 27), (21, 42, 0, 0), (22, 180, 2, 65), (25, 29, 0, 0), (26, 4, 0, 0), (27, 100, 0, 0), (28, 46, 0, 0), (29, 28, 0, 0)]
theorem da_cX5_comes_0 : fw dt_cX5_comes_0 0 cX5_comes.data.toList = true := by decide +kernel
theorem dX5_comes_0 : decode cX5_comes 0 = .ok (.aload_n 0, 1) := fo_42 (fw_get da_cX5_comes_0 0 rfl)
theorem dX5_comes_1 : decode cX5_comes 1 = .ok (.getfield 178, 3) := fo_180 (fw_get da_cX5_comes_0 1 rfl)
theorem dX5_comes_4 : decode cX5_comes 4 = .ok (.istore_n 3, 1) := fo_62 (fw_get da_cX5_comes_0 2 rfl)
theorem dX5_comes_5 : decode cX5_comes 5 = .ok (.iload_n 3, 1) := fo_29 (fw_get da_cX5_comes_0 3 rfl)
theorem dX5_comes_6 : decode cX5_comes 6 = .ok (.ifCond .le 73, 3) := fo_158 (fw_get da_cX5_comes_0 4 rfl) (by decide +kernel)
theorem dX5_comes_9 : decode cX5_comes 9 = .ok (.aload_n 0, 1) := fo_42 (fw_get da_cX5_comes_0 5 rfl)
theorem dX5_comes_10 : decode cX5_comes 10 = .ok (.getfield 65, 3) := fo_180 (fw_get da_cX5_comes_0 6 rfl)
theorem dX5_comes_13 : decode cX5_comes 13 = .ok (.iload_n 3, 1) := fo_29 (fw_get da_cX5_comes_0 7 rfl)
theorem dX5_comes_14 : decode cX5_comes 14 = .ok (.iconst 1, 1) := fo_4 (fw_get da_cX5_comes_0 8 rfl)
theorem dX5_comes_15 : decode cX5_comes 15 = .ok (.isub, 1) := fo_100 (fw_get da_cX5_comes_0 9 rfl)
theorem dX5_comes_16 : decode cX5_comes 16 = .ok (.iaload, 1) := fo_46 (fw_get da_cX5_comes_0 10 rfl)
theorem dX5_comes_17 : decode cX5_comes 17 = .ok (.iload_n 2, 1) := fo_28 (fw_get da_cX5_comes_0 11 rfl)
theorem dX5_comes_18 : decode cX5_comes 18 = .ok (.if_icmp .lt 27, 3) := fo_161 (fw_get da_cX5_comes_0 12 rfl) (by decide +kernel)
theorem dX5_comes_21 : decode cX5_comes 21 = .ok (.aload_n 0, 1) := fo_42 (fw_get da_cX5_comes_0 13 rfl)
theorem dX5_comes_22 : decode cX5_comes 22 = .ok (.getfield 65, 3) := fo_180 (fw_get da_cX5_comes_0 14 rfl)
theorem dX5_comes_25 : decode cX5_comes 25 = .ok (.iload_n 3, 1) := fo_29 (fw_get da_cX5_comes_0 15 rfl)
theorem dX5_comes_26 : decode cX5_comes 26 = .ok (.iconst 1, 1) := fo_4 (fw_get da_cX5_comes_0 16 rfl)
theorem dX5_comes_27 : decode cX5_comes 27 = .ok (.isub, 1) := fo_100 (fw_get da_cX5_comes_0 17 rfl)
theorem dX5_comes_28 : decode cX5_comes 28 = .ok (.iaload, 1) := fo_46 (fw_get da_cX5_comes_0 18 rfl)
theorem dX5_comes_29 : decode cX5_comes 29 = .ok (.iload_n 2, 1) := fo_28 (fw_get da_cX5_comes_0 19 rfl)
def dt_cX5_comes_1 : List (Nat × Nat × Nat × Nat) := [(30, 160, 2, 49), (33, 42, 0, 0), (34, 180, 2, 62), (37, 29, 0, 0), (38, 4, 0, 0), (39, 100, 0, 0), (40, 46, 0, 0), (41, 27, 0, 0), (42, 164, 2, 37), (45, 42, 0, 0), (46, 180, 2, 62), (49, 29, 0, 0), (50, 42, 0, 0), (51, 180, 2, 62), (54, 29, 0, 0), (55, 4, 0, 0), (56, 100, 0, 0), (57, 46, 0, 0), (58, 79, 0, 0), (59, 42, 0, 0)]
theorem da_cX5_comes_1 : fw dt_cX5_comes_1 0 cX5_comes.data.toList = true := by decide +kernel
theorem dX5_comes_30 : decode cX5_comes 30 = .ok (.if_icmp .ne 49, 3) := fo_160 (fw_get da_cX5_comes_1 0 rfl) (by decide +kernel)
theorem dX5_comes_33 : decode cX5_comes 33 = .ok (.aload_n 0, 1) := fo_42 (fw_get da_cX5_comes_1 1 rfl)
theorem dX5_comes_34 : decode cX5_comes 34 = .ok (.getfield 62, 3) := fo_180 (fw_get da_cX5_comes_1 2 rfl)
theorem dX5_comes_37 : decode cX5_comes 37 = .ok (.iload_n 3, 1) := fo_29 (fw_get da_cX5_comes_1 3 rfl)
theorem dX5_comes_38 : decode cX5_comes 38 = .ok (.iconst 1, 1) := fo_4 (fw_get da_cX5_comes_1 4 rfl)
theorem dX5_comes_39 : decode cX5_comes 39 = .ok (.isub, 1) := fo_100 (fw_get da_cX5_comes_1 5 rfl)
theorem dX5_comes_40 : decode cX5_comes 40 = .ok (.iaload, 1) := fo_46 (fw_get da_cX5_comes_1 6 rfl)
theorem dX5_comes_41 : decode cX5_comes 41 = .ok (.iload_n 1, 1) := fo_27 (fw_get da_cX5_comes_1 7 rfl)
theorem dX5_comes_42 : decode cX5_comes 42 = .ok (.if_icmp .le 37, 3) := fo_164 (fw_get da_cX5_comes_1 8 rfl) (by decide +kernel)
theorem dX5_comes_45 : decode cX5_comes 45 = .ok (.aload_n 0, 1) := fo_42 (fw_get da_cX5_comes_1 9 rfl)
theorem dX5_comes_46 : decode cX5_comes 46 = .ok (.getfield 62, 3) := fo_180 (fw_get da_cX5_comes_1 10 rfl)
theorem dX5_comes_49 : decode cX5_comes 49 = .ok (.iload_n 3, 1) := fo_29 (fw_get da_cX5_comes_1 11 rfl)
theorem dX5_comes_50 : decode cX5_comes 50 = .ok (.aload_n 0, 1) := fo_42 (fw_get da_cX5_comes_1 12 rfl)
theorem dX5_comes_51 : decode cX5_comes 51 = .ok (.getfield 62, 3) := fo_180 (fw_get da_cX5_comes_1 13 rfl)
theorem dX5_comes_54 : decode cX5_comes 54 = .ok (.iload_n 3, 1) := fo_29 (fw_get da_cX5_comes_1 14 rfl)
theorem dX5_comes_55 : decode cX5_comes 55 = .ok (.iconst 1, 1) := fo_4 (fw_get da_cX5_comes_1 15 rfl)
theorem dX5_comes_56 : decode cX5_comes 56 = .ok (.isub, 1) := fo_100 (fw_get da_cX5_comes_1 16 rfl)
theorem dX5_comes_57 : decode cX5_comes 57 = .ok (.iaload, 1) := fo_46 (fw_get da_cX5_comes_1 17 rfl)
theorem dX5_comes_58 : decode cX5_comes 58 = .ok (.iastore, 1) := fo_79 (fw_get da_cX5_comes_1 18 rfl)
theorem dX5_comes_59 : decode cX5_comes 59 = .ok (.aload_n 0, 1) := fo_42 (fw_get da_cX5_comes_1 19 rfl)
def dt_cX5_comes_2 : List (Nat × Nat × Nat × Nat) := [(60, 180, 2, 65), (63, 29, 0, 0), (64, 42, 0, 0), (65, 180, 2, 65), (68, 29, 0, 0), (69, 4, 0, 0), (70, 100, 0, 0), (71, 46, 0, 0), (72, 79, 0, 0), (73, 132, 2, 1023), (76, 167, 2, 65465), (79, 42, 0, 0), (80, 180, 2, 62), (83, 29, 0, 0), (84, 27, 0, 0), (85, 79, 0, 0), (86, 42, 0, 0), (87, 180, 2, 65), (90, 29, 0, 0), (91, 28, 0, 0)]
theorem da_cX5_comes_2 : fw dt_cX5_comes_2 0 cX5_comes.data.toList = true := by decide +kernel
theorem dX5_comes_60 : decode cX5_comes 60 = .ok (.getfield 65, 3) := fo_180 (fw_get da_cX5_comes_2 0 rfl)
theorem dX5_comes_63 : decode cX5_comes 63 = .ok (.iload_n 3, 1) := fo_29 (fw_get da_cX5_comes_2 1 rfl)
theorem dX5_comes_64 : decode cX5_comes 64 = .ok (.aload_n 0, 1) := fo_42 (fw_get da_cX5_comes_2 2 rfl)
theorem dX5_comes_65 : decode cX5_comes 65 = .ok (.getfield 65, 3) := fo_180 (fw_get da_cX5_comes_2 3 rfl)
theorem dX5_comes_68 : decode cX5_comes 68 = .ok (.iload_n 3, 1) := fo_29 (fw_get da_cX5_comes_2 4 rfl)
theorem dX5_comes_69 : decode cX5_comes 69 = .ok (.iconst 1, 1) := fo_4 (fw_get da_cX5_comes_2 5 rfl)
theorem dX5_comes_70 : decode cX5_comes 70 = .ok (.isub, 1) := fo_100 (fw_get da_cX5_comes_2 6 rfl)
theorem dX5_comes_71 : decode cX5_comes 71 = .ok (.iaload, 1) := fo_46 (fw_get da_cX5_comes_2 7 rfl)
theorem dX5_comes_72 : decode cX5_comes 72 = .ok (.iastore, 1) := fo_79 (fw_get da_cX5_comes_2 8 rfl)
theorem dX5_comes_73 : decode cX5_comes 73 = .ok (.iinc 3 (-1), 3) := fo_132 (fw_get da_cX5_comes_2 9 rfl) rfl (by decide +kernel)
theorem dX5_comes_76 : decode cX5_comes 76 = .ok (.goto (-71), 3) := fo_167 (fw_get da_cX5_comes_2 10 rfl) (by decide +kernel)
theorem dX5_comes_79 : decode cX5_comes 79 = .ok (.aload_n 0, 1) := fo_42 (fw_get da_cX5_comes_2 11 rfl)
theorem dX5_comes_80 : decode cX5_comes 80 = .ok (.getfield 62, 3) := fo_180 (fw_get da_cX5_comes_2 12 rfl)
theorem dX5_comes_83 : decode cX5_comes 83 = .ok (.iload_n 3, 1) := fo_29 (fw_get da_cX5_comes_2 13 rfl)
theorem dX5_comes_84 : decode cX5_comes 84 = .ok (.iload_n 1, 1) := fo_27 (fw_get da_cX5_comes_2 14 rfl)
theorem dX5_comes_85 : decode cX5_comes 85 = .ok (.iastore, 1) := fo_79 (fw_get da_cX5_comes_2 15 rfl)
theorem dX5_comes_86 : decode cX5_comes 86 = .ok (.aload_n 0, 1) := fo_42 (fw_get da_cX5_comes_2 16 rfl)
theorem dX5_comes_87 : decode cX5_comes 87 = .ok (.getfield 65, 3) := fo_180 (fw_get da_cX5_comes_2 17 rfl)
theorem dX5_comes_90 : decode cX5_comes 90 = .ok (.iload_n 3, 1) := fo_29 (fw_get da_cX5_comes_2 18 rfl)
theorem dX5_comes_91 : decode cX5_comes 91 = .ok (.iload_n 2, 1) := fo_28 (fw_get da_cX5_comes_2 19 rfl)
def dt_cX5_comes_3 : List (Nat × Nat × Nat × Nat) := [(92, 79, 0, 0), (93, 42, 0, 0), (94, 89, 0, 0), (95, 180, 2, 178), (98, 4, 0, 0), (99, 96, 0, 0), (100, 181, 2, 178), (103, 177, 0, 0)]
theorem da_cX5_comes_3 : fw dt_cX5_comes_3 0 cX5_comes.data.toList = true := by decide +kernel
theorem dX5_comes_92 : decode cX5_comes 92 = .ok (.iastore, 1) := fo_79 (fw_get da_cX5_comes_3 0 rfl)
theorem dX5_comes_93 : decode cX5_comes 93 = .ok (.aload_n 0, 1) := fo_42 (fw_get da_cX5_comes_3 1 rfl)
theorem dX5_comes_94 : decode cX5_comes 94 = .ok (.dup, 1) := fo_89 (fw_get da_cX5_comes_3 2 rfl)
theorem dX5_comes_95 : decode cX5_comes 95 = .ok (.getfield 178, 3) := fo_180 (fw_get da_cX5_comes_3 3 rfl)
theorem dX5_comes_98 : decode cX5_comes 98 = .ok (.iconst 1, 1) := fo_4 (fw_get da_cX5_comes_3 4 rfl)
theorem dX5_comes_99 : decode cX5_comes 99 = .ok (.iadd, 1) := fo_96 (fw_get da_cX5_comes_3 5 rfl)
theorem dX5_comes_100 : decode cX5_comes 100 = .ok (.putfield 178, 3) := fo_181 (fw_get da_cX5_comes_3 6 rfl)
theorem dX5_comes_103 : decode cX5_comes 103 = .ok (.return_, 1) := fo_177 (fw_get da_cX5_comes_3 7 rfl)
set_option maxRecDepth 20000 in
theorem ggX5_laysHeavy_X5_times : GoodIn wsX5_laysHeavy wsX5_times := goodIn_r _ [7, 2, 14, 15, 16, 17, 18, 19, 20, 21, 22, 23, 24, 25, 26, 27, 28, 29, 30, 31, 32, 33, 34, 35, 36, 37, 38, 39, 40, 41, 42, 43] rfl (by decide +kernel)
set_option maxRecDepth 20000 in
theorem gX5_laysHeavy_X5_times : GoodIn wsX5_laysHeavy (wsV RX5 149 RX5 yX5_times wsX5_times) := goodIn_app (goodIn_r _ [3, 4, 5, 6] rfl (by decide +kernel)) ggX5_laysHeavy_X5_times
set_option maxRecDepth 20000 in
theorem ggX5_laysHeavy_X5_comes : GoodIn wsX5_laysHeavy wsX5_comes := goodIn_r _ [11, 1, 12, 13, 14, 15, 16, 17, 18, 19, 20, 21, 22, 23, 24, 25, 26, 27, 28, 29, 30, 31, 32, 33, 34, 35, 36, 37, 38, 39, 40, 41, 42, 43] rfl (by decide +kernel)
set_option maxRecDepth 20000 in
theorem gX5_laysHeavy_X5_comes : GoodIn wsX5_laysHeavy (wsV RX5 181 RX5 yX5_comes wsX5_comes) := goodIn_app (goodIn_r _ [8, 9, 10, 6] rfl (by decide +kernel)) ggX5_laysHeavy_X5_comes
def dt_cX5_laysHeavy_0 : List (Nat × Nat × Nat × Nat) := [(0, 42, 0, 0), (1, 3, 0, 0), (2, 181, 2, 178), (5, 28, 0, 0), (6, 27, 0, 0), (7, 100, 0, 0), (8, 21, 1, 4), (10, 96, 0, 0), (11, 29, 0, 0), (12, 100, 0, 0), (13, 54, 1, 7), (15, 27, 0, 0), (16, 54, 1, 8), (18, 21, 1, 8), (20, 28, 0, 0), (21, 162, 2, 82), (24, 42, 0, 0), (25, 42, 0, 0), (26, 180, 2, 7), (29, 21, 1, 8)]
theorem da_cX5_laysHeavy_0 : fw dt_cX5_laysHeavy_0 0 cX5_laysHeavy.data.toList = true := by decide +kernel
theorem dX5_laysHeavy_0 : decode cX5_laysHeavy 0 = .ok (.aload_n 0, 1) := fo_42 (fw_get da_cX5_laysHeavy_0 0 rfl)
theorem dX5_laysHeavy_1 : decode cX5_laysHeavy 1 = .ok (.iconst 0, 1) := fo_3 (fw_get da_cX5_laysHeavy_0 1 rfl)
theorem dX5_laysHeavy_2 : decode cX5_laysHeavy 2 = .ok (.putfield 178, 3) := fo_181 (fw_get da_cX5_laysHeavy_0 2 rfl)
theorem dX5_laysHeavy_5 : decode cX5_laysHeavy 5 = .ok (.iload_n 2, 1) := fo_28 (fw_get da_cX5_laysHeavy_0 3 rfl)
theorem dX5_laysHeavy_6 : decode cX5_laysHeavy 6 = .ok (.iload_n 1, 1) := fo_27 (fw_get da_cX5_laysHeavy_0 4 rfl)
theorem dX5_laysHeavy_7 : decode cX5_laysHeavy 7 = .ok (.isub, 1) := fo_100 (fw_get da_cX5_laysHeavy_0 5 rfl)
theorem dX5_laysHeavy_8 : decode cX5_laysHeavy 8 = .ok (.iload 4, 2) := fo_21 (fw_get da_cX5_laysHeavy_0 6 rfl)
theorem dX5_laysHeavy_10 : decode cX5_laysHeavy 10 = .ok (.iadd, 1) := fo_96 (fw_get da_cX5_laysHeavy_0 7 rfl)
theorem dX5_laysHeavy_11 : decode cX5_laysHeavy 11 = .ok (.iload_n 3, 1) := fo_29 (fw_get da_cX5_laysHeavy_0 8 rfl)
theorem dX5_laysHeavy_12 : decode cX5_laysHeavy 12 = .ok (.isub, 1) := fo_100 (fw_get da_cX5_laysHeavy_0 9 rfl)
theorem dX5_laysHeavy_13 : decode cX5_laysHeavy 13 = .ok (.istore 7, 2) := fo_54 (fw_get da_cX5_laysHeavy_0 10 rfl)
theorem dX5_laysHeavy_15 : decode cX5_laysHeavy 15 = .ok (.iload_n 1, 1) := fo_27 (fw_get da_cX5_laysHeavy_0 11 rfl)
theorem dX5_laysHeavy_16 : decode cX5_laysHeavy 16 = .ok (.istore 8, 2) := fo_54 (fw_get da_cX5_laysHeavy_0 12 rfl)
theorem dX5_laysHeavy_18 : decode cX5_laysHeavy 18 = .ok (.iload 8, 2) := fo_21 (fw_get da_cX5_laysHeavy_0 13 rfl)
theorem dX5_laysHeavy_20 : decode cX5_laysHeavy 20 = .ok (.iload_n 2, 1) := fo_28 (fw_get da_cX5_laysHeavy_0 14 rfl)
theorem dX5_laysHeavy_21 : decode cX5_laysHeavy 21 = .ok (.if_icmp .ge 82, 3) := fo_162 (fw_get da_cX5_laysHeavy_0 15 rfl) (by decide +kernel)
theorem dX5_laysHeavy_24 : decode cX5_laysHeavy 24 = .ok (.aload_n 0, 1) := fo_42 (fw_get da_cX5_laysHeavy_0 16 rfl)
theorem dX5_laysHeavy_25 : decode cX5_laysHeavy 25 = .ok (.aload_n 0, 1) := fo_42 (fw_get da_cX5_laysHeavy_0 17 rfl)
theorem dX5_laysHeavy_26 : decode cX5_laysHeavy 26 = .ok (.getfield 7, 3) := fo_180 (fw_get da_cX5_laysHeavy_0 18 rfl)
theorem dX5_laysHeavy_29 : decode cX5_laysHeavy 29 = .ok (.iload 8, 2) := fo_21 (fw_get da_cX5_laysHeavy_0 19 rfl)
def dt_cX5_laysHeavy_1 : List (Nat × Nat × Nat × Nat) := [(31, 46, 0, 0), (32, 27, 0, 0), (33, 28, 0, 0), (34, 182, 2, 149), (37, 42, 0, 0), (38, 42, 0, 0), (39, 180, 2, 7), (42, 21, 1, 8), (44, 46, 0, 0), (45, 29, 0, 0), (46, 21, 1, 4), (48, 182, 2, 149), (51, 96, 0, 0), (52, 54, 1, 9), (54, 42, 0, 0), (55, 42, 0, 0), (56, 180, 2, 7), (59, 21, 1, 8), (61, 46, 0, 0), (62, 27, 0, 0)]
theorem da_cX5_laysHeavy_1 : fw dt_cX5_laysHeavy_1 0 cX5_laysHeavy.data.toList = true := by decide +kernel
theorem dX5_laysHeavy_31 : decode cX5_laysHeavy 31 = .ok (.iaload, 1) := fo_46 (fw_get da_cX5_laysHeavy_1 0 rfl)
theorem dX5_laysHeavy_32 : decode cX5_laysHeavy 32 = .ok (.iload_n 1, 1) := fo_27 (fw_get da_cX5_laysHeavy_1 1 rfl)
theorem dX5_laysHeavy_33 : decode cX5_laysHeavy 33 = .ok (.iload_n 2, 1) := fo_28 (fw_get da_cX5_laysHeavy_1 2 rfl)
theorem dX5_laysHeavy_34 : decode cX5_laysHeavy 34 = .ok (.invokevirtual 149, 3) := fo_182 (fw_get da_cX5_laysHeavy_1 3 rfl)
theorem dX5_laysHeavy_37 : decode cX5_laysHeavy 37 = .ok (.aload_n 0, 1) := fo_42 (fw_get da_cX5_laysHeavy_1 4 rfl)
theorem dX5_laysHeavy_38 : decode cX5_laysHeavy 38 = .ok (.aload_n 0, 1) := fo_42 (fw_get da_cX5_laysHeavy_1 5 rfl)
theorem dX5_laysHeavy_39 : decode cX5_laysHeavy 39 = .ok (.getfield 7, 3) := fo_180 (fw_get da_cX5_laysHeavy_1 6 rfl)
theorem dX5_laysHeavy_42 : decode cX5_laysHeavy 42 = .ok (.iload 8, 2) := fo_21 (fw_get da_cX5_laysHeavy_1 7 rfl)
theorem dX5_laysHeavy_44 : decode cX5_laysHeavy 44 = .ok (.iaload, 1) := fo_46 (fw_get da_cX5_laysHeavy_1 8 rfl)
theorem dX5_laysHeavy_45 : decode cX5_laysHeavy 45 = .ok (.iload_n 3, 1) := fo_29 (fw_get da_cX5_laysHeavy_1 9 rfl)
theorem dX5_laysHeavy_46 : decode cX5_laysHeavy 46 = .ok (.iload 4, 2) := fo_21 (fw_get da_cX5_laysHeavy_1 10 rfl)
theorem dX5_laysHeavy_48 : decode cX5_laysHeavy 48 = .ok (.invokevirtual 149, 3) := fo_182 (fw_get da_cX5_laysHeavy_1 11 rfl)
theorem dX5_laysHeavy_51 : decode cX5_laysHeavy 51 = .ok (.iadd, 1) := fo_96 (fw_get da_cX5_laysHeavy_1 12 rfl)
theorem dX5_laysHeavy_52 : decode cX5_laysHeavy 52 = .ok (.istore 9, 2) := fo_54 (fw_get da_cX5_laysHeavy_1 13 rfl)
theorem dX5_laysHeavy_54 : decode cX5_laysHeavy 54 = .ok (.aload_n 0, 1) := fo_42 (fw_get da_cX5_laysHeavy_1 14 rfl)
theorem dX5_laysHeavy_55 : decode cX5_laysHeavy 55 = .ok (.aload_n 0, 1) := fo_42 (fw_get da_cX5_laysHeavy_1 15 rfl)
theorem dX5_laysHeavy_56 : decode cX5_laysHeavy 56 = .ok (.getfield 7, 3) := fo_180 (fw_get da_cX5_laysHeavy_1 16 rfl)
theorem dX5_laysHeavy_59 : decode cX5_laysHeavy 59 = .ok (.iload 8, 2) := fo_21 (fw_get da_cX5_laysHeavy_1 17 rfl)
theorem dX5_laysHeavy_61 : decode cX5_laysHeavy 61 = .ok (.iaload, 1) := fo_46 (fw_get da_cX5_laysHeavy_1 18 rfl)
theorem dX5_laysHeavy_62 : decode cX5_laysHeavy 62 = .ok (.iload_n 1, 1) := fo_27 (fw_get da_cX5_laysHeavy_1 19 rfl)
def dt_cX5_laysHeavy_2 : List (Nat × Nat × Nat × Nat) := [(63, 21, 1, 8), (65, 182, 2, 149), (68, 154, 2, 29), (71, 21, 1, 9), (73, 21, 1, 6), (75, 104, 0, 0), (76, 21, 1, 5), (78, 21, 1, 7), (80, 104, 0, 0), (81, 164, 2, 16), (84, 42, 0, 0), (85, 42, 0, 0), (86, 180, 2, 7), (89, 21, 1, 8), (91, 46, 0, 0), (92, 21, 1, 9), (94, 182, 2, 181), (97, 132, 2, 2049), (100, 167, 2, 65454), (103, 29, 0, 0)]
theorem da_cX5_laysHeavy_2 : fw dt_cX5_laysHeavy_2 0 cX5_laysHeavy.data.toList = true := by decide +kernel
theorem dX5_laysHeavy_63 : decode cX5_laysHeavy 63 = .ok (.iload 8, 2) := fo_21 (fw_get da_cX5_laysHeavy_2 0 rfl)
theorem dX5_laysHeavy_65 : decode cX5_laysHeavy 65 = .ok (.invokevirtual 149, 3) := fo_182 (fw_get da_cX5_laysHeavy_2 1 rfl)
theorem dX5_laysHeavy_68 : decode cX5_laysHeavy 68 = .ok (.ifCond .ne 29, 3) := fo_154 (fw_get da_cX5_laysHeavy_2 2 rfl) (by decide +kernel)
theorem dX5_laysHeavy_71 : decode cX5_laysHeavy 71 = .ok (.iload 9, 2) := fo_21 (fw_get da_cX5_laysHeavy_2 3 rfl)
theorem dX5_laysHeavy_73 : decode cX5_laysHeavy 73 = .ok (.iload 6, 2) := fo_21 (fw_get da_cX5_laysHeavy_2 4 rfl)
theorem dX5_laysHeavy_75 : decode cX5_laysHeavy 75 = .ok (.imul, 1) := fo_104 (fw_get da_cX5_laysHeavy_2 5 rfl)
theorem dX5_laysHeavy_76 : decode cX5_laysHeavy 76 = .ok (.iload 5, 2) := fo_21 (fw_get da_cX5_laysHeavy_2 6 rfl)
theorem dX5_laysHeavy_78 : decode cX5_laysHeavy 78 = .ok (.iload 7, 2) := fo_21 (fw_get da_cX5_laysHeavy_2 7 rfl)
theorem dX5_laysHeavy_80 : decode cX5_laysHeavy 80 = .ok (.imul, 1) := fo_104 (fw_get da_cX5_laysHeavy_2 8 rfl)
theorem dX5_laysHeavy_81 : decode cX5_laysHeavy 81 = .ok (.if_icmp .le 16, 3) := fo_164 (fw_get da_cX5_laysHeavy_2 9 rfl) (by decide +kernel)
theorem dX5_laysHeavy_84 : decode cX5_laysHeavy 84 = .ok (.aload_n 0, 1) := fo_42 (fw_get da_cX5_laysHeavy_2 10 rfl)
theorem dX5_laysHeavy_85 : decode cX5_laysHeavy 85 = .ok (.aload_n 0, 1) := fo_42 (fw_get da_cX5_laysHeavy_2 11 rfl)
theorem dX5_laysHeavy_86 : decode cX5_laysHeavy 86 = .ok (.getfield 7, 3) := fo_180 (fw_get da_cX5_laysHeavy_2 12 rfl)
theorem dX5_laysHeavy_89 : decode cX5_laysHeavy 89 = .ok (.iload 8, 2) := fo_21 (fw_get da_cX5_laysHeavy_2 13 rfl)
theorem dX5_laysHeavy_91 : decode cX5_laysHeavy 91 = .ok (.iaload, 1) := fo_46 (fw_get da_cX5_laysHeavy_2 14 rfl)
theorem dX5_laysHeavy_92 : decode cX5_laysHeavy 92 = .ok (.iload 9, 2) := fo_21 (fw_get da_cX5_laysHeavy_2 15 rfl)
theorem dX5_laysHeavy_94 : decode cX5_laysHeavy 94 = .ok (.invokevirtual 181, 3) := fo_182 (fw_get da_cX5_laysHeavy_2 16 rfl)
theorem dX5_laysHeavy_97 : decode cX5_laysHeavy 97 = .ok (.iinc 8 1, 3) := fo_132 (fw_get da_cX5_laysHeavy_2 17 rfl) rfl (by decide +kernel)
theorem dX5_laysHeavy_100 : decode cX5_laysHeavy 100 = .ok (.goto (-82), 3) := fo_167 (fw_get da_cX5_laysHeavy_2 18 rfl) (by decide +kernel)
theorem dX5_laysHeavy_103 : decode cX5_laysHeavy 103 = .ok (.iload_n 3, 1) := fo_29 (fw_get da_cX5_laysHeavy_2 19 rfl)
def dt_cX5_laysHeavy_3 : List (Nat × Nat × Nat × Nat) := [(104, 54, 1, 8), (106, 21, 1, 8), (108, 21, 1, 4), (110, 162, 2, 98), (113, 42, 0, 0), (114, 42, 0, 0), (115, 180, 2, 7), (118, 21, 1, 8), (120, 46, 0, 0), (121, 27, 0, 0), (122, 28, 0, 0), (123, 182, 2, 149), (126, 42, 0, 0), (127, 42, 0, 0), (128, 180, 2, 7), (131, 21, 1, 8), (133, 46, 0, 0), (134, 29, 0, 0), (135, 21, 1, 4), (137, 182, 2, 149)]
theorem da_cX5_laysHeavy_3 : fw dt_cX5_laysHeavy_3 0 cX5_laysHeavy.data.toList = true := by decide +kernel
theorem dX5_laysHeavy_104 : decode cX5_laysHeavy 104 = .ok (.istore 8, 2) := fo_54 (fw_get da_cX5_laysHeavy_3 0 rfl)
theorem dX5_laysHeavy_106 : decode cX5_laysHeavy 106 = .ok (.iload 8, 2) := fo_21 (fw_get da_cX5_laysHeavy_3 1 rfl)
theorem dX5_laysHeavy_108 : decode cX5_laysHeavy 108 = .ok (.iload 4, 2) := fo_21 (fw_get da_cX5_laysHeavy_3 2 rfl)
theorem dX5_laysHeavy_110 : decode cX5_laysHeavy 110 = .ok (.if_icmp .ge 98, 3) := fo_162 (fw_get da_cX5_laysHeavy_3 3 rfl) (by decide +kernel)
theorem dX5_laysHeavy_113 : decode cX5_laysHeavy 113 = .ok (.aload_n 0, 1) := fo_42 (fw_get da_cX5_laysHeavy_3 4 rfl)
theorem dX5_laysHeavy_114 : decode cX5_laysHeavy 114 = .ok (.aload_n 0, 1) := fo_42 (fw_get da_cX5_laysHeavy_3 5 rfl)
theorem dX5_laysHeavy_115 : decode cX5_laysHeavy 115 = .ok (.getfield 7, 3) := fo_180 (fw_get da_cX5_laysHeavy_3 6 rfl)
theorem dX5_laysHeavy_118 : decode cX5_laysHeavy 118 = .ok (.iload 8, 2) := fo_21 (fw_get da_cX5_laysHeavy_3 7 rfl)
theorem dX5_laysHeavy_120 : decode cX5_laysHeavy 120 = .ok (.iaload, 1) := fo_46 (fw_get da_cX5_laysHeavy_3 8 rfl)
theorem dX5_laysHeavy_121 : decode cX5_laysHeavy 121 = .ok (.iload_n 1, 1) := fo_27 (fw_get da_cX5_laysHeavy_3 9 rfl)
theorem dX5_laysHeavy_122 : decode cX5_laysHeavy 122 = .ok (.iload_n 2, 1) := fo_28 (fw_get da_cX5_laysHeavy_3 10 rfl)
theorem dX5_laysHeavy_123 : decode cX5_laysHeavy 123 = .ok (.invokevirtual 149, 3) := fo_182 (fw_get da_cX5_laysHeavy_3 11 rfl)
theorem dX5_laysHeavy_126 : decode cX5_laysHeavy 126 = .ok (.aload_n 0, 1) := fo_42 (fw_get da_cX5_laysHeavy_3 12 rfl)
theorem dX5_laysHeavy_127 : decode cX5_laysHeavy 127 = .ok (.aload_n 0, 1) := fo_42 (fw_get da_cX5_laysHeavy_3 13 rfl)
theorem dX5_laysHeavy_128 : decode cX5_laysHeavy 128 = .ok (.getfield 7, 3) := fo_180 (fw_get da_cX5_laysHeavy_3 14 rfl)
theorem dX5_laysHeavy_131 : decode cX5_laysHeavy 131 = .ok (.iload 8, 2) := fo_21 (fw_get da_cX5_laysHeavy_3 15 rfl)
theorem dX5_laysHeavy_133 : decode cX5_laysHeavy 133 = .ok (.iaload, 1) := fo_46 (fw_get da_cX5_laysHeavy_3 16 rfl)
theorem dX5_laysHeavy_134 : decode cX5_laysHeavy 134 = .ok (.iload_n 3, 1) := fo_29 (fw_get da_cX5_laysHeavy_3 17 rfl)
theorem dX5_laysHeavy_135 : decode cX5_laysHeavy 135 = .ok (.iload 4, 2) := fo_21 (fw_get da_cX5_laysHeavy_3 18 rfl)
theorem dX5_laysHeavy_137 : decode cX5_laysHeavy 137 = .ok (.invokevirtual 149, 3) := fo_182 (fw_get da_cX5_laysHeavy_3 19 rfl)
def dt_cX5_laysHeavy_4 : List (Nat × Nat × Nat × Nat) := [(140, 96, 0, 0), (141, 54, 1, 9), (143, 42, 0, 0), (144, 42, 0, 0), (145, 180, 2, 7), (148, 21, 1, 8), (150, 46, 0, 0), (151, 27, 0, 0), (152, 28, 0, 0), (153, 182, 2, 149), (156, 154, 2, 46), (159, 42, 0, 0), (160, 42, 0, 0), (161, 180, 2, 7), (164, 21, 1, 8), (166, 46, 0, 0), (167, 29, 0, 0), (168, 21, 1, 8), (170, 182, 2, 149), (173, 154, 2, 29)]
theorem da_cX5_laysHeavy_4 : fw dt_cX5_laysHeavy_4 0 cX5_laysHeavy.data.toList = true := by decide +kernel
theorem dX5_laysHeavy_140 : decode cX5_laysHeavy 140 = .ok (.iadd, 1) := fo_96 (fw_get da_cX5_laysHeavy_4 0 rfl)
theorem dX5_laysHeavy_141 : decode cX5_laysHeavy 141 = .ok (.istore 9, 2) := fo_54 (fw_get da_cX5_laysHeavy_4 1 rfl)
theorem dX5_laysHeavy_143 : decode cX5_laysHeavy 143 = .ok (.aload_n 0, 1) := fo_42 (fw_get da_cX5_laysHeavy_4 2 rfl)
theorem dX5_laysHeavy_144 : decode cX5_laysHeavy 144 = .ok (.aload_n 0, 1) := fo_42 (fw_get da_cX5_laysHeavy_4 3 rfl)
theorem dX5_laysHeavy_145 : decode cX5_laysHeavy 145 = .ok (.getfield 7, 3) := fo_180 (fw_get da_cX5_laysHeavy_4 4 rfl)
theorem dX5_laysHeavy_148 : decode cX5_laysHeavy 148 = .ok (.iload 8, 2) := fo_21 (fw_get da_cX5_laysHeavy_4 5 rfl)
theorem dX5_laysHeavy_150 : decode cX5_laysHeavy 150 = .ok (.iaload, 1) := fo_46 (fw_get da_cX5_laysHeavy_4 6 rfl)
theorem dX5_laysHeavy_151 : decode cX5_laysHeavy 151 = .ok (.iload_n 1, 1) := fo_27 (fw_get da_cX5_laysHeavy_4 7 rfl)
theorem dX5_laysHeavy_152 : decode cX5_laysHeavy 152 = .ok (.iload_n 2, 1) := fo_28 (fw_get da_cX5_laysHeavy_4 8 rfl)
theorem dX5_laysHeavy_153 : decode cX5_laysHeavy 153 = .ok (.invokevirtual 149, 3) := fo_182 (fw_get da_cX5_laysHeavy_4 9 rfl)
theorem dX5_laysHeavy_156 : decode cX5_laysHeavy 156 = .ok (.ifCond .ne 46, 3) := fo_154 (fw_get da_cX5_laysHeavy_4 10 rfl) (by decide +kernel)
theorem dX5_laysHeavy_159 : decode cX5_laysHeavy 159 = .ok (.aload_n 0, 1) := fo_42 (fw_get da_cX5_laysHeavy_4 11 rfl)
theorem dX5_laysHeavy_160 : decode cX5_laysHeavy 160 = .ok (.aload_n 0, 1) := fo_42 (fw_get da_cX5_laysHeavy_4 12 rfl)
theorem dX5_laysHeavy_161 : decode cX5_laysHeavy 161 = .ok (.getfield 7, 3) := fo_180 (fw_get da_cX5_laysHeavy_4 13 rfl)
theorem dX5_laysHeavy_164 : decode cX5_laysHeavy 164 = .ok (.iload 8, 2) := fo_21 (fw_get da_cX5_laysHeavy_4 14 rfl)
theorem dX5_laysHeavy_166 : decode cX5_laysHeavy 166 = .ok (.iaload, 1) := fo_46 (fw_get da_cX5_laysHeavy_4 15 rfl)
theorem dX5_laysHeavy_167 : decode cX5_laysHeavy 167 = .ok (.iload_n 3, 1) := fo_29 (fw_get da_cX5_laysHeavy_4 16 rfl)
theorem dX5_laysHeavy_168 : decode cX5_laysHeavy 168 = .ok (.iload 8, 2) := fo_21 (fw_get da_cX5_laysHeavy_4 17 rfl)
theorem dX5_laysHeavy_170 : decode cX5_laysHeavy 170 = .ok (.invokevirtual 149, 3) := fo_182 (fw_get da_cX5_laysHeavy_4 18 rfl)
theorem dX5_laysHeavy_173 : decode cX5_laysHeavy 173 = .ok (.ifCond .ne 29, 3) := fo_154 (fw_get da_cX5_laysHeavy_4 19 rfl) (by decide +kernel)
def dt_cX5_laysHeavy_5 : List (Nat × Nat × Nat × Nat) := [(176, 21, 1, 9), (178, 21, 1, 6), (180, 104, 0, 0), (181, 21, 1, 5), (183, 21, 1, 7), (185, 104, 0, 0), (186, 164, 2, 16), (189, 42, 0, 0), (190, 42, 0, 0), (191, 180, 2, 7), (194, 21, 1, 8), (196, 46, 0, 0), (197, 21, 1, 9), (199, 182, 2, 181), (202, 132, 2, 2049), (205, 167, 2, 65437), (208, 177, 0, 0)]
theorem da_cX5_laysHeavy_5 : fw dt_cX5_laysHeavy_5 0 cX5_laysHeavy.data.toList = true := by decide +kernel
theorem dX5_laysHeavy_176 : decode cX5_laysHeavy 176 = .ok (.iload 9, 2) := fo_21 (fw_get da_cX5_laysHeavy_5 0 rfl)
theorem dX5_laysHeavy_178 : decode cX5_laysHeavy 178 = .ok (.iload 6, 2) := fo_21 (fw_get da_cX5_laysHeavy_5 1 rfl)
theorem dX5_laysHeavy_180 : decode cX5_laysHeavy 180 = .ok (.imul, 1) := fo_104 (fw_get da_cX5_laysHeavy_5 2 rfl)
theorem dX5_laysHeavy_181 : decode cX5_laysHeavy 181 = .ok (.iload 5, 2) := fo_21 (fw_get da_cX5_laysHeavy_5 3 rfl)
theorem dX5_laysHeavy_183 : decode cX5_laysHeavy 183 = .ok (.iload 7, 2) := fo_21 (fw_get da_cX5_laysHeavy_5 4 rfl)
theorem dX5_laysHeavy_185 : decode cX5_laysHeavy 185 = .ok (.imul, 1) := fo_104 (fw_get da_cX5_laysHeavy_5 5 rfl)
theorem dX5_laysHeavy_186 : decode cX5_laysHeavy 186 = .ok (.if_icmp .le 16, 3) := fo_164 (fw_get da_cX5_laysHeavy_5 6 rfl) (by decide +kernel)
theorem dX5_laysHeavy_189 : decode cX5_laysHeavy 189 = .ok (.aload_n 0, 1) := fo_42 (fw_get da_cX5_laysHeavy_5 7 rfl)
theorem dX5_laysHeavy_190 : decode cX5_laysHeavy 190 = .ok (.aload_n 0, 1) := fo_42 (fw_get da_cX5_laysHeavy_5 8 rfl)
theorem dX5_laysHeavy_191 : decode cX5_laysHeavy 191 = .ok (.getfield 7, 3) := fo_180 (fw_get da_cX5_laysHeavy_5 9 rfl)
theorem dX5_laysHeavy_194 : decode cX5_laysHeavy 194 = .ok (.iload 8, 2) := fo_21 (fw_get da_cX5_laysHeavy_5 10 rfl)
theorem dX5_laysHeavy_196 : decode cX5_laysHeavy 196 = .ok (.iaload, 1) := fo_46 (fw_get da_cX5_laysHeavy_5 11 rfl)
theorem dX5_laysHeavy_197 : decode cX5_laysHeavy 197 = .ok (.iload 9, 2) := fo_21 (fw_get da_cX5_laysHeavy_5 12 rfl)
theorem dX5_laysHeavy_199 : decode cX5_laysHeavy 199 = .ok (.invokevirtual 181, 3) := fo_182 (fw_get da_cX5_laysHeavy_5 13 rfl)
theorem dX5_laysHeavy_202 : decode cX5_laysHeavy 202 = .ok (.iinc 8 1, 3) := fo_132 (fw_get da_cX5_laysHeavy_5 14 rfl) rfl (by decide +kernel)
theorem dX5_laysHeavy_205 : decode cX5_laysHeavy 205 = .ok (.goto (-99), 3) := fo_167 (fw_get da_cX5_laysHeavy_5 15 rfl) (by decide +kernel)
theorem dX5_laysHeavy_208 : decode cX5_laysHeavy 208 = .ok (.return_, 1) := fo_177 (fw_get da_cX5_laysHeavy_5 16 rfl)
theorem mi_wsX5_heavy_wsX5_heavy_r1 : ∀ w ∈ wsX5_heavy_r1, w ∈ wsX5_heavy := fun _ h => (List.mem_cons_of_mem _ (List.mem_append_left _ (List.mem_append_left _ h)))
theorem mi_wsX5_heavy_wsX50 : ∀ w ∈ wsX50, w ∈ wsX5_heavy := fun _ h => (List.mem_cons_of_mem _ (List.mem_append_right _ h))
set_option maxRecDepth 20000 in
theorem ggX5_heavy_X5_isRange : GoodIn wsX5_heavy wsX5_isRange := goodIn_m _ [(wsX5_heavy_r1, [false, false, false, false, false, false, true, true]), (wsX50, [true, true, true, true, true, true, true, true, true, true, true, true, true, true, true, true, true, true, true, true, true, true, true, true, true, true, true, true, true, true])] (gm_c mi_wsX5_heavy_wsX5_heavy_r1 (gm_c mi_wsX5_heavy_wsX50 gm_n)) rfl (by decide +kernel)
set_option maxRecDepth 20000 in
theorem gX5_heavy_X5_isRange : GoodIn wsX5_heavy (wsV RX5 142 RX5 yX5_isRange wsX5_isRange) := goodIn_app (goodIn_m _ [(wsX5_heavy_r1, [false, false, true, true, true, true])] (gm_c mi_wsX5_heavy_wsX5_heavy_r1 gm_n) rfl (by decide +kernel)) ggX5_heavy_X5_isRange
set_option maxRecDepth 20000 in
theorem ggX5_heavy_X5_isShare : GoodIn wsX5_heavy wsX5_isShare := goodIn_m _ [(wsX5_heavy_r1, [false, false, false, false, false, false, false, false, false, false, true, true, true]), (wsX5_heavy_r1, [false, false, false, false, false, true, false, false, false, false, false, false, false, true])] (gm_c mi_wsX5_heavy_wsX5_heavy_r1 (gm_c mi_wsX5_heavy_wsX5_heavy_r1 gm_n)) rfl (by decide +kernel)
set_option maxRecDepth 20000 in
theorem gX5_heavy_X5_isShare : GoodIn wsX5_heavy (va_wsS RX5 184 yX5_isShare wsX5_isShare) := goodIn_app (goodIn_m _ [(wsX5_heavy_r1, [false, false, false, false, false, false, false, false, true, true]), (wsX5_heavy_r1, [false, false, false, false, false, true])] (gm_c mi_wsX5_heavy_wsX5_heavy_r1 (gm_c mi_wsX5_heavy_wsX5_heavy_r1 gm_n)) rfl (by decide +kernel)) ggX5_heavy_X5_isShare
set_option maxRecDepth 20000 in
theorem ggX5_heavy_X5_isEnough : GoodIn wsX5_heavy wsX5_isEnough := goodIn_m _ [(wsX5_heavy_r1, [false, false, false, false, false, false, false, false, false, false, false, false, false, false, false, false, false, true, true]), (wsX50, [true, true, true, true, true, true, true, true, true, true, true, true, true, true, true, true, true, true, true, true, true, true, true, true, true, true, true, true, true, true])] (gm_c mi_wsX5_heavy_wsX5_heavy_r1 (gm_c mi_wsX5_heavy_wsX50 gm_n)) rfl (by decide +kernel)
set_option maxRecDepth 20000 in
theorem gX5_heavy_X5_isEnough : GoodIn wsX5_heavy (wsV RX5 187 RX5 yX5_isEnough wsX5_isEnough) := goodIn_app (goodIn_m _ [(wsX5_heavy_r1, [false, false, false, false, false, false, false, false, false, false, false, false, false, false, true, true, true]), (wsX5_heavy_r1, [false, false, false, false, false, true])] (gm_c mi_wsX5_heavy_wsX5_heavy_r1 (gm_c mi_wsX5_heavy_wsX5_heavy_r1 gm_n)) rfl (by decide +kernel)) ggX5_heavy_X5_isEnough
theorem mi_wsX5_heavy_wsX5_heavy_r2 : ∀ w ∈ wsX5_heavy_r2, w ∈ wsX5_heavy := fun _ h => (List.mem_cons_of_mem _ (List.mem_append_left _ (List.mem_append_right _ h)))
set_option maxRecDepth 20000 in
theorem ggX5_heavy_X5_laysHeavy : GoodIn wsX5_heavy wsX5_laysHeavy := goodIn_m _ [(wsX5_heavy_r1, [false, false, false, false, false, false, false, false, false, false, false, false, false, false, false, false, false, false, false, false, false, false, true]), (wsX5_heavy_r1, [false, true, false, false, false, false, false, false, false, false, false, false, false, false, false, false, false, false, false, false, false, false, false, true]), (wsX5_heavy_r2, [true, true, true]), (wsX5_heavy_r1, [false, false, false, false, false, true]), (wsX5_heavy_r2, [false, false, false, true, true, true, true, true, true, true]), (wsX50, [true, true, true, true, true, true, true, true, true, true, true, true, true, true, true, true, true, true, true, true, true, true, true, true, true, true, true, true, true, true])] (gm_c mi_wsX5_heavy_wsX5_heavy_r1 (gm_c mi_wsX5_heavy_wsX5_heavy_r1 (gm_c mi_wsX5_heavy_wsX5_heavy_r2 (gm_c mi_wsX5_heavy_wsX5_heavy_r1 (gm_c mi_wsX5_heavy_wsX5_heavy_r2 (gm_c mi_wsX5_heavy_wsX50 gm_n)))))) rfl (by decide +kernel)
set_option maxRecDepth 20000 in
theorem gX5_heavy_X5_laysHeavy : GoodIn wsX5_heavy (wsV RX5 190 RX5 yX5_laysHeavy wsX5_laysHeavy) := goodIn_app (goodIn_m _ [(wsX5_heavy_r1, [false, false, false, false, false, false, false, false, false, false, false, false, false, false, false, false, false, false, false, true, true, true]), (wsX5_heavy_r1, [false, false, false, false, false, true])] (gm_c mi_wsX5_heavy_wsX5_heavy_r1 (gm_c mi_wsX5_heavy_wsX5_heavy_r1 gm_n)) rfl (by decide +kernel)) ggX5_heavy_X5_laysHeavy
def dt_cX5_heavy_0 : List (Nat × Nat × Nat × Nat) := [(0, 42, 0, 0), (1, 3, 0, 0), (2, 181, 2, 77), (5, 42, 0, 0), (6, 27, 0, 0), (7, 28, 0, 0), (8, 182, 2, 142), (11, 153, 2, 12), (14, 29, 0, 0), (15, 21, 1, 4), (17, 184, 2, 184), (20, 154, 2, 5), (23, 2, 0, 0), (24, 172, 0, 0), (25, 42, 0, 0), (26, 29, 0, 0), (27, 21, 1, 4), (29, 182, 2, 187), (32, 154, 2, 6), (35, 16, 1, 254)]
theorem da_cX5_heavy_0 : fw dt_cX5_heavy_0 0 cX5_heavy.data.toList = true := by decide +kernel
theorem dX5_heavy_0 : decode cX5_heavy 0 = .ok (.aload_n 0, 1) := fo_42 (fw_get da_cX5_heavy_0 0 rfl)
theorem dX5_heavy_1 : decode cX5_heavy 1 = .ok (.iconst 0, 1) := fo_3 (fw_get da_cX5_heavy_0 1 rfl)
theorem dX5_heavy_2 : decode cX5_heavy 2 = .ok (.putfield 77, 3) := fo_181 (fw_get da_cX5_heavy_0 2 rfl)
theorem dX5_heavy_5 : decode cX5_heavy 5 = .ok (.aload_n 0, 1) := fo_42 (fw_get da_cX5_heavy_0 3 rfl)
theorem dX5_heavy_6 : decode cX5_heavy 6 = .ok (.iload_n 1, 1) := fo_27 (fw_get da_cX5_heavy_0 4 rfl)
theorem dX5_heavy_7 : decode cX5_heavy 7 = .ok (.iload_n 2, 1) := fo_28 (fw_get da_cX5_heavy_0 5 rfl)
theorem dX5_heavy_8 : decode cX5_heavy 8 = .ok (.invokevirtual 142, 3) := fo_182 (fw_get da_cX5_heavy_0 6 rfl)
theorem dX5_heavy_11 : decode cX5_heavy 11 = .ok (.ifCond .eq 12, 3) := fo_153 (fw_get da_cX5_heavy_0 7 rfl) (by decide +kernel)
theorem dX5_heavy_14 : decode cX5_heavy 14 = .ok (.iload_n 3, 1) := fo_29 (fw_get da_cX5_heavy_0 8 rfl)
theorem dX5_heavy_15 : decode cX5_heavy 15 = .ok (.iload 4, 2) := fo_21 (fw_get da_cX5_heavy_0 9 rfl)
theorem dX5_heavy_17 : decode cX5_heavy 17 = .ok (.invokestatic 184, 3) := fo_184 (fw_get da_cX5_heavy_0 10 rfl)
theorem dX5_heavy_20 : decode cX5_heavy 20 = .ok (.ifCond .ne 5, 3) := fo_154 (fw_get da_cX5_heavy_0 11 rfl) (by decide +kernel)
theorem dX5_heavy_23 : decode cX5_heavy 23 = .ok (.iconst (-1), 1) := fo_2 (fw_get da_cX5_heavy_0 12 rfl)
theorem dX5_heavy_24 : decode cX5_heavy 24 = .ok (.ireturn, 1) := fo_172 (fw_get da_cX5_heavy_0 13 rfl)
theorem dX5_heavy_25 : decode cX5_heavy 25 = .ok (.aload_n 0, 1) := fo_42 (fw_get da_cX5_heavy_0 14 rfl)
theorem dX5_heavy_26 : decode cX5_heavy 26 = .ok (.iload_n 3, 1) := fo_29 (fw_get da_cX5_heavy_0 15 rfl)
theorem dX5_heavy_27 : decode cX5_heavy 27 = .ok (.iload 4, 2) := fo_21 (fw_get da_cX5_heavy_0 16 rfl)
theorem dX5_heavy_29 : decode cX5_heavy 29 = .ok (.invokevirtual 187, 3) := fo_182 (fw_get da_cX5_heavy_0 17 rfl)
theorem dX5_heavy_32 : decode cX5_heavy 32 = .ok (.ifCond .ne 6, 3) := fo_154 (fw_get da_cX5_heavy_0 18 rfl) (by decide +kernel)
theorem dX5_heavy_35 : decode cX5_heavy 35 = .ok (.bipush (-2), 2) := fo_16 (fw_get da_cX5_heavy_0 19 rfl) (by decide +kernel)
def dt_cX5_heavy_1 : List (Nat × Nat × Nat × Nat) := [(37, 172, 0, 0), (38, 42, 0, 0), (39, 27, 0, 0), (40, 28, 0, 0), (41, 3, 0, 0), (42, 3, 0, 0), (43, 29, 0, 0), (44, 21, 1, 4), (46, 182, 2, 190), (49, 42, 0, 0), (50, 180, 2, 178), (53, 172, 0, 0)]
theorem da_cX5_heavy_1 : fw dt_cX5_heavy_1 0 cX5_heavy.data.toList = true := by decide +kernel
theorem dX5_heavy_37 : decode cX5_heavy 37 = .ok (.ireturn, 1) := fo_172 (fw_get da_cX5_heavy_1 0 rfl)
theorem dX5_heavy_38 : decode cX5_heavy 38 = .ok (.aload_n 0, 1) := fo_42 (fw_get da_cX5_heavy_1 1 rfl)
theorem dX5_heavy_39 : decode cX5_heavy 39 = .ok (.iload_n 1, 1) := fo_27 (fw_get da_cX5_heavy_1 2 rfl)
theorem dX5_heavy_40 : decode cX5_heavy 40 = .ok (.iload_n 2, 1) := fo_28 (fw_get da_cX5_heavy_1 3 rfl)
theorem dX5_heavy_41 : decode cX5_heavy 41 = .ok (.iconst 0, 1) := fo_3 (fw_get da_cX5_heavy_1 4 rfl)
theorem dX5_heavy_42 : decode cX5_heavy 42 = .ok (.iconst 0, 1) := fo_3 (fw_get da_cX5_heavy_1 5 rfl)
theorem dX5_heavy_43 : decode cX5_heavy 43 = .ok (.iload_n 3, 1) := fo_29 (fw_get da_cX5_heavy_1 6 rfl)
theorem dX5_heavy_44 : decode cX5_heavy 44 = .ok (.iload 4, 2) := fo_21 (fw_get da_cX5_heavy_1 7 rfl)
theorem dX5_heavy_46 : decode cX5_heavy 46 = .ok (.invokevirtual 190, 3) := fo_182 (fw_get da_cX5_heavy_1 8 rfl)
theorem dX5_heavy_49 : decode cX5_heavy 49 = .ok (.aload_n 0, 1) := fo_42 (fw_get da_cX5_heavy_1 9 rfl)
theorem dX5_heavy_50 : decode cX5_heavy 50 = .ok (.getfield 178, 3) := fo_180 (fw_get da_cX5_heavy_1 10 rfl)
theorem dX5_heavy_53 : decode cX5_heavy 53 = .ok (.ireturn, 1) := fo_172 (fw_get da_cX5_heavy_1 11 rfl)
theorem mi_wsX5_heavyAt_wsX5_heavyAt_r1 : ∀ w ∈ wsX5_heavyAt_r1, w ∈ wsX5_heavyAt := fun _ h => (List.mem_cons_of_mem _ (List.mem_append_left _ (List.mem_append_left _ h)))
theorem mi_wsX5_heavyAt_wsX50 : ∀ w ∈ wsX50, w ∈ wsX5_heavyAt := fun _ h => (List.mem_cons_of_mem _ (List.mem_append_right _ h))
set_option maxRecDepth 20000 in
theorem ggX5_heavyAt_X5_isRange : GoodIn wsX5_heavyAt wsX5_isRange := goodIn_m _ [(wsX5_heavyAt_r1, [false, false, false, false, false, false, false, false, true, true]), (wsX50, [true, true, true, true, true, true, true, true, true, true, true, true, true, true, true, true, true, true, true, true, true, true, true, true, true, true, true, true, true, true])] (gm_c mi_wsX5_heavyAt_wsX5_heavyAt_r1 (gm_c mi_wsX5_heavyAt_wsX50 gm_n)) rfl (by decide +kernel)
set_option maxRecDepth 20000 in
theorem gX5_heavyAt_X5_isRange : GoodIn wsX5_heavyAt (wsV RX5 142 RX5 yX5_isRange wsX5_isRange) := goodIn_app (goodIn_m _ [(wsX5_heavyAt_r1, [false, false, false, false, true, true, true, true])] (gm_c mi_wsX5_heavyAt_wsX5_heavyAt_r1 gm_n) rfl (by decide +kernel)) ggX5_heavyAt_X5_isRange
set_option maxRecDepth 20000 in
theorem ggX5_heavyAt_X5_isShare : GoodIn wsX5_heavyAt wsX5_isShare := goodIn_m _ [(wsX5_heavyAt_r1, [false, false, false, false, false, false, false, false, false, false, false, false, true, true, true]), (wsX5_heavyAt_r1, [false, false, false, false, false, false, false, true, false, false, false, false, false, false, false, true])] (gm_c mi_wsX5_heavyAt_wsX5_heavyAt_r1 (gm_c mi_wsX5_heavyAt_wsX5_heavyAt_r1 gm_n)) rfl (by decide +kernel)
set_option maxRecDepth 20000 in
theorem gX5_heavyAt_X5_isShare : GoodIn wsX5_heavyAt (va_wsS RX5 184 yX5_isShare wsX5_isShare) := goodIn_app (goodIn_m _ [(wsX5_heavyAt_r1, [false, false, false, false, false, false, false, false, false, false, true, true]), (wsX5_heavyAt_r1, [false, false, false, false, false, false, false, true])] (gm_c mi_wsX5_heavyAt_wsX5_heavyAt_r1 (gm_c mi_wsX5_heavyAt_wsX5_heavyAt_r1 gm_n)) rfl (by decide +kernel)) ggX5_heavyAt_X5_isShare
set_option maxRecDepth 20000 in
theorem ggX5_heavyAt_X5_isEnough : GoodIn wsX5_heavyAt wsX5_isEnough := goodIn_m _ [(wsX5_heavyAt_r1, [false, false, false, false, false, false, false, false, false, false, false, false, false, false, false, false, false, false, false, true, true]), (wsX50, [true, true, true, true, true, true, true, true, true, true, true, true, true, true, true, true, true, true, true, true, true, true, true, true, true, true, true, true, true, true])] (gm_c mi_wsX5_heavyAt_wsX5_heavyAt_r1 (gm_c mi_wsX5_heavyAt_wsX50 gm_n)) rfl (by decide +kernel)
set_option maxRecDepth 20000 in
theorem gX5_heavyAt_X5_isEnough : GoodIn wsX5_heavyAt (wsV RX5 187 RX5 yX5_isEnough wsX5_isEnough) := goodIn_app (goodIn_m _ [(wsX5_heavyAt_r1, [false, false, false, false, false, false, false, false, false, false, false, false, false, false, false, false, true, true, true]), (wsX5_heavyAt_r1, [false, false, false, false, false, false, false, true])] (gm_c mi_wsX5_heavyAt_wsX5_heavyAt_r1 (gm_c mi_wsX5_heavyAt_wsX5_heavyAt_r1 gm_n)) rfl (by decide +kernel)) ggX5_heavyAt_X5_isEnough
set_option maxRecDepth 20000 in
theorem ggX5_heavyAt_X5_within : GoodIn wsX5_heavyAt wsX5_within := goodIn_m _ [(wsX5_heavyAt_r1, [false, false, false, false, false, false, false, false, false, false, false, false, false, false, false, true])] (gm_c mi_wsX5_heavyAt_wsX5_heavyAt_r1 gm_n) rfl (by decide +kernel)
set_option maxRecDepth 20000 in
theorem gX5_heavyAt_X5_within : GoodIn wsX5_heavyAt (va_wsS RX5 80 yX5_within wsX5_within) := goodIn_app (goodIn_m _ [(wsX5_heavyAt_r1, [false, false, false, false, false, false, false, false, false, false, false, false, false, true, true]), (wsX5_heavyAt_r1, [false, false, false, false, false, false, false, true])] (gm_c mi_wsX5_heavyAt_wsX5_heavyAt_r1 (gm_c mi_wsX5_heavyAt_wsX5_heavyAt_r1 gm_n)) rfl (by decide +kernel)) ggX5_heavyAt_X5_within
theorem mi_wsX5_heavyAt_wsX5_heavyAt_r2 : ∀ w ∈ wsX5_heavyAt_r2, w ∈ wsX5_heavyAt := fun _ h => (List.mem_cons_of_mem _ (List.mem_append_left _ (List.mem_append_right _ h)))
set_option maxRecDepth 20000 in
theorem ggX5_heavyAt_X5_laysHeavy : GoodIn wsX5_heavyAt wsX5_laysHeavy := goodIn_m _ [(wsX5_heavyAt_r2, [true]), (wsX5_heavyAt_r1, [false, true]), (wsX5_heavyAt_r2, [false, true, true, true, true]), (wsX5_heavyAt_r1, [false, false, false, false, false, false, false, true]), (wsX5_heavyAt_r2, [false, false, false, false, false, true, true, true, true, true]), (wsX5_heavyAt_r1, [false, false, false, true]), (wsX5_heavyAt_r1, [false, false, true]), (wsX50, [true, true, true, true, true, true, true, true, true, true, true, true, true, true, true, true, true, true, true, true, true, true, true, true, true, true, true, true, true, true])] (gm_c mi_wsX5_heavyAt_wsX5_heavyAt_r2 (gm_c mi_wsX5_heavyAt_wsX5_heavyAt_r1 (gm_c mi_wsX5_heavyAt_wsX5_heavyAt_r2 (gm_c mi_wsX5_heavyAt_wsX5_heavyAt_r1 (gm_c mi_wsX5_heavyAt_wsX5_heavyAt_r2 (gm_c mi_wsX5_heavyAt_wsX5_heavyAt_r1 (gm_c mi_wsX5_heavyAt_wsX5_heavyAt_r1 (gm_c mi_wsX5_heavyAt_wsX50 gm_n)))))))) rfl (by decide +kernel)
set_option maxRecDepth 20000 in
theorem gX5_heavyAt_X5_laysHeavy : GoodIn wsX5_heavyAt (wsV RX5 190 RX5 yX5_laysHeavy wsX5_laysHeavy) := goodIn_app (goodIn_m _ [(wsX5_heavyAt_r1, [false, false, false, false, false, false, false, false, false, false, false, false, false, false, false, false, false, false, false, false, false, true, true, true]), (wsX5_heavyAt_r1, [false, false, false, false, false, false, false, true])] (gm_c mi_wsX5_heavyAt_wsX5_heavyAt_r1 (gm_c mi_wsX5_heavyAt_wsX5_heavyAt_r1 gm_n)) rfl (by decide +kernel)) ggX5_heavyAt_X5_laysHeavy
def dt_cX5_heavyAt_0 : List (Nat × Nat × Nat × Nat) := [(0, 42, 0, 0), (1, 4, 0, 0), (2, 181, 2, 77), (5, 42, 0, 0), (6, 27, 0, 0), (7, 28, 0, 0), (8, 182, 2, 142), (11, 153, 2, 32), (14, 29, 0, 0), (15, 21, 1, 4), (17, 184, 2, 184), (20, 153, 2, 23), (23, 42, 0, 0), (24, 29, 0, 0), (25, 21, 1, 4), (27, 182, 2, 187), (30, 153, 2, 13), (33, 21, 1, 6), (35, 3, 0, 0), (36, 4, 0, 0)]
theorem da_cX5_heavyAt_0 : fw dt_cX5_heavyAt_0 0 cX5_heavyAt.data.toList = true := by decide +kernel
theorem dX5_heavyAt_0 : decode cX5_heavyAt 0 = .ok (.aload_n 0, 1) := fo_42 (fw_get da_cX5_heavyAt_0 0 rfl)
theorem dX5_heavyAt_1 : decode cX5_heavyAt 1 = .ok (.iconst 1, 1) := fo_4 (fw_get da_cX5_heavyAt_0 1 rfl)
theorem dX5_heavyAt_2 : decode cX5_heavyAt 2 = .ok (.putfield 77, 3) := fo_181 (fw_get da_cX5_heavyAt_0 2 rfl)
theorem dX5_heavyAt_5 : decode cX5_heavyAt 5 = .ok (.aload_n 0, 1) := fo_42 (fw_get da_cX5_heavyAt_0 3 rfl)
theorem dX5_heavyAt_6 : decode cX5_heavyAt 6 = .ok (.iload_n 1, 1) := fo_27 (fw_get da_cX5_heavyAt_0 4 rfl)
theorem dX5_heavyAt_7 : decode cX5_heavyAt 7 = .ok (.iload_n 2, 1) := fo_28 (fw_get da_cX5_heavyAt_0 5 rfl)
theorem dX5_heavyAt_8 : decode cX5_heavyAt 8 = .ok (.invokevirtual 142, 3) := fo_182 (fw_get da_cX5_heavyAt_0 6 rfl)
theorem dX5_heavyAt_11 : decode cX5_heavyAt 11 = .ok (.ifCond .eq 32, 3) := fo_153 (fw_get da_cX5_heavyAt_0 7 rfl) (by decide +kernel)
theorem dX5_heavyAt_14 : decode cX5_heavyAt 14 = .ok (.iload_n 3, 1) := fo_29 (fw_get da_cX5_heavyAt_0 8 rfl)
theorem dX5_heavyAt_15 : decode cX5_heavyAt 15 = .ok (.iload 4, 2) := fo_21 (fw_get da_cX5_heavyAt_0 9 rfl)
theorem dX5_heavyAt_17 : decode cX5_heavyAt 17 = .ok (.invokestatic 184, 3) := fo_184 (fw_get da_cX5_heavyAt_0 10 rfl)
theorem dX5_heavyAt_20 : decode cX5_heavyAt 20 = .ok (.ifCond .eq 23, 3) := fo_153 (fw_get da_cX5_heavyAt_0 11 rfl) (by decide +kernel)
theorem dX5_heavyAt_23 : decode cX5_heavyAt 23 = .ok (.aload_n 0, 1) := fo_42 (fw_get da_cX5_heavyAt_0 12 rfl)
theorem dX5_heavyAt_24 : decode cX5_heavyAt 24 = .ok (.iload_n 3, 1) := fo_29 (fw_get da_cX5_heavyAt_0 13 rfl)
theorem dX5_heavyAt_25 : decode cX5_heavyAt 25 = .ok (.iload 4, 2) := fo_21 (fw_get da_cX5_heavyAt_0 14 rfl)
theorem dX5_heavyAt_27 : decode cX5_heavyAt 27 = .ok (.invokevirtual 187, 3) := fo_182 (fw_get da_cX5_heavyAt_0 15 rfl)
theorem dX5_heavyAt_30 : decode cX5_heavyAt 30 = .ok (.ifCond .eq 13, 3) := fo_153 (fw_get da_cX5_heavyAt_0 16 rfl) (by decide +kernel)
theorem dX5_heavyAt_33 : decode cX5_heavyAt 33 = .ok (.iload 6, 2) := fo_21 (fw_get da_cX5_heavyAt_0 17 rfl)
theorem dX5_heavyAt_35 : decode cX5_heavyAt 35 = .ok (.iconst 0, 1) := fo_3 (fw_get da_cX5_heavyAt_0 18 rfl)
theorem dX5_heavyAt_36 : decode cX5_heavyAt 36 = .ok (.iconst 1, 1) := fo_4 (fw_get da_cX5_heavyAt_0 19 rfl)
def dt_cX5_heavyAt_1 : List (Nat × Nat × Nat × Nat) := [(37, 184, 2, 80), (40, 154, 2, 5), (43, 3, 0, 0), (44, 172, 0, 0), (45, 42, 0, 0), (46, 27, 0, 0), (47, 28, 0, 0), (48, 3, 0, 0), (49, 3, 0, 0), (50, 29, 0, 0), (51, 21, 1, 4), (53, 182, 2, 190), (56, 21, 1, 5), (58, 3, 0, 0), (59, 42, 0, 0), (60, 180, 2, 178), (63, 4, 0, 0), (64, 100, 0, 0), (65, 184, 2, 80), (68, 154, 2, 5)]
theorem da_cX5_heavyAt_1 : fw dt_cX5_heavyAt_1 0 cX5_heavyAt.data.toList = true := by decide +kernel
theorem dX5_heavyAt_37 : decode cX5_heavyAt 37 = .ok (.invokestatic 80, 3) := fo_184 (fw_get da_cX5_heavyAt_1 0 rfl)
theorem dX5_heavyAt_40 : decode cX5_heavyAt 40 = .ok (.ifCond .ne 5, 3) := fo_154 (fw_get da_cX5_heavyAt_1 1 rfl) (by decide +kernel)
theorem dX5_heavyAt_43 : decode cX5_heavyAt 43 = .ok (.iconst 0, 1) := fo_3 (fw_get da_cX5_heavyAt_1 2 rfl)
theorem dX5_heavyAt_44 : decode cX5_heavyAt 44 = .ok (.ireturn, 1) := fo_172 (fw_get da_cX5_heavyAt_1 3 rfl)
theorem dX5_heavyAt_45 : decode cX5_heavyAt 45 = .ok (.aload_n 0, 1) := fo_42 (fw_get da_cX5_heavyAt_1 4 rfl)
theorem dX5_heavyAt_46 : decode cX5_heavyAt 46 = .ok (.iload_n 1, 1) := fo_27 (fw_get da_cX5_heavyAt_1 5 rfl)
theorem dX5_heavyAt_47 : decode cX5_heavyAt 47 = .ok (.iload_n 2, 1) := fo_28 (fw_get da_cX5_heavyAt_1 6 rfl)
theorem dX5_heavyAt_48 : decode cX5_heavyAt 48 = .ok (.iconst 0, 1) := fo_3 (fw_get da_cX5_heavyAt_1 7 rfl)
theorem dX5_heavyAt_49 : decode cX5_heavyAt 49 = .ok (.iconst 0, 1) := fo_3 (fw_get da_cX5_heavyAt_1 8 rfl)
theorem dX5_heavyAt_50 : decode cX5_heavyAt 50 = .ok (.iload_n 3, 1) := fo_29 (fw_get da_cX5_heavyAt_1 9 rfl)
theorem dX5_heavyAt_51 : decode cX5_heavyAt 51 = .ok (.iload 4, 2) := fo_21 (fw_get da_cX5_heavyAt_1 10 rfl)
theorem dX5_heavyAt_53 : decode cX5_heavyAt 53 = .ok (.invokevirtual 190, 3) := fo_182 (fw_get da_cX5_heavyAt_1 11 rfl)
theorem dX5_heavyAt_56 : decode cX5_heavyAt 56 = .ok (.iload 5, 2) := fo_21 (fw_get da_cX5_heavyAt_1 12 rfl)
theorem dX5_heavyAt_58 : decode cX5_heavyAt 58 = .ok (.iconst 0, 1) := fo_3 (fw_get da_cX5_heavyAt_1 13 rfl)
theorem dX5_heavyAt_59 : decode cX5_heavyAt 59 = .ok (.aload_n 0, 1) := fo_42 (fw_get da_cX5_heavyAt_1 14 rfl)
theorem dX5_heavyAt_60 : decode cX5_heavyAt 60 = .ok (.getfield 178, 3) := fo_180 (fw_get da_cX5_heavyAt_1 15 rfl)
theorem dX5_heavyAt_63 : decode cX5_heavyAt 63 = .ok (.iconst 1, 1) := fo_4 (fw_get da_cX5_heavyAt_1 16 rfl)
theorem dX5_heavyAt_64 : decode cX5_heavyAt 64 = .ok (.isub, 1) := fo_100 (fw_get da_cX5_heavyAt_1 17 rfl)
theorem dX5_heavyAt_65 : decode cX5_heavyAt 65 = .ok (.invokestatic 80, 3) := fo_184 (fw_get da_cX5_heavyAt_1 18 rfl)
theorem dX5_heavyAt_68 : decode cX5_heavyAt 68 = .ok (.ifCond .ne 5, 3) := fo_154 (fw_get da_cX5_heavyAt_1 19 rfl) (by decide +kernel)
def dt_cX5_heavyAt_2 : List (Nat × Nat × Nat × Nat) := [(71, 3, 0, 0), (72, 172, 0, 0), (73, 42, 0, 0), (74, 3, 0, 0), (75, 181, 2, 77), (78, 21, 1, 6), (80, 154, 2, 13), (83, 42, 0, 0), (84, 180, 2, 62), (87, 21, 1, 5), (89, 46, 0, 0), (90, 167, 2, 10), (93, 42, 0, 0), (94, 180, 2, 65), (97, 21, 1, 5), (99, 46, 0, 0), (100, 172, 0, 0)]
theorem da_cX5_heavyAt_2 : fw dt_cX5_heavyAt_2 0 cX5_heavyAt.data.toList = true := by decide +kernel
theorem dX5_heavyAt_71 : decode cX5_heavyAt 71 = .ok (.iconst 0, 1) := fo_3 (fw_get da_cX5_heavyAt_2 0 rfl)
theorem dX5_heavyAt_72 : decode cX5_heavyAt 72 = .ok (.ireturn, 1) := fo_172 (fw_get da_cX5_heavyAt_2 1 rfl)
theorem dX5_heavyAt_73 : decode cX5_heavyAt 73 = .ok (.aload_n 0, 1) := fo_42 (fw_get da_cX5_heavyAt_2 2 rfl)
theorem dX5_heavyAt_74 : decode cX5_heavyAt 74 = .ok (.iconst 0, 1) := fo_3 (fw_get da_cX5_heavyAt_2 3 rfl)
theorem dX5_heavyAt_75 : decode cX5_heavyAt 75 = .ok (.putfield 77, 3) := fo_181 (fw_get da_cX5_heavyAt_2 4 rfl)
theorem dX5_heavyAt_78 : decode cX5_heavyAt 78 = .ok (.iload 6, 2) := fo_21 (fw_get da_cX5_heavyAt_2 5 rfl)
theorem dX5_heavyAt_80 : decode cX5_heavyAt 80 = .ok (.ifCond .ne 13, 3) := fo_154 (fw_get da_cX5_heavyAt_2 6 rfl) (by decide +kernel)
theorem dX5_heavyAt_83 : decode cX5_heavyAt 83 = .ok (.aload_n 0, 1) := fo_42 (fw_get da_cX5_heavyAt_2 7 rfl)
theorem dX5_heavyAt_84 : decode cX5_heavyAt 84 = .ok (.getfield 62, 3) := fo_180 (fw_get da_cX5_heavyAt_2 8 rfl)
theorem dX5_heavyAt_87 : decode cX5_heavyAt 87 = .ok (.iload 5, 2) := fo_21 (fw_get da_cX5_heavyAt_2 9 rfl)
theorem dX5_heavyAt_89 : decode cX5_heavyAt 89 = .ok (.iaload, 1) := fo_46 (fw_get da_cX5_heavyAt_2 10 rfl)
theorem dX5_heavyAt_90 : decode cX5_heavyAt 90 = .ok (.goto 10, 3) := fo_167 (fw_get da_cX5_heavyAt_2 11 rfl) (by decide +kernel)
theorem dX5_heavyAt_93 : decode cX5_heavyAt 93 = .ok (.aload_n 0, 1) := fo_42 (fw_get da_cX5_heavyAt_2 12 rfl)
theorem dX5_heavyAt_94 : decode cX5_heavyAt 94 = .ok (.getfield 65, 3) := fo_180 (fw_get da_cX5_heavyAt_2 13 rfl)
theorem dX5_heavyAt_97 : decode cX5_heavyAt 97 = .ok (.iload 5, 2) := fo_21 (fw_get da_cX5_heavyAt_2 14 rfl)
theorem dX5_heavyAt_99 : decode cX5_heavyAt 99 = .ok (.iaload, 1) := fo_46 (fw_get da_cX5_heavyAt_2 15 rfl)
theorem dX5_heavyAt_100 : decode cX5_heavyAt 100 = .ok (.ireturn, 1) := fo_172 (fw_get da_cX5_heavyAt_2 16 rfl)
theorem mi_wsX5_both_wsX5_both_r1 : ∀ w ∈ wsX5_both_r1, w ∈ wsX5_both := fun _ h => (List.mem_cons_of_mem _ (List.mem_append_left _ (List.mem_append_left _ h)))
theorem mi_wsX5_both_wsX50 : ∀ w ∈ wsX50, w ∈ wsX5_both := fun _ h => (List.mem_cons_of_mem _ (List.mem_append_right _ h))
set_option maxRecDepth 20000 in
theorem ggX5_both_X5_isRange : GoodIn wsX5_both wsX5_isRange := goodIn_m _ [(wsX5_both_r1, [false, false, false, false, false, false, true, true]), (wsX50, [true, true, true, true, true, true, true, true, true, true, true, true, true, true, true, true, true, true, true, true, true, true, true, true, true, true, true, true, true, true])] (gm_c mi_wsX5_both_wsX5_both_r1 (gm_c mi_wsX5_both_wsX50 gm_n)) rfl (by decide +kernel)
set_option maxRecDepth 20000 in
theorem gX5_both_X5_isRange : GoodIn wsX5_both (wsV RX5 142 RX5 yX5_isRange wsX5_isRange) := goodIn_app (goodIn_m _ [(wsX5_both_r1, [false, false, true, true, true, true])] (gm_c mi_wsX5_both_wsX5_both_r1 gm_n) rfl (by decide +kernel)) ggX5_both_X5_isRange
set_option maxRecDepth 20000 in
theorem ggX5_both_X5_isShare : GoodIn wsX5_both wsX5_isShare := goodIn_m _ [(wsX5_both_r1, [false, false, false, false, false, false, false, false, false, false, true, true, true]), (wsX5_both_r1, [false, false, false, false, false, true, false, false, false, false, false, false, false, true])] (gm_c mi_wsX5_both_wsX5_both_r1 (gm_c mi_wsX5_both_wsX5_both_r1 gm_n)) rfl (by decide +kernel)
set_option maxRecDepth 20000 in
theorem gX5_both_X5_isShare : GoodIn wsX5_both (va_wsS RX5 184 yX5_isShare wsX5_isShare) := goodIn_app (goodIn_m _ [(wsX5_both_r1, [false, false, false, false, false, false, false, false, true, true]), (wsX5_both_r1, [false, false, false, false, false, true])] (gm_c mi_wsX5_both_wsX5_both_r1 (gm_c mi_wsX5_both_wsX5_both_r1 gm_n)) rfl (by decide +kernel)) ggX5_both_X5_isShare
set_option maxRecDepth 20000 in
theorem ggX5_both_X5_isEnough : GoodIn wsX5_both wsX5_isEnough := goodIn_m _ [(wsX5_both_r1, [false, false, false, false, false, false, false, false, false, false, false, false, false, false, false, false, false, true, true]), (wsX50, [true, true, true, true, true, true, true, true, true, true, true, true, true, true, true, true, true, true, true, true, true, true, true, true, true, true, true, true, true, true])] (gm_c mi_wsX5_both_wsX5_both_r1 (gm_c mi_wsX5_both_wsX50 gm_n)) rfl (by decide +kernel)
set_option maxRecDepth 20000 in
theorem gX5_both_X5_isEnough : GoodIn wsX5_both (wsV RX5 187 RX5 yX5_isEnough wsX5_isEnough) := goodIn_app (goodIn_m _ [(wsX5_both_r1, [false, false, false, false, false, false, false, false, false, false, false, false, false, false, true, true, true]), (wsX5_both_r1, [false, false, false, false, false, true])] (gm_c mi_wsX5_both_wsX5_both_r1 (gm_c mi_wsX5_both_wsX5_both_r1 gm_n)) rfl (by decide +kernel)) ggX5_both_X5_isEnough
theorem mi_wsX5_both_wsX5_both_r2 : ∀ w ∈ wsX5_both_r2, w ∈ wsX5_both := fun _ h => (List.mem_cons_of_mem _ (List.mem_append_left _ (List.mem_append_right _ h)))
set_option maxRecDepth 20000 in
theorem ggX5_both_X5_laysHeavy : GoodIn wsX5_both wsX5_laysHeavy := goodIn_m _ [(wsX5_both_r1, [false, false, false, false, false, false, false, false, false, false, false, false, false, false, false, false, false, false, false, false, false, false, true]), (wsX5_both_r1, [false, true, false, false, false, false, false, false, false, false, false, false, false, false, false, false, false, false, false, false, false, false, false, true]), (wsX5_both_r2, [true, true, true]), (wsX5_both_r1, [false, false, false, false, false, true]), (wsX5_both_r2, [false, false, false, true, true, true, true, true, true, true]), (wsX50, [true, true, true, true, true, true, true, true, true, true, true, true, true, true, true, true, true, true, true, true, true, true, true, true, true, true, true, true, true, true])] (gm_c mi_wsX5_both_wsX5_both_r1 (gm_c mi_wsX5_both_wsX5_both_r1 (gm_c mi_wsX5_both_wsX5_both_r2 (gm_c mi_wsX5_both_wsX5_both_r1 (gm_c mi_wsX5_both_wsX5_both_r2 (gm_c mi_wsX5_both_wsX50 gm_n)))))) rfl (by decide +kernel)
set_option maxRecDepth 20000 in
theorem gX5_both_X5_laysHeavy : GoodIn wsX5_both (wsV RX5 190 RX5 yX5_laysHeavy wsX5_laysHeavy) := goodIn_app (goodIn_m _ [(wsX5_both_r1, [false, false, false, false, false, false, false, false, false, false, false, false, false, false, false, false, false, false, false, true, true, true]), (wsX5_both_r1, [false, false, false, false, false, true])] (gm_c mi_wsX5_both_wsX5_both_r1 (gm_c mi_wsX5_both_wsX5_both_r1 gm_n)) rfl (by decide +kernel)) ggX5_both_X5_laysHeavy
def dt_cX5_both_0 : List (Nat × Nat × Nat × Nat) := [(0, 42, 0, 0), (1, 3, 0, 0), (2, 181, 2, 77), (5, 42, 0, 0), (6, 27, 0, 0), (7, 28, 0, 0), (8, 182, 2, 142), (11, 153, 2, 23), (14, 42, 0, 0), (15, 29, 0, 0), (16, 21, 1, 4), (18, 182, 2, 142), (21, 153, 2, 13), (24, 21, 1, 5), (26, 21, 1, 6), (28, 184, 2, 184), (31, 154, 2, 5), (34, 2, 0, 0), (35, 172, 0, 0), (36, 42, 0, 0)]
theorem da_cX5_both_0 : fw dt_cX5_both_0 0 cX5_both.data.toList = true := by decide +kernel
theorem dX5_both_0 : decode cX5_both 0 = .ok (.aload_n 0, 1) := fo_42 (fw_get da_cX5_both_0 0 rfl)
theorem dX5_both_1 : decode cX5_both 1 = .ok (.iconst 0, 1) := fo_3 (fw_get da_cX5_both_0 1 rfl)
theorem dX5_both_2 : decode cX5_both 2 = .ok (.putfield 77, 3) := fo_181 (fw_get da_cX5_both_0 2 rfl)
theorem dX5_both_5 : decode cX5_both 5 = .ok (.aload_n 0, 1) := fo_42 (fw_get da_cX5_both_0 3 rfl)
theorem dX5_both_6 : decode cX5_both 6 = .ok (.iload_n 1, 1) := fo_27 (fw_get da_cX5_both_0 4 rfl)
theorem dX5_both_7 : decode cX5_both 7 = .ok (.iload_n 2, 1) := fo_28 (fw_get da_cX5_both_0 5 rfl)
theorem dX5_both_8 : decode cX5_both 8 = .ok (.invokevirtual 142, 3) := fo_182 (fw_get da_cX5_both_0 6 rfl)
theorem dX5_both_11 : decode cX5_both 11 = .ok (.ifCond .eq 23, 3) := fo_153 (fw_get da_cX5_both_0 7 rfl) (by decide +kernel)
theorem dX5_both_14 : decode cX5_both 14 = .ok (.aload_n 0, 1) := fo_42 (fw_get da_cX5_both_0 8 rfl)
theorem dX5_both_15 : decode cX5_both 15 = .ok (.iload_n 3, 1) := fo_29 (fw_get da_cX5_both_0 9 rfl)
theorem dX5_both_16 : decode cX5_both 16 = .ok (.iload 4, 2) := fo_21 (fw_get da_cX5_both_0 10 rfl)
theorem dX5_both_18 : decode cX5_both 18 = .ok (.invokevirtual 142, 3) := fo_182 (fw_get da_cX5_both_0 11 rfl)
theorem dX5_both_21 : decode cX5_both 21 = .ok (.ifCond .eq 13, 3) := fo_153 (fw_get da_cX5_both_0 12 rfl) (by decide +kernel)
theorem dX5_both_24 : decode cX5_both 24 = .ok (.iload 5, 2) := fo_21 (fw_get da_cX5_both_0 13 rfl)
theorem dX5_both_26 : decode cX5_both 26 = .ok (.iload 6, 2) := fo_21 (fw_get da_cX5_both_0 14 rfl)
theorem dX5_both_28 : decode cX5_both 28 = .ok (.invokestatic 184, 3) := fo_184 (fw_get da_cX5_both_0 15 rfl)
theorem dX5_both_31 : decode cX5_both 31 = .ok (.ifCond .ne 5, 3) := fo_154 (fw_get da_cX5_both_0 16 rfl) (by decide +kernel)
theorem dX5_both_34 : decode cX5_both 34 = .ok (.iconst (-1), 1) := fo_2 (fw_get da_cX5_both_0 17 rfl)
theorem dX5_both_35 : decode cX5_both 35 = .ok (.ireturn, 1) := fo_172 (fw_get da_cX5_both_0 18 rfl)
theorem dX5_both_36 : decode cX5_both 36 = .ok (.aload_n 0, 1) := fo_42 (fw_get da_cX5_both_0 19 rfl)
def dt_cX5_both_1 : List (Nat × Nat × Nat × Nat) := [(37, 21, 1, 5), (39, 21, 1, 6), (41, 182, 2, 187), (44, 154, 2, 6), (47, 16, 1, 254), (49, 172, 0, 0), (50, 27, 0, 0), (51, 21, 1, 4), (53, 162, 2, 11), (56, 29, 0, 0), (57, 28, 0, 0), (58, 162, 2, 6), (61, 16, 1, 253), (63, 172, 0, 0), (64, 42, 0, 0), (65, 27, 0, 0), (66, 28, 0, 0), (67, 29, 0, 0), (68, 21, 1, 4), (70, 21, 1, 5)]
theorem da_cX5_both_1 : fw dt_cX5_both_1 0 cX5_both.data.toList = true := by decide +kernel
theorem dX5_both_37 : decode cX5_both 37 = .ok (.iload 5, 2) := fo_21 (fw_get da_cX5_both_1 0 rfl)
theorem dX5_both_39 : decode cX5_both 39 = .ok (.iload 6, 2) := fo_21 (fw_get da_cX5_both_1 1 rfl)
theorem dX5_both_41 : decode cX5_both 41 = .ok (.invokevirtual 187, 3) := fo_182 (fw_get da_cX5_both_1 2 rfl)
theorem dX5_both_44 : decode cX5_both 44 = .ok (.ifCond .ne 6, 3) := fo_154 (fw_get da_cX5_both_1 3 rfl) (by decide +kernel)
theorem dX5_both_47 : decode cX5_both 47 = .ok (.bipush (-2), 2) := fo_16 (fw_get da_cX5_both_1 4 rfl) (by decide +kernel)
theorem dX5_both_49 : decode cX5_both 49 = .ok (.ireturn, 1) := fo_172 (fw_get da_cX5_both_1 5 rfl)
theorem dX5_both_50 : decode cX5_both 50 = .ok (.iload_n 1, 1) := fo_27 (fw_get da_cX5_both_1 6 rfl)
theorem dX5_both_51 : decode cX5_both 51 = .ok (.iload 4, 2) := fo_21 (fw_get da_cX5_both_1 7 rfl)
theorem dX5_both_53 : decode cX5_both 53 = .ok (.if_icmp .ge 11, 3) := fo_162 (fw_get da_cX5_both_1 8 rfl) (by decide +kernel)
theorem dX5_both_56 : decode cX5_both 56 = .ok (.iload_n 3, 1) := fo_29 (fw_get da_cX5_both_1 9 rfl)
theorem dX5_both_57 : decode cX5_both 57 = .ok (.iload_n 2, 1) := fo_28 (fw_get da_cX5_both_1 10 rfl)
theorem dX5_both_58 : decode cX5_both 58 = .ok (.if_icmp .ge 6, 3) := fo_162 (fw_get da_cX5_both_1 11 rfl) (by decide +kernel)
theorem dX5_both_61 : decode cX5_both 61 = .ok (.bipush (-3), 2) := fo_16 (fw_get da_cX5_both_1 12 rfl) (by decide +kernel)
theorem dX5_both_63 : decode cX5_both 63 = .ok (.ireturn, 1) := fo_172 (fw_get da_cX5_both_1 13 rfl)
theorem dX5_both_64 : decode cX5_both 64 = .ok (.aload_n 0, 1) := fo_42 (fw_get da_cX5_both_1 14 rfl)
theorem dX5_both_65 : decode cX5_both 65 = .ok (.iload_n 1, 1) := fo_27 (fw_get da_cX5_both_1 15 rfl)
theorem dX5_both_66 : decode cX5_both 66 = .ok (.iload_n 2, 1) := fo_28 (fw_get da_cX5_both_1 16 rfl)
theorem dX5_both_67 : decode cX5_both 67 = .ok (.iload_n 3, 1) := fo_29 (fw_get da_cX5_both_1 17 rfl)
theorem dX5_both_68 : decode cX5_both 68 = .ok (.iload 4, 2) := fo_21 (fw_get da_cX5_both_1 18 rfl)
theorem dX5_both_70 : decode cX5_both 70 = .ok (.iload 5, 2) := fo_21 (fw_get da_cX5_both_1 19 rfl)
def dt_cX5_both_2 : List (Nat × Nat × Nat × Nat) := [(72, 21, 1, 6), (74, 182, 2, 190), (77, 42, 0, 0), (78, 180, 2, 178), (81, 172, 0, 0)]
theorem da_cX5_both_2 : fw dt_cX5_both_2 0 cX5_both.data.toList = true := by decide +kernel
theorem dX5_both_72 : decode cX5_both 72 = .ok (.iload 6, 2) := fo_21 (fw_get da_cX5_both_2 0 rfl)
theorem dX5_both_74 : decode cX5_both 74 = .ok (.invokevirtual 190, 3) := fo_182 (fw_get da_cX5_both_2 1 rfl)
theorem dX5_both_77 : decode cX5_both 77 = .ok (.aload_n 0, 1) := fo_42 (fw_get da_cX5_both_2 2 rfl)
theorem dX5_both_78 : decode cX5_both 78 = .ok (.getfield 178, 3) := fo_180 (fw_get da_cX5_both_2 3 rfl)
theorem dX5_both_81 : decode cX5_both 81 = .ok (.ireturn, 1) := fo_172 (fw_get da_cX5_both_2 4 rfl)
theorem mi_wsX5_bothAt_wsX5_bothAt_r1 : ∀ w ∈ wsX5_bothAt_r1, w ∈ wsX5_bothAt := fun _ h => (List.mem_cons_of_mem _ (List.mem_append_left _ (List.mem_append_left _ h)))
theorem mi_wsX5_bothAt_wsX5_bothAt_r2 : ∀ w ∈ wsX5_bothAt_r2, w ∈ wsX5_bothAt := fun _ h => (List.mem_cons_of_mem _ (List.mem_append_left _ (List.mem_append_right _ h)))
theorem mi_wsX5_bothAt_wsX50 : ∀ w ∈ wsX50, w ∈ wsX5_bothAt := fun _ h => (List.mem_cons_of_mem _ (List.mem_append_right _ h))
set_option maxRecDepth 20000 in
theorem ggX5_bothAt_X5_both : GoodIn wsX5_bothAt wsX5_both := goodIn_m _ [(wsX5_bothAt_r1, [false, false, false, false, false, false, true, true, true, true, true, true]), (wsX5_bothAt_r1, [false, false, false, false, false, true, false, false, false, false, false, false, true, true, true, true, true, true, true, true, true, true, true, true]), (wsX5_bothAt_r2, [true, true, true, true, true, true, true, true, true, true, true, true, true, true, true]), (wsX5_bothAt_r1, [true]), (wsX50, [true, true, true, true, true, true, true, true, true, true, true, true, true, true, true, true, true, true, true, true, true, true, true, true, true, true, true, true, true, true])] (gm_c mi_wsX5_bothAt_wsX5_bothAt_r1 (gm_c mi_wsX5_bothAt_wsX5_bothAt_r1 (gm_c mi_wsX5_bothAt_wsX5_bothAt_r2 (gm_c mi_wsX5_bothAt_wsX5_bothAt_r1 (gm_c mi_wsX5_bothAt_wsX50 gm_n))))) rfl (by decide +kernel)
set_option maxRecDepth 20000 in
theorem gX5_bothAt_X5_both : GoodIn wsX5_bothAt (wsV RX5 197 RX5 yX5_both wsX5_both) := goodIn_app (goodIn_m _ [(wsX5_bothAt_r1, [false, false, true, true, true, true])] (gm_c mi_wsX5_bothAt_wsX5_bothAt_r1 gm_n) rfl (by decide +kernel)) ggX5_bothAt_X5_both
set_option maxRecDepth 20000 in
theorem ggX5_bothAt_X5_within : GoodIn wsX5_bothAt wsX5_within := goodIn_m _ [(wsX5_bothAt_r1, [false, false, false, false, false, false, false, false, false, false, false, false, false, false, false, false, false, false, false, true])] (gm_c mi_wsX5_bothAt_wsX5_bothAt_r1 gm_n) rfl (by decide +kernel)
set_option maxRecDepth 20000 in
theorem gX5_bothAt_X5_within : GoodIn wsX5_bothAt (va_wsS RX5 80 yX5_within wsX5_within) := goodIn_app (goodIn_m _ [(wsX5_bothAt_r1, [false, false, false, false, false, false, false, false, false, false, false, false, false, false, false, false, false, true, true]), (wsX5_bothAt_r1, [false, false, false, false, false, true])] (gm_c mi_wsX5_bothAt_wsX5_bothAt_r1 (gm_c mi_wsX5_bothAt_wsX5_bothAt_r1 gm_n)) rfl (by decide +kernel)) ggX5_bothAt_X5_within
def dt_cX5_bothAt_0 : List (Nat × Nat × Nat × Nat) := [(0, 42, 0, 0), (1, 27, 0, 0), (2, 28, 0, 0), (3, 29, 0, 0), (4, 21, 1, 4), (6, 21, 1, 5), (8, 21, 1, 6), (10, 182, 2, 197), (13, 54, 1, 8), (15, 21, 1, 7), (17, 3, 0, 0), (18, 21, 1, 8), (20, 4, 0, 0), (21, 100, 0, 0), (22, 184, 2, 80), (25, 153, 2, 13), (28, 42, 0, 0), (29, 180, 2, 62), (32, 21, 1, 7), (34, 46, 0, 0)]
theorem da_cX5_bothAt_0 : fw dt_cX5_bothAt_0 0 cX5_bothAt.data.toList = true := by decide +kernel
theorem dX5_bothAt_0 : decode cX5_bothAt 0 = .ok (.aload_n 0, 1) := fo_42 (fw_get da_cX5_bothAt_0 0 rfl)
theorem dX5_bothAt_1 : decode cX5_bothAt 1 = .ok (.iload_n 1, 1) := fo_27 (fw_get da_cX5_bothAt_0 1 rfl)
theorem dX5_bothAt_2 : decode cX5_bothAt 2 = .ok (.iload_n 2, 1) := fo_28 (fw_get da_cX5_bothAt_0 2 rfl)
theorem dX5_bothAt_3 : decode cX5_bothAt 3 = .ok (.iload_n 3, 1) := fo_29 (fw_get da_cX5_bothAt_0 3 rfl)
theorem dX5_bothAt_4 : decode cX5_bothAt 4 = .ok (.iload 4, 2) := fo_21 (fw_get da_cX5_bothAt_0 4 rfl)
theorem dX5_bothAt_6 : decode cX5_bothAt 6 = .ok (.iload 5, 2) := fo_21 (fw_get da_cX5_bothAt_0 5 rfl)
theorem dX5_bothAt_8 : decode cX5_bothAt 8 = .ok (.iload 6, 2) := fo_21 (fw_get da_cX5_bothAt_0 6 rfl)
theorem dX5_bothAt_10 : decode cX5_bothAt 10 = .ok (.invokevirtual 197, 3) := fo_182 (fw_get da_cX5_bothAt_0 7 rfl)
theorem dX5_bothAt_13 : decode cX5_bothAt 13 = .ok (.istore 8, 2) := fo_54 (fw_get da_cX5_bothAt_0 8 rfl)
theorem dX5_bothAt_15 : decode cX5_bothAt 15 = .ok (.iload 7, 2) := fo_21 (fw_get da_cX5_bothAt_0 9 rfl)
theorem dX5_bothAt_17 : decode cX5_bothAt 17 = .ok (.iconst 0, 1) := fo_3 (fw_get da_cX5_bothAt_0 10 rfl)
theorem dX5_bothAt_18 : decode cX5_bothAt 18 = .ok (.iload 8, 2) := fo_21 (fw_get da_cX5_bothAt_0 11 rfl)
theorem dX5_bothAt_20 : decode cX5_bothAt 20 = .ok (.iconst 1, 1) := fo_4 (fw_get da_cX5_bothAt_0 12 rfl)
theorem dX5_bothAt_21 : decode cX5_bothAt 21 = .ok (.isub, 1) := fo_100 (fw_get da_cX5_bothAt_0 13 rfl)
theorem dX5_bothAt_22 : decode cX5_bothAt 22 = .ok (.invokestatic 80, 3) := fo_184 (fw_get da_cX5_bothAt_0 14 rfl)
theorem dX5_bothAt_25 : decode cX5_bothAt 25 = .ok (.ifCond .eq 13, 3) := fo_153 (fw_get da_cX5_bothAt_0 15 rfl) (by decide +kernel)
theorem dX5_bothAt_28 : decode cX5_bothAt 28 = .ok (.aload_n 0, 1) := fo_42 (fw_get da_cX5_bothAt_0 16 rfl)
theorem dX5_bothAt_29 : decode cX5_bothAt 29 = .ok (.getfield 62, 3) := fo_180 (fw_get da_cX5_bothAt_0 17 rfl)
theorem dX5_bothAt_32 : decode cX5_bothAt 32 = .ok (.iload 7, 2) := fo_21 (fw_get da_cX5_bothAt_0 18 rfl)
theorem dX5_bothAt_34 : decode cX5_bothAt 34 = .ok (.iaload, 1) := fo_46 (fw_get da_cX5_bothAt_0 19 rfl)
def dt_cX5_bothAt_1 : List (Nat × Nat × Nat × Nat) := [(35, 167, 2, 5), (38, 18, 1, 148), (40, 172, 0, 0)]
theorem da_cX5_bothAt_1 : fw dt_cX5_bothAt_1 0 cX5_bothAt.data.toList = true := by decide +kernel
theorem dX5_bothAt_35 : decode cX5_bothAt 35 = .ok (.goto 5, 3) := fo_167 (fw_get da_cX5_bothAt_1 0 rfl) (by decide +kernel)
theorem dX5_bothAt_38 : decode cX5_bothAt 38 = .ok (.ldc 148, 2) := fo_18 (fw_get da_cX5_bothAt_1 1 rfl)
theorem dX5_bothAt_40 : decode cX5_bothAt 40 = .ok (.ireturn, 1) := fo_172 (fw_get da_cX5_bothAt_1 2 rfl)


set_option maxHeartbeats 4000000 in
set_option maxRecDepth 100000 in
theorem c_X5_comes (l : Launch) (dC : Nat → ClassId) (dI : Nat → Nat → Nat) (h0 : Nat) (g_row : Nat) (g_many : Nat) (g_loss : Nat) (g_less : Nat) (g_voteValue : Nat) (g_voteNumber : Nat) (g_allValue : Nat) (g_allNumber : Nat) (g_nodeL : Nat) (g_nodeR : Nat) (g_part : Nat) (g_wasMany : Nat) (g_wasLoss : Nat) (g_wasValue : Nat) (g_wasNumber : Nat) (g_path : Nat) (g_heavyValue : Nat) (g_heavyTimes : Nat) (g_fewest : Nat) (g_which : Nat) (g_met : Nat) (m_n : Int32) (m_slots : Int32) (m_thrown : Int32) (m_allMany : Int32) (m_nodes : Int32) (m_partMany : Int32) (m_pathMany : Int32) (m_heavyMany : Int32) (m_mostMet : Int32) (cyI : ClassId) (zv : Nat → Int32) (zt : Nat → Int32) (p0 : Int32) (p1 : Int32) (sz : Nat) (b0 : 0 ≤ m_heavyMany.toInt) (b1 : m_heavyMany.toInt < 160) : kx_MQ l (dC, dI) yX5_comes wsX5_comes ({ frames := 0, cells := 0, slots := 0, locals := 0 }) [.ref h0, .int p0, .int p1] [kx_5 h0 g_row m_n m_slots m_thrown g_many g_loss g_less g_voteValue g_voteNumber g_allValue g_allNumber m_allMany g_nodeL g_nodeR m_nodes g_part m_partMany g_wasMany g_wasLoss g_wasValue g_wasNumber g_path m_pathMany g_heavyValue g_heavyTimes m_heavyMany g_fewest g_which g_met m_mostMet, kx_a g_heavyValue cyI 160 zv, kx_a g_heavyTimes cyI 160 zt] [(cyI, .int)] sz (fun A => va_Qv (fun u : Int32 × (Nat → Int32) × (Nat → Int32) => u.1.toInt = m_heavyMany.toInt + 1) (fun (u : Int32 × (Nat → Int32) × (Nat → Int32)) (t : State) => va_P (dC, dI) vwCl [kx_5 h0 g_row m_n m_slots m_thrown g_many g_loss g_less g_voteValue g_voteNumber g_allValue g_allNumber m_allMany g_nodeL g_nodeR m_nodes g_part m_partMany g_wasMany g_wasLoss g_wasValue g_wasNumber g_path m_pathMany g_heavyValue g_heavyTimes u.1 g_fewest g_which g_met m_mostMet, kx_a g_heavyValue cyI 160 u.2.1, kx_a g_heavyTimes cyI 160 u.2.2] t.heap ∧ va_K (dC, dI) vwCl [(cyI, .int)] t ∧ va_D A [kx_5 h0 g_row m_n m_slots m_thrown g_many g_loss g_less g_voteValue g_voteNumber g_allValue g_allNumber m_allMany g_nodeL g_nodeR m_nodes g_part m_partMany g_wasMany g_wasLoss g_wasValue g_wasNumber g_path m_pathMany g_heavyValue g_heavyTimes u.1 g_fewest g_which g_met m_mostMet, kx_a g_heavyValue cyI 160 u.2.1, kx_a g_heavyTimes cyI 160 u.2.2]) A) := by
  refine kx_stQ (ws := wsX5_comes) (cc := cX5_comes) (maxL := 4) (ret := none) (by decide) rfl (Nat.le_of_ble_eq_true rfl) ?_
  intro p e s m below meth c A ls hx hb hr hlocks hts hown hml hA hS hP hK hD hl
  have hown : s.vm.findClass RX5 = some m.cls := hown
  have hl : lv_has ls 4 [(0, .ref h0), (1, .int p0), (2, .int p1)] := hl
  have hf_178 := hts (.fieldLink RX5 178 "MajorityIndexModel" "heavyMany" "I") (List.mem_of_getElem? (i := 1) rfl)
  have hi_5 : ∀ w ∈ u_ws RX5 TX5 30, w ∈ wsX5_comes := fun w h => List.mem_cons_of_mem _ (List.mem_append_right _ h)
  have hf_62 := hts (.fieldLink RX5 62 "MajorityIndexModel" "heavyValue" "[I") (List.mem_of_getElem? (i := 3) rfl)
  have hf_65 := hts (.fieldLink RX5 65 "MajorityIndexModel" "heavyTimes" "[I") (List.mem_of_getElem? (i := 2) rfl)
  refine lv_aload_n hx hb dX5_comes_0 rfl (lv_at hl 0 rfl) ?_
  refine va_get (D := (dC, dI)) (ci := 5) (v := .int m_heavyMany) (C := RX5) (T := TX5) (N := 30) hx hb hts hi_5 hown hK hP 0 rfl rfl 25 (by decide) hf_178 (fun _ h9 => h9) rfl dX5_comes_1 ?_
  refine lv_istore_n (lv' := [(3, .int m_heavyMany), (0, .ref h0), (1, .int p0), (2, .int p1)]) hx hb dX5_comes_4 rfl hl (by decide) rfl (fun ls hl => ?_)
  have LP1 : ∀ (n : Nat) (at9 : Int32) (jv : Nat → Int32) (jt : Nat → Int32), (0 ≤ at9.toInt) → (at9.toInt ≤ m_heavyMany.toInt) → (at9.toInt).toNat < n → ∀ (H : Heap) (locs : List Loc), va_P (dC, dI) vwCl [kx_5 h0 g_row m_n m_slots m_thrown g_many g_loss g_less g_voteValue g_voteNumber g_allValue g_allNumber m_allMany g_nodeL g_nodeR m_nodes g_part m_partMany g_wasMany g_wasLoss g_wasValue g_wasNumber g_path m_pathMany g_heavyValue g_heavyTimes m_heavyMany g_fewest g_which g_met m_mostMet, kx_a g_heavyValue cyI 160 jv, kx_a g_heavyTimes cyI 160 jt] H → va_D A [kx_5 h0 g_row m_n m_slots m_thrown g_many g_loss g_less g_voteValue g_voteNumber g_allValue g_allNumber m_allMany g_nodeL g_nodeR m_nodes g_part m_partMany g_wasMany g_wasLoss g_wasValue g_wasNumber g_path m_pathMany g_heavyValue g_heavyTimes m_heavyMany g_fewest g_which g_met m_mostMet, kx_a g_heavyValue cyI 160 jv, kx_a g_heavyTimes cyI 160 jt] → va_S A s.heap H locs → ∀ (ls : Array Slot), lv_has ls 4 [(3, .int at9), (0, .ref h0), (1, .int p0), (2, .int p1)] → W p l e (headSpec wsX5_comes ({ frames := 0, cells := 0, slots := 0, locals := 0 })).room s m ([.ref h0, .int p0, .int p1] : List Value).toArray below meth c H locs 0 0 (MQ below (va_Qv (fun u : Int32 × (Nat → Int32) × (Nat → Int32) => u.1.toInt = m_heavyMany.toInt + 1) (fun (u : Int32 × (Nat → Int32) × (Nat → Int32)) (t : State) => va_P (dC, dI) vwCl [kx_5 h0 g_row m_n m_slots m_thrown g_many g_loss g_less g_voteValue g_voteNumber g_allValue g_allNumber m_allMany g_nodeL g_nodeR m_nodes g_part m_partMany g_wasMany g_wasLoss g_wasValue g_wasNumber g_path m_pathMany g_heavyValue g_heavyTimes u.1 g_fewest g_which g_met m_mostMet, kx_a g_heavyValue cyI 160 u.2.1, kx_a g_heavyTimes cyI 160 u.2.2] t.heap ∧ va_K (dC, dI) vwCl [(cyI, .int)] t ∧ va_D A [kx_5 h0 g_row m_n m_slots m_thrown g_many g_loss g_less g_voteValue g_voteNumber g_allValue g_allNumber m_allMany g_nodeL g_nodeR m_nodes g_part m_partMany g_wasMany g_wasLoss g_wasValue g_wasNumber g_path m_pathMany g_heavyValue g_heavyTimes u.1 g_fewest g_which g_met m_mostMet, kx_a g_heavyValue cyI 160 u.2.1, kx_a g_heavyTimes cyI 160 u.2.2]) A) ([.ref h0, .int p0, .int p1] : List Value).toArray s 0 0 A) (F0 m 5 ls []) := by
    intro n
    induction n with
    | zero => intro at9 jv jt LP1_h0 LP1_h1 hn; exact absurd hn (Nat.not_lt_zero _)
    | succ n ih1 =>
      intro at9 jv jt LP1_h0 LP1_h1 hn1 H locs hP hD hS ls hl
      refine lv_iload_n hx hb dX5_comes_5 rfl (lv_at hl 0 rfl) ?_
      refine lv_if_le (tgt := 79) hx hb dX5_comes_6 (by decide) (fun c_1 => ?_) (fun c_1 => ?_)
      · have i_1 : at9.toInt ≤ 0 := kc_le c_1
        refine lv_aload_n hx hb dX5_comes_79 rfl (lv_at hl 1 rfl) ?_
        refine va_get (D := (dC, dI)) (ci := 5) (v := .ref g_heavyValue) (C := RX5) (T := TX5) (N := 30) hx hb hts hi_5 hown hK hP 0 rfl rfl 23 (by decide) hf_62 (fun _ h9 => h9) rfl dX5_comes_80 ?_
        refine lv_iload_n hx hb dX5_comes_83 rfl (lv_at hl 0 rfl) ?_
        refine lv_iload_n hx hb dX5_comes_84 rfl (lv_at hl 2 rfl) ?_
        refine va_iast hx hb hK hP hD hS 1 0 rfl rfl (ki_in (om_10 LP1_h0) (om_400 i_1)) dX5_comes_85 (fun H locs hP hD hS => ?_)
        obtain ⟨hP, hD⟩ := kx_re (w2 := [kx_5 h0 g_row m_n m_slots m_thrown g_many g_loss g_less g_voteValue g_voteNumber g_allValue g_allNumber m_allMany g_nodeL g_nodeR m_nodes g_part m_partMany g_wasMany g_wasLoss g_wasValue g_wasNumber g_path m_pathMany g_heavyValue g_heavyTimes m_heavyMany g_fewest g_which g_met m_mostMet, kx_a g_heavyValue cyI 160 (upd jv at9.toNatClampNeg p0), kx_a g_heavyTimes cyI 160 jt]) hP hD rfl
        refine lv_aload_n hx hb dX5_comes_86 rfl (lv_at hl 1 rfl) ?_
        refine va_get (D := (dC, dI)) (ci := 5) (v := .ref g_heavyTimes) (C := RX5) (T := TX5) (N := 30) hx hb hts hi_5 hown hK hP 0 rfl rfl 24 (by decide) hf_65 (fun _ h9 => h9) rfl dX5_comes_87 ?_
        refine lv_iload_n hx hb dX5_comes_90 rfl (lv_at hl 0 rfl) ?_
        refine lv_iload_n hx hb dX5_comes_91 rfl (lv_at hl 3 rfl) ?_
        refine va_iast hx hb hK hP hD hS 2 0 rfl rfl (ki_in (om_10 LP1_h0) (om_400 i_1)) dX5_comes_92 (fun H locs hP hD hS => ?_)
        obtain ⟨hP, hD⟩ := kx_re (w2 := [kx_5 h0 g_row m_n m_slots m_thrown g_many g_loss g_less g_voteValue g_voteNumber g_allValue g_allNumber m_allMany g_nodeL g_nodeR m_nodes g_part m_partMany g_wasMany g_wasLoss g_wasValue g_wasNumber g_path m_pathMany g_heavyValue g_heavyTimes m_heavyMany g_fewest g_which g_met m_mostMet, kx_a g_heavyValue cyI 160 (upd jv at9.toNatClampNeg p0), kx_a g_heavyTimes cyI 160 (upd jt at9.toNatClampNeg p1)]) hP hD rfl
        refine lv_aload_n hx hb dX5_comes_93 rfl (lv_at hl 1 rfl) ?_
        refine lv_dup hx hb dX5_comes_94 rfl ?_
        refine va_get (D := (dC, dI)) (ci := 5) (v := .int m_heavyMany) (C := RX5) (T := TX5) (N := 30) hx hb hts hi_5 hown hK hP 0 rfl rfl 25 (by decide) hf_178 (fun _ h9 => h9) rfl dX5_comes_95 ?_
        refine lv_iconst (v := 1) hx hb dX5_comes_98 (by decide) ?_
        refine lv_iadd hx hb dX5_comes_99 ?_
        refine lv_topi (fun y_2 ey_2 => ?_)
        have i_2 : y_2.toInt = m_heavyMany.toInt + 1 := ki_add ey_2 rfl rfl (om_13 b0) (om_14 b1)
        refine va_put (D := (dC, dI)) (ci := 5) (v := .int y_2) (ty := .int) (C := RX5) (T := TX5) (N := 30) hx hb hts hi_5 tyX5 tyX5_ok nmX5 hown hK hP hD hS 0 rfl rfl 25 (by decide) hf_178 (fun _ h9 => h9) rfl (by decide +kernel) rfl rfl (Nat.le_of_ble_eq_true rfl) dX5_comes_100 (fun H locs hP hD hS => ?_)
        obtain ⟨hP, hD⟩ := kx_re (w2 := [kx_5 h0 g_row m_n m_slots m_thrown g_many g_loss g_less g_voteValue g_voteNumber g_allValue g_allNumber m_allMany g_nodeL g_nodeR m_nodes g_part m_partMany g_wasMany g_wasLoss g_wasValue g_wasNumber g_path m_pathMany g_heavyValue g_heavyTimes y_2 g_fewest g_which g_met m_mostMet, kx_a g_heavyValue cyI 160 (upd jv at9.toNatClampNeg p0), kx_a g_heavyTimes cyI 160 (upd jt at9.toNatClampNeg p1)]) hP hD rfl
        have hP9 := hP
        have hD9 := hD
        have hK9 := hK
        exact W.vret hx hb hr (hlocks := hlocks) (fun t ht hW => ⟨⟨(y_2, (upd jv at9.toNatClampNeg p0), (upd jt at9.toNatClampNeg p1)), rfl, (by (try dsimp only); omega), by rw [ht]; exact hP9, va_K.moved hW.alike hK9, hD9⟩, hS.F ht⟩) hS.2.2 dX5_comes_103
      · have i_1 : 0 < at9.toInt := kc_nle c_1
        refine lv_aload_n hx hb dX5_comes_9 rfl (lv_at hl 1 rfl) ?_
        refine va_get (D := (dC, dI)) (ci := 5) (v := .ref g_heavyTimes) (C := RX5) (T := TX5) (N := 30) hx hb hts hi_5 hown hK hP 0 rfl rfl 24 (by decide) hf_65 (fun _ h9 => h9) rfl dX5_comes_10 ?_
        refine lv_iload_n hx hb dX5_comes_13 rfl (lv_at hl 0 rfl) ?_
        refine lv_iconst (v := 1) hx hb dX5_comes_14 (by decide) ?_
        refine lv_isub hx hb dX5_comes_15 ?_
        refine lv_topi (fun y_3 ey_3 => ?_)
        have i_3 : y_3.toInt = at9.toInt - 1 := ki_sub ey_3 rfl rfl (om_42 i_1) (om_18 b1 LP1_h1)
        refine va_iald hx hb hK hP 2 0 rfl rfl (ki_in (om_45 i_1 i_3) (om_20 b1 LP1_h1 i_3)) dX5_comes_16 ?_
        refine lv_topi (fun y_4 ey_4 => ?_)
        have j_4 : y_4.toInt = (jt y_3.toNatClampNeg).toInt := congrArg Int32.toInt ey_4
        refine lv_iload_n hx hb dX5_comes_17 rfl (lv_at hl 3 rfl) ?_
        refine lv_icmp_lt (tgt := 45) hx hb dX5_comes_18 (by decide) (fun c_5 => ?_) (fun c_5 => ?_)
        · have i_5 : y_4.toInt < p1.toInt := kc_lt c_5
          refine lv_aload_n hx hb dX5_comes_45 rfl (lv_at hl 1 rfl) ?_
          refine va_get (D := (dC, dI)) (ci := 5) (v := .ref g_heavyValue) (C := RX5) (T := TX5) (N := 30) hx hb hts hi_5 hown hK hP 0 rfl rfl 23 (by decide) hf_62 (fun _ h9 => h9) rfl dX5_comes_46 ?_
          refine lv_iload_n hx hb dX5_comes_49 rfl (lv_at hl 0 rfl) ?_
          refine lv_aload_n hx hb dX5_comes_50 rfl (lv_at hl 1 rfl) ?_
          refine va_get (D := (dC, dI)) (ci := 5) (v := .ref g_heavyValue) (C := RX5) (T := TX5) (N := 30) hx hb hts hi_5 hown hK hP 0 rfl rfl 23 (by decide) hf_62 (fun _ h9 => h9) rfl dX5_comes_51 ?_
          refine lv_iload_n hx hb dX5_comes_54 rfl (lv_at hl 0 rfl) ?_
          refine lv_iconst (v := 1) hx hb dX5_comes_55 (by decide) ?_
          refine lv_isub hx hb dX5_comes_56 ?_
          refine lv_topi (fun y_6 ey_6 => ?_)
          have i_6 : y_6.toInt = at9.toInt - 1 := ki_sub ey_6 rfl rfl (om_42 i_1) (om_18 b1 LP1_h1)
          refine va_iald hx hb hK hP 1 0 rfl rfl (ki_in (om_45 i_1 i_6) (om_20 b1 LP1_h1 i_6)) dX5_comes_57 ?_
          refine lv_topi (fun y_7 ey_7 => ?_)
          have j_7 : y_7.toInt = (jv y_6.toNatClampNeg).toInt := congrArg Int32.toInt ey_7
          refine va_iast hx hb hK hP hD hS 1 0 rfl rfl (ki_in (om_365 i_1) (om_22 b1 LP1_h1)) dX5_comes_58 (fun H locs hP hD hS => ?_)
          obtain ⟨hP, hD⟩ := kx_re (w2 := [kx_5 h0 g_row m_n m_slots m_thrown g_many g_loss g_less g_voteValue g_voteNumber g_allValue g_allNumber m_allMany g_nodeL g_nodeR m_nodes g_part m_partMany g_wasMany g_wasLoss g_wasValue g_wasNumber g_path m_pathMany g_heavyValue g_heavyTimes m_heavyMany g_fewest g_which g_met m_mostMet, kx_a g_heavyValue cyI 160 (upd jv at9.toNatClampNeg y_7), kx_a g_heavyTimes cyI 160 jt]) hP hD rfl
          refine lv_aload_n hx hb dX5_comes_59 rfl (lv_at hl 1 rfl) ?_
          refine va_get (D := (dC, dI)) (ci := 5) (v := .ref g_heavyTimes) (C := RX5) (T := TX5) (N := 30) hx hb hts hi_5 hown hK hP 0 rfl rfl 24 (by decide) hf_65 (fun _ h9 => h9) rfl dX5_comes_60 ?_
          refine lv_iload_n hx hb dX5_comes_63 rfl (lv_at hl 0 rfl) ?_
          refine lv_aload_n hx hb dX5_comes_64 rfl (lv_at hl 1 rfl) ?_
          refine va_get (D := (dC, dI)) (ci := 5) (v := .ref g_heavyTimes) (C := RX5) (T := TX5) (N := 30) hx hb hts hi_5 hown hK hP 0 rfl rfl 24 (by decide) hf_65 (fun _ h9 => h9) rfl dX5_comes_65 ?_
          refine lv_iload_n hx hb dX5_comes_68 rfl (lv_at hl 0 rfl) ?_
          refine lv_iconst (v := 1) hx hb dX5_comes_69 (by decide) ?_
          refine lv_isub hx hb dX5_comes_70 ?_
          refine lv_topi (fun y_8 ey_8 => ?_)
          have i_8 : y_8.toInt = at9.toInt - 1 := ki_sub ey_8 rfl rfl (om_42 i_1) (om_18 b1 LP1_h1)
          refine va_iald hx hb hK hP 2 0 rfl rfl (ki_in (om_45 i_1 i_8) (om_20 b1 LP1_h1 i_8)) dX5_comes_71 ?_
          refine lv_topi (fun y_9 ey_9 => ?_)
          have j_9 : y_9.toInt = (jt y_8.toNatClampNeg).toInt := congrArg Int32.toInt ey_9
          refine va_iast hx hb hK hP hD hS 2 0 rfl rfl (ki_in (om_365 i_1) (om_22 b1 LP1_h1)) dX5_comes_72 (fun H locs hP hD hS => ?_)
          obtain ⟨hP, hD⟩ := kx_re (w2 := [kx_5 h0 g_row m_n m_slots m_thrown g_many g_loss g_less g_voteValue g_voteNumber g_allValue g_allNumber m_allMany g_nodeL g_nodeR m_nodes g_part m_partMany g_wasMany g_wasLoss g_wasValue g_wasNumber g_path m_pathMany g_heavyValue g_heavyTimes m_heavyMany g_fewest g_which g_met m_mostMet, kx_a g_heavyValue cyI 160 (upd jv at9.toNatClampNeg y_7), kx_a g_heavyTimes cyI 160 (upd jt at9.toNatClampNeg y_9)]) hP hD rfl
          obtain ⟨x_10, ex_10⟩ : ∃ y : Int32, y = at9 + (-1) := ⟨_, rfl⟩
          have i_10 : x_10.toInt = at9.toInt + (-1) := ki_add ex_10 rfl rfl (om_47 i_1) (om_24 b1 LP1_h1)
          refine lv_iinc (v := x_10) (lv' := [(3, .int x_10), (0, .ref h0), (1, .int p0), (2, .int p1)]) hx hb dX5_comes_73 hl (k := 0) rfl (by rw [ex_10]; rfl) (by decide) rfl (fun ls hl => ?_)
          refine lv_goto (tgt := 5) hx hb dX5_comes_76 (by decide) ?_
          exact ih1 x_10 (upd jv at9.toNatClampNeg y_7) (upd jt at9.toNatClampNeg y_9) (om_49 i_1 i_10) (om_26 LP1_h1 i_10) (om_mu hn1 (om_27 i_10) (om_50 i_1)) _ _ hP hD hS ls (lv_sub hl [0, 1, 2, 3] rfl)
        · have i_5 : p1.toInt ≤ y_4.toInt := kc_nlt c_5
          refine lv_aload_n hx hb dX5_comes_21 rfl (lv_at hl 1 rfl) ?_
          refine va_get (D := (dC, dI)) (ci := 5) (v := .ref g_heavyTimes) (C := RX5) (T := TX5) (N := 30) hx hb hts hi_5 hown hK hP 0 rfl rfl 24 (by decide) hf_65 (fun _ h9 => h9) rfl dX5_comes_22 ?_
          refine lv_iload_n hx hb dX5_comes_25 rfl (lv_at hl 0 rfl) ?_
          refine lv_iconst (v := 1) hx hb dX5_comes_26 (by decide) ?_
          refine lv_isub hx hb dX5_comes_27 ?_
          refine lv_topi (fun y_11 ey_11 => ?_)
          have i_11 : y_11.toInt = at9.toInt - 1 := ki_sub ey_11 rfl rfl (om_42 i_1) (om_18 b1 LP1_h1)
          refine va_iald hx hb hK hP 2 0 rfl rfl (ki_in (om_45 i_1 i_11) (om_20 b1 LP1_h1 i_11)) dX5_comes_28 ?_
          refine lv_topi (fun y_12 ey_12 => ?_)
          have j_12 : y_12.toInt = (jt y_11.toNatClampNeg).toInt := congrArg Int32.toInt ey_12
          refine lv_iload_n hx hb dX5_comes_29 rfl (lv_at hl 3 rfl) ?_
          refine lv_icmp_ne (tgt := 79) hx hb dX5_comes_30 (by decide) (fun c_13 => ?_) (fun c_13 => ?_)
          · have i_13 : ¬ y_12.toInt = p1.toInt := kc_ne c_13
            refine lv_aload_n hx hb dX5_comes_79 rfl (lv_at hl 1 rfl) ?_
            refine va_get (D := (dC, dI)) (ci := 5) (v := .ref g_heavyValue) (C := RX5) (T := TX5) (N := 30) hx hb hts hi_5 hown hK hP 0 rfl rfl 23 (by decide) hf_62 (fun _ h9 => h9) rfl dX5_comes_80 ?_
            refine lv_iload_n hx hb dX5_comes_83 rfl (lv_at hl 0 rfl) ?_
            refine lv_iload_n hx hb dX5_comes_84 rfl (lv_at hl 2 rfl) ?_
            refine va_iast hx hb hK hP hD hS 1 0 rfl rfl (ki_in (om_365 i_1) (om_22 b1 LP1_h1)) dX5_comes_85 (fun H locs hP hD hS => ?_)
            obtain ⟨hP, hD⟩ := kx_re (w2 := [kx_5 h0 g_row m_n m_slots m_thrown g_many g_loss g_less g_voteValue g_voteNumber g_allValue g_allNumber m_allMany g_nodeL g_nodeR m_nodes g_part m_partMany g_wasMany g_wasLoss g_wasValue g_wasNumber g_path m_pathMany g_heavyValue g_heavyTimes m_heavyMany g_fewest g_which g_met m_mostMet, kx_a g_heavyValue cyI 160 (upd jv at9.toNatClampNeg p0), kx_a g_heavyTimes cyI 160 jt]) hP hD rfl
            refine lv_aload_n hx hb dX5_comes_86 rfl (lv_at hl 1 rfl) ?_
            refine va_get (D := (dC, dI)) (ci := 5) (v := .ref g_heavyTimes) (C := RX5) (T := TX5) (N := 30) hx hb hts hi_5 hown hK hP 0 rfl rfl 24 (by decide) hf_65 (fun _ h9 => h9) rfl dX5_comes_87 ?_
            refine lv_iload_n hx hb dX5_comes_90 rfl (lv_at hl 0 rfl) ?_
            refine lv_iload_n hx hb dX5_comes_91 rfl (lv_at hl 3 rfl) ?_
            refine va_iast hx hb hK hP hD hS 2 0 rfl rfl (ki_in (om_365 i_1) (om_22 b1 LP1_h1)) dX5_comes_92 (fun H locs hP hD hS => ?_)
            obtain ⟨hP, hD⟩ := kx_re (w2 := [kx_5 h0 g_row m_n m_slots m_thrown g_many g_loss g_less g_voteValue g_voteNumber g_allValue g_allNumber m_allMany g_nodeL g_nodeR m_nodes g_part m_partMany g_wasMany g_wasLoss g_wasValue g_wasNumber g_path m_pathMany g_heavyValue g_heavyTimes m_heavyMany g_fewest g_which g_met m_mostMet, kx_a g_heavyValue cyI 160 (upd jv at9.toNatClampNeg p0), kx_a g_heavyTimes cyI 160 (upd jt at9.toNatClampNeg p1)]) hP hD rfl
            refine lv_aload_n hx hb dX5_comes_93 rfl (lv_at hl 1 rfl) ?_
            refine lv_dup hx hb dX5_comes_94 rfl ?_
            refine va_get (D := (dC, dI)) (ci := 5) (v := .int m_heavyMany) (C := RX5) (T := TX5) (N := 30) hx hb hts hi_5 hown hK hP 0 rfl rfl 25 (by decide) hf_178 (fun _ h9 => h9) rfl dX5_comes_95 ?_
            refine lv_iconst (v := 1) hx hb dX5_comes_98 (by decide) ?_
            refine lv_iadd hx hb dX5_comes_99 ?_
            refine lv_topi (fun y_14 ey_14 => ?_)
            have i_14 : y_14.toInt = m_heavyMany.toInt + 1 := ki_add ey_14 rfl rfl (om_13 b0) (om_14 b1)
            refine va_put (D := (dC, dI)) (ci := 5) (v := .int y_14) (ty := .int) (C := RX5) (T := TX5) (N := 30) hx hb hts hi_5 tyX5 tyX5_ok nmX5 hown hK hP hD hS 0 rfl rfl 25 (by decide) hf_178 (fun _ h9 => h9) rfl (by decide +kernel) rfl rfl (Nat.le_of_ble_eq_true rfl) dX5_comes_100 (fun H locs hP hD hS => ?_)
            obtain ⟨hP, hD⟩ := kx_re (w2 := [kx_5 h0 g_row m_n m_slots m_thrown g_many g_loss g_less g_voteValue g_voteNumber g_allValue g_allNumber m_allMany g_nodeL g_nodeR m_nodes g_part m_partMany g_wasMany g_wasLoss g_wasValue g_wasNumber g_path m_pathMany g_heavyValue g_heavyTimes y_14 g_fewest g_which g_met m_mostMet, kx_a g_heavyValue cyI 160 (upd jv at9.toNatClampNeg p0), kx_a g_heavyTimes cyI 160 (upd jt at9.toNatClampNeg p1)]) hP hD rfl
            have hP9 := hP
            have hD9 := hD
            have hK9 := hK
            exact W.vret hx hb hr (hlocks := hlocks) (fun t ht hW => ⟨⟨(y_14, (upd jv at9.toNatClampNeg p0), (upd jt at9.toNatClampNeg p1)), rfl, (by (try dsimp only); omega), by rw [ht]; exact hP9, va_K.moved hW.alike hK9, hD9⟩, hS.F ht⟩) hS.2.2 dX5_comes_103
          · have i_13 : y_12.toInt = p1.toInt := kc_eq c_13
            refine lv_aload_n hx hb dX5_comes_33 rfl (lv_at hl 1 rfl) ?_
            refine va_get (D := (dC, dI)) (ci := 5) (v := .ref g_heavyValue) (C := RX5) (T := TX5) (N := 30) hx hb hts hi_5 hown hK hP 0 rfl rfl 23 (by decide) hf_62 (fun _ h9 => h9) rfl dX5_comes_34 ?_
            refine lv_iload_n hx hb dX5_comes_37 rfl (lv_at hl 0 rfl) ?_
            refine lv_iconst (v := 1) hx hb dX5_comes_38 (by decide) ?_
            refine lv_isub hx hb dX5_comes_39 ?_
            refine lv_topi (fun y_15 ey_15 => ?_)
            have i_15 : y_15.toInt = at9.toInt - 1 := ki_sub ey_15 rfl rfl (om_42 i_1) (om_18 b1 LP1_h1)
            refine va_iald hx hb hK hP 1 0 rfl rfl (ki_in (om_45 i_1 i_15) (om_20 b1 LP1_h1 i_15)) dX5_comes_40 ?_
            refine lv_topi (fun y_16 ey_16 => ?_)
            have j_16 : y_16.toInt = (jv y_15.toNatClampNeg).toInt := congrArg Int32.toInt ey_16
            refine lv_iload_n hx hb dX5_comes_41 rfl (lv_at hl 2 rfl) ?_
            refine lv_icmp_le (tgt := 79) hx hb dX5_comes_42 (by decide) (fun c_17 => ?_) (fun c_17 => ?_)
            · have i_17 : y_16.toInt ≤ p0.toInt := kc_le c_17
              refine lv_aload_n hx hb dX5_comes_79 rfl (lv_at hl 1 rfl) ?_
              refine va_get (D := (dC, dI)) (ci := 5) (v := .ref g_heavyValue) (C := RX5) (T := TX5) (N := 30) hx hb hts hi_5 hown hK hP 0 rfl rfl 23 (by decide) hf_62 (fun _ h9 => h9) rfl dX5_comes_80 ?_
              refine lv_iload_n hx hb dX5_comes_83 rfl (lv_at hl 0 rfl) ?_
              refine lv_iload_n hx hb dX5_comes_84 rfl (lv_at hl 2 rfl) ?_
              refine va_iast hx hb hK hP hD hS 1 0 rfl rfl (ki_in (om_365 i_1) (om_22 b1 LP1_h1)) dX5_comes_85 (fun H locs hP hD hS => ?_)
              obtain ⟨hP, hD⟩ := kx_re (w2 := [kx_5 h0 g_row m_n m_slots m_thrown g_many g_loss g_less g_voteValue g_voteNumber g_allValue g_allNumber m_allMany g_nodeL g_nodeR m_nodes g_part m_partMany g_wasMany g_wasLoss g_wasValue g_wasNumber g_path m_pathMany g_heavyValue g_heavyTimes m_heavyMany g_fewest g_which g_met m_mostMet, kx_a g_heavyValue cyI 160 (upd jv at9.toNatClampNeg p0), kx_a g_heavyTimes cyI 160 jt]) hP hD rfl
              refine lv_aload_n hx hb dX5_comes_86 rfl (lv_at hl 1 rfl) ?_
              refine va_get (D := (dC, dI)) (ci := 5) (v := .ref g_heavyTimes) (C := RX5) (T := TX5) (N := 30) hx hb hts hi_5 hown hK hP 0 rfl rfl 24 (by decide) hf_65 (fun _ h9 => h9) rfl dX5_comes_87 ?_
              refine lv_iload_n hx hb dX5_comes_90 rfl (lv_at hl 0 rfl) ?_
              refine lv_iload_n hx hb dX5_comes_91 rfl (lv_at hl 3 rfl) ?_
              refine va_iast hx hb hK hP hD hS 2 0 rfl rfl (ki_in (om_365 i_1) (om_22 b1 LP1_h1)) dX5_comes_92 (fun H locs hP hD hS => ?_)
              obtain ⟨hP, hD⟩ := kx_re (w2 := [kx_5 h0 g_row m_n m_slots m_thrown g_many g_loss g_less g_voteValue g_voteNumber g_allValue g_allNumber m_allMany g_nodeL g_nodeR m_nodes g_part m_partMany g_wasMany g_wasLoss g_wasValue g_wasNumber g_path m_pathMany g_heavyValue g_heavyTimes m_heavyMany g_fewest g_which g_met m_mostMet, kx_a g_heavyValue cyI 160 (upd jv at9.toNatClampNeg p0), kx_a g_heavyTimes cyI 160 (upd jt at9.toNatClampNeg p1)]) hP hD rfl
              refine lv_aload_n hx hb dX5_comes_93 rfl (lv_at hl 1 rfl) ?_
              refine lv_dup hx hb dX5_comes_94 rfl ?_
              refine va_get (D := (dC, dI)) (ci := 5) (v := .int m_heavyMany) (C := RX5) (T := TX5) (N := 30) hx hb hts hi_5 hown hK hP 0 rfl rfl 25 (by decide) hf_178 (fun _ h9 => h9) rfl dX5_comes_95 ?_
              refine lv_iconst (v := 1) hx hb dX5_comes_98 (by decide) ?_
              refine lv_iadd hx hb dX5_comes_99 ?_
              refine lv_topi (fun y_18 ey_18 => ?_)
              have i_18 : y_18.toInt = m_heavyMany.toInt + 1 := ki_add ey_18 rfl rfl (om_13 b0) (om_14 b1)
              refine va_put (D := (dC, dI)) (ci := 5) (v := .int y_18) (ty := .int) (C := RX5) (T := TX5) (N := 30) hx hb hts hi_5 tyX5 tyX5_ok nmX5 hown hK hP hD hS 0 rfl rfl 25 (by decide) hf_178 (fun _ h9 => h9) rfl (by decide +kernel) rfl rfl (Nat.le_of_ble_eq_true rfl) dX5_comes_100 (fun H locs hP hD hS => ?_)
              obtain ⟨hP, hD⟩ := kx_re (w2 := [kx_5 h0 g_row m_n m_slots m_thrown g_many g_loss g_less g_voteValue g_voteNumber g_allValue g_allNumber m_allMany g_nodeL g_nodeR m_nodes g_part m_partMany g_wasMany g_wasLoss g_wasValue g_wasNumber g_path m_pathMany g_heavyValue g_heavyTimes y_18 g_fewest g_which g_met m_mostMet, kx_a g_heavyValue cyI 160 (upd jv at9.toNatClampNeg p0), kx_a g_heavyTimes cyI 160 (upd jt at9.toNatClampNeg p1)]) hP hD rfl
              have hP9 := hP
              have hD9 := hD
              have hK9 := hK
              exact W.vret hx hb hr (hlocks := hlocks) (fun t ht hW => ⟨⟨(y_18, (upd jv at9.toNatClampNeg p0), (upd jt at9.toNatClampNeg p1)), rfl, (by (try dsimp only); omega), by rw [ht]; exact hP9, va_K.moved hW.alike hK9, hD9⟩, hS.F ht⟩) hS.2.2 dX5_comes_103
            · have i_17 : p0.toInt < y_16.toInt := kc_nle c_17
              refine lv_aload_n hx hb dX5_comes_45 rfl (lv_at hl 1 rfl) ?_
              refine va_get (D := (dC, dI)) (ci := 5) (v := .ref g_heavyValue) (C := RX5) (T := TX5) (N := 30) hx hb hts hi_5 hown hK hP 0 rfl rfl 23 (by decide) hf_62 (fun _ h9 => h9) rfl dX5_comes_46 ?_
              refine lv_iload_n hx hb dX5_comes_49 rfl (lv_at hl 0 rfl) ?_
              refine lv_aload_n hx hb dX5_comes_50 rfl (lv_at hl 1 rfl) ?_
              refine va_get (D := (dC, dI)) (ci := 5) (v := .ref g_heavyValue) (C := RX5) (T := TX5) (N := 30) hx hb hts hi_5 hown hK hP 0 rfl rfl 23 (by decide) hf_62 (fun _ h9 => h9) rfl dX5_comes_51 ?_
              refine lv_iload_n hx hb dX5_comes_54 rfl (lv_at hl 0 rfl) ?_
              refine lv_iconst (v := 1) hx hb dX5_comes_55 (by decide) ?_
              refine lv_isub hx hb dX5_comes_56 ?_
              refine lv_topi (fun y_19 ey_19 => ?_)
              have i_19 : y_19.toInt = at9.toInt - 1 := ki_sub ey_19 rfl rfl (om_42 i_1) (om_18 b1 LP1_h1)
              refine va_iald hx hb hK hP 1 0 rfl rfl (ki_in (om_45 i_1 i_19) (om_20 b1 LP1_h1 i_19)) dX5_comes_57 ?_
              refine lv_topi (fun y_20 ey_20 => ?_)
              have j_20 : y_20.toInt = (jv y_19.toNatClampNeg).toInt := congrArg Int32.toInt ey_20
              refine va_iast hx hb hK hP hD hS 1 0 rfl rfl (ki_in (om_365 i_1) (om_22 b1 LP1_h1)) dX5_comes_58 (fun H locs hP hD hS => ?_)
              obtain ⟨hP, hD⟩ := kx_re (w2 := [kx_5 h0 g_row m_n m_slots m_thrown g_many g_loss g_less g_voteValue g_voteNumber g_allValue g_allNumber m_allMany g_nodeL g_nodeR m_nodes g_part m_partMany g_wasMany g_wasLoss g_wasValue g_wasNumber g_path m_pathMany g_heavyValue g_heavyTimes m_heavyMany g_fewest g_which g_met m_mostMet, kx_a g_heavyValue cyI 160 (upd jv at9.toNatClampNeg y_20), kx_a g_heavyTimes cyI 160 jt]) hP hD rfl
              refine lv_aload_n hx hb dX5_comes_59 rfl (lv_at hl 1 rfl) ?_
              refine va_get (D := (dC, dI)) (ci := 5) (v := .ref g_heavyTimes) (C := RX5) (T := TX5) (N := 30) hx hb hts hi_5 hown hK hP 0 rfl rfl 24 (by decide) hf_65 (fun _ h9 => h9) rfl dX5_comes_60 ?_
              refine lv_iload_n hx hb dX5_comes_63 rfl (lv_at hl 0 rfl) ?_
              refine lv_aload_n hx hb dX5_comes_64 rfl (lv_at hl 1 rfl) ?_
              refine va_get (D := (dC, dI)) (ci := 5) (v := .ref g_heavyTimes) (C := RX5) (T := TX5) (N := 30) hx hb hts hi_5 hown hK hP 0 rfl rfl 24 (by decide) hf_65 (fun _ h9 => h9) rfl dX5_comes_65 ?_
              refine lv_iload_n hx hb dX5_comes_68 rfl (lv_at hl 0 rfl) ?_
              refine lv_iconst (v := 1) hx hb dX5_comes_69 (by decide) ?_
              refine lv_isub hx hb dX5_comes_70 ?_
              refine lv_topi (fun y_21 ey_21 => ?_)
              have i_21 : y_21.toInt = at9.toInt - 1 := ki_sub ey_21 rfl rfl (om_42 i_1) (om_18 b1 LP1_h1)
              refine va_iald hx hb hK hP 2 0 rfl rfl (ki_in (om_45 i_1 i_21) (om_20 b1 LP1_h1 i_21)) dX5_comes_71 ?_
              refine lv_topi (fun y_22 ey_22 => ?_)
              have j_22 : y_22.toInt = (jt y_21.toNatClampNeg).toInt := congrArg Int32.toInt ey_22
              refine va_iast hx hb hK hP hD hS 2 0 rfl rfl (ki_in (om_365 i_1) (om_22 b1 LP1_h1)) dX5_comes_72 (fun H locs hP hD hS => ?_)
              obtain ⟨hP, hD⟩ := kx_re (w2 := [kx_5 h0 g_row m_n m_slots m_thrown g_many g_loss g_less g_voteValue g_voteNumber g_allValue g_allNumber m_allMany g_nodeL g_nodeR m_nodes g_part m_partMany g_wasMany g_wasLoss g_wasValue g_wasNumber g_path m_pathMany g_heavyValue g_heavyTimes m_heavyMany g_fewest g_which g_met m_mostMet, kx_a g_heavyValue cyI 160 (upd jv at9.toNatClampNeg y_20), kx_a g_heavyTimes cyI 160 (upd jt at9.toNatClampNeg y_22)]) hP hD rfl
              obtain ⟨x_23, ex_23⟩ : ∃ y : Int32, y = at9 + (-1) := ⟨_, rfl⟩
              have i_23 : x_23.toInt = at9.toInt + (-1) := ki_add ex_23 rfl rfl (om_47 i_1) (om_24 b1 LP1_h1)
              refine lv_iinc (v := x_23) (lv' := [(3, .int x_23), (0, .ref h0), (1, .int p0), (2, .int p1)]) hx hb dX5_comes_73 hl (k := 0) rfl (by rw [ex_23]; rfl) (by decide) rfl (fun ls hl => ?_)
              refine lv_goto (tgt := 5) hx hb dX5_comes_76 (by decide) ?_
              exact ih1 x_23 (upd jv at9.toNatClampNeg y_20) (upd jt at9.toNatClampNeg y_22) (om_49 i_1 i_23) (om_26 LP1_h1 i_23) (om_mu hn1 (om_27 i_23) (om_50 i_1)) _ _ hP hD hS ls (lv_sub hl [0, 1, 2, 3] rfl)
  exact LP1 ((m_heavyMany.toInt : Int).toNat + 1) m_heavyMany zv zt (om_10 b0) om_7 (Nat.lt_succ_self _) _ _ hP hD hS ls (lv_sub hl [0, 1, 2, 3] rfl)

set_option maxHeartbeats 4000000 in
set_option maxRecDepth 100000 in
theorem c_X5_laysHeavy (l : Launch) (dC : Nat → ClassId) (dI : Nat → Nat → Nat) (h0 : Nat) (g_row : Nat) (g_many : Nat) (g_loss : Nat) (g_less : Nat) (g_voteValue : Nat) (g_voteNumber : Nat) (g_allValue : Nat) (g_allNumber : Nat) (g_nodeL : Nat) (g_nodeR : Nat) (g_part : Nat) (g_wasMany : Nat) (g_wasLoss : Nat) (g_wasValue : Nat) (g_wasNumber : Nat) (g_path : Nat) (g_heavyValue : Nat) (g_heavyTimes : Nat) (g_fewest : Nat) (g_which : Nat) (g_met : Nat) (m_n : Int32) (m_slots : Int32) (m_thrown : Int32) (m_allMany : Int32) (m_nodes : Int32) (m_partMany : Int32) (m_pathMany : Int32) (m_heavyMany : Int32) (m_mostMet : Int32) (cyI : ClassId) (f : Nat → Int32) (zv : Nat → Int32) (zt : Nat → Int32) (p0 : Int32) (p1 : Int32) (p2 : Int32) (p3 : Int32) (p4 : Int32) (p5 : Int32) (sz : Nat) (b0 : 0 ≤ p0.toInt) (b1 : p0.toInt ≤ p1.toInt) (b2 : p1.toInt ≤ 160) (b3 : 0 ≤ p2.toInt) (b4 : p2.toInt ≤ p3.toInt) (b5 : p3.toInt ≤ 160) (b6 : p1.toInt - p0.toInt + p3.toInt - p2.toInt ≤ 160) : kx_MQ l (dC, dI) yX5_laysHeavy wsX5_laysHeavy ({ frames := 1, cells := 0, slots := 0, locals := 45 }) [.ref h0, .int p0, .int p1, .int p2, .int p3, .int p4, .int p5] [kx_5 h0 g_row m_n m_slots m_thrown g_many g_loss g_less g_voteValue g_voteNumber g_allValue g_allNumber m_allMany g_nodeL g_nodeR m_nodes g_part m_partMany g_wasMany g_wasLoss g_wasValue g_wasNumber g_path m_pathMany g_heavyValue g_heavyTimes m_heavyMany g_fewest g_which g_met m_mostMet, kx_a g_row cyI 160 f, kx_a g_heavyValue cyI 160 zv, kx_a g_heavyTimes cyI 160 zt] [(cyI, .int)] sz (fun A => va_Qv (fun u : Int32 × (Nat → Int32) × (Nat → Int32) => 0 ≤ u.1.toInt ∧ u.1.toInt ≤ 160) (fun (u : Int32 × (Nat → Int32) × (Nat → Int32)) (t : State) => va_P (dC, dI) vwCl [kx_5 h0 g_row m_n m_slots m_thrown g_many g_loss g_less g_voteValue g_voteNumber g_allValue g_allNumber m_allMany g_nodeL g_nodeR m_nodes g_part m_partMany g_wasMany g_wasLoss g_wasValue g_wasNumber g_path m_pathMany g_heavyValue g_heavyTimes u.1 g_fewest g_which g_met m_mostMet, kx_a g_row cyI 160 f, kx_a g_heavyValue cyI 160 u.2.1, kx_a g_heavyTimes cyI 160 u.2.2] t.heap ∧ va_K (dC, dI) vwCl [(cyI, .int)] t ∧ va_D A [kx_5 h0 g_row m_n m_slots m_thrown g_many g_loss g_less g_voteValue g_voteNumber g_allValue g_allNumber m_allMany g_nodeL g_nodeR m_nodes g_part m_partMany g_wasMany g_wasLoss g_wasValue g_wasNumber g_path m_pathMany g_heavyValue g_heavyTimes u.1 g_fewest g_which g_met m_mostMet, kx_a g_row cyI 160 f, kx_a g_heavyValue cyI 160 u.2.1, kx_a g_heavyTimes cyI 160 u.2.2]) A) := by
  refine kx_stQ (ws := wsX5_laysHeavy) (cc := cX5_laysHeavy) (maxL := 10) (ret := none) (by decide) rfl (Nat.le_of_ble_eq_true rfl) ?_
  intro p e s m below meth c A ls hx hb hr hlocks hts hown hml hA hS hP hK hD hl
  have hown : s.vm.findClass RX5 = some m.cls := hown
  have hl : lv_has ls 10 [(0, .ref h0), (1, .int p0), (2, .int p1), (3, .int p2), (4, .int p3), (5, .int p4), (6, .int p5)] := hl
  have hf_178 := hts (.fieldLink RX5 178 "MajorityIndexModel" "heavyMany" "I") (List.mem_of_getElem? (i := 1) rfl)
  have hi_5 : ∀ w ∈ u_ws RX5 TX5 30, w ∈ wsX5_laysHeavy := fun w h => List.mem_cons_of_mem _ (List.mem_append_right _ h)
  have hf_7 := hts (.fieldLink RX5 7 "MajorityIndexModel" "row" "[I") (List.mem_of_getElem? (i := 2) rfl)
  refine lv_aload_n hx hb dX5_laysHeavy_0 rfl (lv_at hl 0 rfl) ?_
  refine lv_iconst (v := 0) hx hb dX5_laysHeavy_1 (by decide) ?_
  refine va_put (D := (dC, dI)) (ci := 5) (v := .int 0) (ty := .int) (C := RX5) (T := TX5) (N := 30) hx hb hts hi_5 tyX5 tyX5_ok nmX5 hown hK hP hD hS 0 rfl rfl 25 (by decide) hf_178 (fun _ h9 => h9) rfl (by decide +kernel) rfl rfl (Nat.le_of_ble_eq_true rfl) dX5_laysHeavy_2 (fun H locs hP hD hS => ?_)
  obtain ⟨hP, hD⟩ := kx_re (w2 := [kx_5 h0 g_row m_n m_slots m_thrown g_many g_loss g_less g_voteValue g_voteNumber g_allValue g_allNumber m_allMany g_nodeL g_nodeR m_nodes g_part m_partMany g_wasMany g_wasLoss g_wasValue g_wasNumber g_path m_pathMany g_heavyValue g_heavyTimes 0 g_fewest g_which g_met m_mostMet, kx_a g_row cyI 160 f, kx_a g_heavyValue cyI 160 zv, kx_a g_heavyTimes cyI 160 zt]) hP hD rfl
  refine lv_iload_n hx hb dX5_laysHeavy_5 rfl (lv_at hl 2 rfl) ?_
  refine lv_iload_n hx hb dX5_laysHeavy_6 rfl (lv_at hl 1 rfl) ?_
  refine lv_isub hx hb dX5_laysHeavy_7 ?_
  refine lv_topi (fun y_1 ey_1 => ?_)
  have i_1 : y_1.toInt = p1.toInt - p0.toInt := ki_sub ey_1 rfl rfl (om_184 b1) (om_401 b4 b6)
  refine lv_iload hx hb dX5_laysHeavy_8 (lv_at hl 4 rfl) ?_
  refine lv_iadd hx hb dX5_laysHeavy_10 ?_
  refine lv_topi (fun y_2 ey_2 => ?_)
  have i_2 : y_2.toInt = y_1.toInt + p3.toInt := ki_add ey_2 rfl rfl (om_402 b1 b3 b4 i_1) (om_403 b4 b5 b6 i_1)
  refine lv_iload_n hx hb dX5_laysHeavy_11 rfl (lv_at hl 3 rfl) ?_
  refine lv_isub hx hb dX5_laysHeavy_12 ?_
  refine lv_topi (fun y_3 ey_3 => ?_)
  have i_3 : y_3.toInt = y_2.toInt - p2.toInt := ki_sub ey_3 rfl rfl (om_404 b1 b4 i_1 i_2) (om_405 b6 i_1 i_2)
  refine lv_istore (lv' := [(7, .int y_3), (0, .ref h0), (1, .int p0), (2, .int p1), (3, .int p2), (4, .int p3), (5, .int p4), (6, .int p5)]) hx hb dX5_laysHeavy_13 hl (by decide) rfl (fun ls hl => ?_)
  refine lv_iload_n hx hb dX5_laysHeavy_15 rfl (lv_at hl 2 rfl) ?_
  refine lv_istore (lv' := [(8, .int p0), (7, .int y_3), (0, .ref h0), (1, .int p0), (2, .int p1), (3, .int p2), (4, .int p3), (5, .int p4), (6, .int p5)]) hx hb dX5_laysHeavy_16 hl (by decide) rfl (fun ls hl => ?_)
  have LP1 : ∀ (n : Nat) (k : Int32) (hm : Int32) (jv : Nat → Int32) (jt : Nat → Int32), (p0.toInt ≤ k.toInt) → (k.toInt ≤ p1.toInt) → (0 ≤ hm.toInt) → (hm.toInt ≤ k.toInt - p0.toInt) → (p1.toInt - k.toInt).toNat < n → ∀ (H : Heap) (locs : List Loc), va_P (dC, dI) vwCl [kx_5 h0 g_row m_n m_slots m_thrown g_many g_loss g_less g_voteValue g_voteNumber g_allValue g_allNumber m_allMany g_nodeL g_nodeR m_nodes g_part m_partMany g_wasMany g_wasLoss g_wasValue g_wasNumber g_path m_pathMany g_heavyValue g_heavyTimes hm g_fewest g_which g_met m_mostMet, kx_a g_row cyI 160 f, kx_a g_heavyValue cyI 160 jv, kx_a g_heavyTimes cyI 160 jt] H → va_D A [kx_5 h0 g_row m_n m_slots m_thrown g_many g_loss g_less g_voteValue g_voteNumber g_allValue g_allNumber m_allMany g_nodeL g_nodeR m_nodes g_part m_partMany g_wasMany g_wasLoss g_wasValue g_wasNumber g_path m_pathMany g_heavyValue g_heavyTimes hm g_fewest g_which g_met m_mostMet, kx_a g_row cyI 160 f, kx_a g_heavyValue cyI 160 jv, kx_a g_heavyTimes cyI 160 jt] → va_S A s.heap H locs → ∀ (ls : Array Slot), lv_has ls 10 [(8, .int k), (7, .int y_3), (0, .ref h0), (1, .int p0), (2, .int p1), (3, .int p2), (4, .int p3), (5, .int p4), (6, .int p5)] → W p l e (headSpec wsX5_laysHeavy ({ frames := 1, cells := 0, slots := 0, locals := 45 })).room s m ([.ref h0, .int p0, .int p1, .int p2, .int p3, .int p4, .int p5] : List Value).toArray below meth c H locs 0 0 (MQ below (va_Qv (fun u : Int32 × (Nat → Int32) × (Nat → Int32) => 0 ≤ u.1.toInt ∧ u.1.toInt ≤ 160) (fun (u : Int32 × (Nat → Int32) × (Nat → Int32)) (t : State) => va_P (dC, dI) vwCl [kx_5 h0 g_row m_n m_slots m_thrown g_many g_loss g_less g_voteValue g_voteNumber g_allValue g_allNumber m_allMany g_nodeL g_nodeR m_nodes g_part m_partMany g_wasMany g_wasLoss g_wasValue g_wasNumber g_path m_pathMany g_heavyValue g_heavyTimes u.1 g_fewest g_which g_met m_mostMet, kx_a g_row cyI 160 f, kx_a g_heavyValue cyI 160 u.2.1, kx_a g_heavyTimes cyI 160 u.2.2] t.heap ∧ va_K (dC, dI) vwCl [(cyI, .int)] t ∧ va_D A [kx_5 h0 g_row m_n m_slots m_thrown g_many g_loss g_less g_voteValue g_voteNumber g_allValue g_allNumber m_allMany g_nodeL g_nodeR m_nodes g_part m_partMany g_wasMany g_wasLoss g_wasValue g_wasNumber g_path m_pathMany g_heavyValue g_heavyTimes u.1 g_fewest g_which g_met m_mostMet, kx_a g_row cyI 160 f, kx_a g_heavyValue cyI 160 u.2.1, kx_a g_heavyTimes cyI 160 u.2.2]) A) ([.ref h0, .int p0, .int p1, .int p2, .int p3, .int p4, .int p5] : List Value).toArray s 0 0 A) (F0 m 18 ls []) := by
    intro n
    induction n with
    | zero => intro k hm jv jt LP1_h0 LP1_h1 LP1_h2 LP1_h3 hn; exact absurd hn (Nat.not_lt_zero _)
    | succ n ih1 =>
      intro k hm jv jt LP1_h0 LP1_h1 LP1_h2 LP1_h3 hn1 H locs hP hD hS ls hl
      refine lv_iload hx hb dX5_laysHeavy_18 (lv_at hl 0 rfl) ?_
      refine lv_iload_n hx hb dX5_laysHeavy_20 rfl (lv_at hl 4 rfl) ?_
      refine lv_icmp_ge (tgt := 103) hx hb dX5_laysHeavy_21 (by decide) (fun c_4 => ?_) (fun c_4 => ?_)
      · have i_4 : p1.toInt ≤ k.toInt := kc_le c_4
        refine lv_iload_n hx hb dX5_laysHeavy_103 rfl (lv_at hl 5 rfl) ?_
        refine lv_istore (lv' := [(8, .int p2), (7, .int y_3), (0, .ref h0), (1, .int p0), (2, .int p1), (3, .int p2), (4, .int p3), (5, .int p4), (6, .int p5)]) hx hb dX5_laysHeavy_104 hl (by decide) rfl (fun ls hl => ?_)
        have LP2 : ∀ (n : Nat) (k3 : Int32) (hm3 : Int32) (jv3 : Nat → Int32) (jt3 : Nat → Int32), (p2.toInt ≤ k3.toInt) → (k3.toInt ≤ p3.toInt) → (0 ≤ hm3.toInt) → (hm3.toInt ≤ p1.toInt - p0.toInt + k3.toInt - p2.toInt) → (p3.toInt - k3.toInt).toNat < n → ∀ (H : Heap) (locs : List Loc), va_P (dC, dI) vwCl [kx_5 h0 g_row m_n m_slots m_thrown g_many g_loss g_less g_voteValue g_voteNumber g_allValue g_allNumber m_allMany g_nodeL g_nodeR m_nodes g_part m_partMany g_wasMany g_wasLoss g_wasValue g_wasNumber g_path m_pathMany g_heavyValue g_heavyTimes hm3 g_fewest g_which g_met m_mostMet, kx_a g_row cyI 160 f, kx_a g_heavyValue cyI 160 jv3, kx_a g_heavyTimes cyI 160 jt3] H → va_D A [kx_5 h0 g_row m_n m_slots m_thrown g_many g_loss g_less g_voteValue g_voteNumber g_allValue g_allNumber m_allMany g_nodeL g_nodeR m_nodes g_part m_partMany g_wasMany g_wasLoss g_wasValue g_wasNumber g_path m_pathMany g_heavyValue g_heavyTimes hm3 g_fewest g_which g_met m_mostMet, kx_a g_row cyI 160 f, kx_a g_heavyValue cyI 160 jv3, kx_a g_heavyTimes cyI 160 jt3] → va_S A s.heap H locs → ∀ (ls : Array Slot), lv_has ls 10 [(8, .int k3), (7, .int y_3), (0, .ref h0), (1, .int p0), (2, .int p1), (3, .int p2), (4, .int p3), (5, .int p4), (6, .int p5)] → W p l e (headSpec wsX5_laysHeavy ({ frames := 1, cells := 0, slots := 0, locals := 45 })).room s m ([.ref h0, .int p0, .int p1, .int p2, .int p3, .int p4, .int p5] : List Value).toArray below meth c H locs 0 0 (MQ below (va_Qv (fun u : Int32 × (Nat → Int32) × (Nat → Int32) => 0 ≤ u.1.toInt ∧ u.1.toInt ≤ 160) (fun (u : Int32 × (Nat → Int32) × (Nat → Int32)) (t : State) => va_P (dC, dI) vwCl [kx_5 h0 g_row m_n m_slots m_thrown g_many g_loss g_less g_voteValue g_voteNumber g_allValue g_allNumber m_allMany g_nodeL g_nodeR m_nodes g_part m_partMany g_wasMany g_wasLoss g_wasValue g_wasNumber g_path m_pathMany g_heavyValue g_heavyTimes u.1 g_fewest g_which g_met m_mostMet, kx_a g_row cyI 160 f, kx_a g_heavyValue cyI 160 u.2.1, kx_a g_heavyTimes cyI 160 u.2.2] t.heap ∧ va_K (dC, dI) vwCl [(cyI, .int)] t ∧ va_D A [kx_5 h0 g_row m_n m_slots m_thrown g_many g_loss g_less g_voteValue g_voteNumber g_allValue g_allNumber m_allMany g_nodeL g_nodeR m_nodes g_part m_partMany g_wasMany g_wasLoss g_wasValue g_wasNumber g_path m_pathMany g_heavyValue g_heavyTimes u.1 g_fewest g_which g_met m_mostMet, kx_a g_row cyI 160 f, kx_a g_heavyValue cyI 160 u.2.1, kx_a g_heavyTimes cyI 160 u.2.2]) A) ([.ref h0, .int p0, .int p1, .int p2, .int p3, .int p4, .int p5] : List Value).toArray s 0 0 A) (F0 m 106 ls []) := by
          intro n
          induction n with
          | zero => intro k3 hm3 jv3 jt3 LP2_h0 LP2_h1 LP2_h2 LP2_h3 hn; exact absurd hn (Nat.not_lt_zero _)
          | succ n ih2 =>
            intro k3 hm3 jv3 jt3 LP2_h0 LP2_h1 LP2_h2 LP2_h3 hn2 H locs hP hD hS ls hl
            refine lv_iload hx hb dX5_laysHeavy_106 (lv_at hl 0 rfl) ?_
            refine lv_iload hx hb dX5_laysHeavy_108 (lv_at hl 6 rfl) ?_
            refine lv_icmp_ge (tgt := 208) hx hb dX5_laysHeavy_110 (by decide) (fun c_5 => ?_) (fun c_5 => ?_)
            · have i_5 : p3.toInt ≤ k3.toInt := kc_le c_5
              have hP9 := hP
              have hD9 := hD
              have hK9 := hK
              exact W.vret hx hb hr (hlocks := hlocks) (fun t ht hW => ⟨⟨(hm3, jv3, jt3), rfl, (by (try dsimp only); omega), by rw [ht]; exact hP9, va_K.moved hW.alike hK9, hD9⟩, hS.F ht⟩) hS.2.2 dX5_laysHeavy_208
            · have i_5 : k3.toInt < p3.toInt := kc_nle c_5
              refine lv_aload_n hx hb dX5_laysHeavy_113 rfl (lv_at hl 2 rfl) ?_
              refine lv_aload_n hx hb dX5_laysHeavy_114 rfl (lv_at hl 2 rfl) ?_
              refine va_get (D := (dC, dI)) (ci := 5) (v := .ref g_row) (C := RX5) (T := TX5) (N := 30) hx hb hts hi_5 hown hK hP 0 rfl rfl 0 (by decide) hf_7 (fun _ h9 => h9) rfl dX5_laysHeavy_115 ?_
              refine lv_iload hx hb dX5_laysHeavy_118 (lv_at hl 0 rfl) ?_
              refine va_iald hx hb hK hP 1 0 rfl rfl (ki_in (om_0 b3 LP2_h0) (om_1 b5 i_5)) dX5_laysHeavy_120 ?_
              refine lv_topi (fun y_6 ey_6 => ?_)
              have j_6 : y_6.toInt = (f k3.toNatClampNeg).toInt := congrArg Int32.toInt ey_6
              refine lv_iload_n hx hb dX5_laysHeavy_121 rfl (lv_at hl 3 rfl) ?_
              refine lv_iload_n hx hb dX5_laysHeavy_122 rfl (lv_at hl 4 rfl) ?_
              have hPc := hP.sub (ws' := [kx_5 h0 g_row m_n m_slots m_thrown g_many g_loss g_less g_voteValue g_voteNumber g_allValue g_allNumber m_allMany g_nodeL g_nodeR m_nodes g_part m_partMany g_wasMany g_wasLoss g_wasValue g_wasNumber g_path m_pathMany g_heavyValue g_heavyTimes hm3 g_fewest g_which g_met m_mostMet, kx_a g_row cyI 160 f]) [0, 1] rfl
              have hKc := hK
              refine vp_callSi (W.runV (As := [.int y_6, .int p0, .int p1]) (rest := []) ⟨hx, hb, hml, hown, hts⟩ (c_X5_times l dC dI h0 g_row g_many g_loss g_less g_voteValue g_voteNumber g_allValue g_allNumber g_nodeL g_nodeR g_part g_wasMany g_wasLoss g_wasValue g_wasNumber g_path g_heavyValue g_heavyTimes g_fewest g_which g_met m_n m_slots m_thrown m_allMany m_nodes m_partMany m_pathMany hm3 m_mostMet cyI f y_6 p0 p1 b0 b2) (cwV 3 hts gX5_laysHeavy_X5_times rfl rfl rfl (by decide +kernel) ⟨Nat.le_of_ble_eq_true rfl, Nat.le_of_ble_eq_true rfl⟩) ⟨fun a U g mk q => by obtain ⟨q0, qP, qK⟩ := q; exact ⟨q0, qP, va_K.moved (u := U) (U := U.calling g mk a) (Vm.Alike.refl U.vm) qK⟩, kx_rc5 hKc hPc (q0 := 0) rfl, fun U hU hW => ⟨rfl, by rw [hU]; exact hPc, va_K.moved hW.alike hKc⟩⟩ rfl rfl hl.1 rfl (lv_room (Nat.le_of_ble_eq_true rfl)) dX5_laysHeavy_123 ⟨Nat.le_of_ble_eq_true rfl, Nat.le_of_ble_eq_true rfl⟩) (fun r_7 w_7 => ?_)
              have w_7 : r_7.toInt = (cnt f y_6 p0.toNatClampNeg (p1.toInt - p0.toInt).toNat : Int) := w_7
              refine lv_aload_n hx hb dX5_laysHeavy_126 rfl (lv_at hl 2 rfl) ?_
              refine lv_aload_n hx hb dX5_laysHeavy_127 rfl (lv_at hl 2 rfl) ?_
              refine va_get (D := (dC, dI)) (ci := 5) (v := .ref g_row) (C := RX5) (T := TX5) (N := 30) hx hb hts hi_5 hown hK hP 0 rfl rfl 0 (by decide) hf_7 (fun _ h9 => h9) rfl dX5_laysHeavy_128 ?_
              refine lv_iload hx hb dX5_laysHeavy_131 (lv_at hl 0 rfl) ?_
              refine va_iald hx hb hK hP 1 0 rfl rfl (ki_in (om_0 b3 LP2_h0) (om_1 b5 i_5)) dX5_laysHeavy_133 ?_
              refine lv_topi (fun y_8 ey_8 => ?_)
              have j_8 : y_8.toInt = (f k3.toNatClampNeg).toInt := congrArg Int32.toInt ey_8
              refine lv_iload_n hx hb dX5_laysHeavy_134 rfl (lv_at hl 5 rfl) ?_
              refine lv_iload hx hb dX5_laysHeavy_135 (lv_at hl 6 rfl) ?_
              have hPc := hP.sub (ws' := [kx_5 h0 g_row m_n m_slots m_thrown g_many g_loss g_less g_voteValue g_voteNumber g_allValue g_allNumber m_allMany g_nodeL g_nodeR m_nodes g_part m_partMany g_wasMany g_wasLoss g_wasValue g_wasNumber g_path m_pathMany g_heavyValue g_heavyTimes hm3 g_fewest g_which g_met m_mostMet, kx_a g_row cyI 160 f]) [0, 1] rfl
              have hKc := hK
              refine vp_callSi (W.runV (As := [.int y_8, .int p2, .int p3]) (rest := [.int r_7]) ⟨hx, hb, hml, hown, hts⟩ (c_X5_times l dC dI h0 g_row g_many g_loss g_less g_voteValue g_voteNumber g_allValue g_allNumber g_nodeL g_nodeR g_part g_wasMany g_wasLoss g_wasValue g_wasNumber g_path g_heavyValue g_heavyTimes g_fewest g_which g_met m_n m_slots m_thrown m_allMany m_nodes m_partMany m_pathMany hm3 m_mostMet cyI f y_8 p2 p3 b3 b5) (cwV 3 hts gX5_laysHeavy_X5_times rfl rfl rfl (by decide +kernel) ⟨Nat.le_of_ble_eq_true rfl, Nat.le_of_ble_eq_true rfl⟩) ⟨fun a U g mk q => by obtain ⟨q0, qP, qK⟩ := q; exact ⟨q0, qP, va_K.moved (u := U) (U := U.calling g mk a) (Vm.Alike.refl U.vm) qK⟩, kx_rc5 hKc hPc (q0 := 0) rfl, fun U hU hW => ⟨rfl, by rw [hU]; exact hPc, va_K.moved hW.alike hKc⟩⟩ rfl rfl hl.1 rfl (lv_room (Nat.le_of_ble_eq_true rfl)) dX5_laysHeavy_137 ⟨Nat.le_of_ble_eq_true rfl, Nat.le_of_ble_eq_true rfl⟩) (fun r_9 w_9 => ?_)
              have w_9 : r_9.toInt = (cnt f y_8 p2.toNatClampNeg (p3.toInt - p2.toInt).toNat : Int) := w_9
              refine lv_iadd hx hb dX5_laysHeavy_140 ?_
              refine lv_topi (fun y_10 ey_10 => ?_)
              refine lv_istore (lv' := [(9, .int y_10), (8, .int k3), (7, .int y_3), (0, .ref h0), (1, .int p0), (2, .int p1), (3, .int p2), (4, .int p3), (5, .int p4), (6, .int p5)]) hx hb dX5_laysHeavy_141 hl (by decide) rfl (fun ls hl => ?_)
              refine lv_aload_n hx hb dX5_laysHeavy_143 rfl (lv_at hl 3 rfl) ?_
              refine lv_aload_n hx hb dX5_laysHeavy_144 rfl (lv_at hl 3 rfl) ?_
              refine va_get (D := (dC, dI)) (ci := 5) (v := .ref g_row) (C := RX5) (T := TX5) (N := 30) hx hb hts hi_5 hown hK hP 0 rfl rfl 0 (by decide) hf_7 (fun _ h9 => h9) rfl dX5_laysHeavy_145 ?_
              refine lv_iload hx hb dX5_laysHeavy_148 (lv_at hl 1 rfl) ?_
              refine va_iald hx hb hK hP 1 0 rfl rfl (ki_in (om_0 b3 LP2_h0) (om_1 b5 i_5)) dX5_laysHeavy_150 ?_
              refine lv_topi (fun y_11 ey_11 => ?_)
              have j_11 : y_11.toInt = (f k3.toNatClampNeg).toInt := congrArg Int32.toInt ey_11
              refine lv_iload_n hx hb dX5_laysHeavy_151 rfl (lv_at hl 4 rfl) ?_
              refine lv_iload_n hx hb dX5_laysHeavy_152 rfl (lv_at hl 5 rfl) ?_
              have hPc := hP.sub (ws' := [kx_5 h0 g_row m_n m_slots m_thrown g_many g_loss g_less g_voteValue g_voteNumber g_allValue g_allNumber m_allMany g_nodeL g_nodeR m_nodes g_part m_partMany g_wasMany g_wasLoss g_wasValue g_wasNumber g_path m_pathMany g_heavyValue g_heavyTimes hm3 g_fewest g_which g_met m_mostMet, kx_a g_row cyI 160 f]) [0, 1] rfl
              have hKc := hK
              refine vp_callSi (W.runV (As := [.int y_11, .int p0, .int p1]) (rest := []) ⟨hx, hb, hml, hown, hts⟩ (c_X5_times l dC dI h0 g_row g_many g_loss g_less g_voteValue g_voteNumber g_allValue g_allNumber g_nodeL g_nodeR g_part g_wasMany g_wasLoss g_wasValue g_wasNumber g_path g_heavyValue g_heavyTimes g_fewest g_which g_met m_n m_slots m_thrown m_allMany m_nodes m_partMany m_pathMany hm3 m_mostMet cyI f y_11 p0 p1 b0 b2) (cwV 3 hts gX5_laysHeavy_X5_times rfl rfl rfl (by decide +kernel) ⟨Nat.le_of_ble_eq_true rfl, Nat.le_of_ble_eq_true rfl⟩) ⟨fun a U g mk q => by obtain ⟨q0, qP, qK⟩ := q; exact ⟨q0, qP, va_K.moved (u := U) (U := U.calling g mk a) (Vm.Alike.refl U.vm) qK⟩, kx_rc5 hKc hPc (q0 := 0) rfl, fun U hU hW => ⟨rfl, by rw [hU]; exact hPc, va_K.moved hW.alike hKc⟩⟩ rfl rfl hl.1 rfl (lv_room (Nat.le_of_ble_eq_true rfl)) dX5_laysHeavy_153 ⟨Nat.le_of_ble_eq_true rfl, Nat.le_of_ble_eq_true rfl⟩) (fun r_12 w_12 => ?_)
              have w_12 : r_12.toInt = (cnt f y_11 p0.toNatClampNeg (p1.toInt - p0.toInt).toNat : Int) := w_12
              refine lv_if_ne (tgt := 202) hx hb dX5_laysHeavy_156 (by decide) (fun c_13 => ?_) (fun c_13 => ?_)
              · have i_13 : ¬ r_12.toInt = 0 := kc_ne c_13
                obtain ⟨x_14, ex_14⟩ : ∃ y : Int32, y = k3 + 1 := ⟨_, rfl⟩
                have i_14 : x_14.toInt = k3.toInt + 1 := ki_add ex_14 rfl rfl (om_2 b3 LP2_h0) (om_3 b5 i_5)
                refine lv_iinc (v := x_14) (lv' := [(8, .int x_14), (9, .int y_10), (7, .int y_3), (0, .ref h0), (1, .int p0), (2, .int p1), (3, .int p2), (4, .int p3), (5, .int p4), (6, .int p5)]) hx hb dX5_laysHeavy_202 hl (k := 1) rfl (by rw [ex_14]; rfl) (by decide) rfl (fun ls hl => ?_)
                refine lv_goto (tgt := 106) hx hb dX5_laysHeavy_205 (by decide) ?_
                exact ih2 x_14 hm3 jv3 jt3 (om_4 LP2_h0 i_14) (om_54 i_5 i_14) (om_10 LP2_h2) (om_406 LP2_h3 i_14) (om_mu hn2 (om_5 i_14) (om_6 i_5)) _ _ hP hD hS ls (lv_sub hl [0, 2, 3, 4, 5, 6, 7, 8, 9] rfl)
              · have i_13 : r_12.toInt = 0 := kc_eq c_13
                refine lv_aload_n hx hb dX5_laysHeavy_159 rfl (lv_at hl 3 rfl) ?_
                refine lv_aload_n hx hb dX5_laysHeavy_160 rfl (lv_at hl 3 rfl) ?_
                refine va_get (D := (dC, dI)) (ci := 5) (v := .ref g_row) (C := RX5) (T := TX5) (N := 30) hx hb hts hi_5 hown hK hP 0 rfl rfl 0 (by decide) hf_7 (fun _ h9 => h9) rfl dX5_laysHeavy_161 ?_
                refine lv_iload hx hb dX5_laysHeavy_164 (lv_at hl 1 rfl) ?_
                refine va_iald hx hb hK hP 1 0 rfl rfl (ki_in (om_0 b3 LP2_h0) (om_1 b5 i_5)) dX5_laysHeavy_166 ?_
                refine lv_topi (fun y_15 ey_15 => ?_)
                have j_15 : y_15.toInt = (f k3.toNatClampNeg).toInt := congrArg Int32.toInt ey_15
                refine lv_iload_n hx hb dX5_laysHeavy_167 rfl (lv_at hl 6 rfl) ?_
                refine lv_iload hx hb dX5_laysHeavy_168 (lv_at hl 1 rfl) ?_
                have hPc := hP.sub (ws' := [kx_5 h0 g_row m_n m_slots m_thrown g_many g_loss g_less g_voteValue g_voteNumber g_allValue g_allNumber m_allMany g_nodeL g_nodeR m_nodes g_part m_partMany g_wasMany g_wasLoss g_wasValue g_wasNumber g_path m_pathMany g_heavyValue g_heavyTimes hm3 g_fewest g_which g_met m_mostMet, kx_a g_row cyI 160 f]) [0, 1] rfl
                have hKc := hK
                refine vp_callSi (W.runV (As := [.int y_15, .int p2, .int k3]) (rest := []) ⟨hx, hb, hml, hown, hts⟩ (c_X5_times l dC dI h0 g_row g_many g_loss g_less g_voteValue g_voteNumber g_allValue g_allNumber g_nodeL g_nodeR g_part g_wasMany g_wasLoss g_wasValue g_wasNumber g_path g_heavyValue g_heavyTimes g_fewest g_which g_met m_n m_slots m_thrown m_allMany m_nodes m_partMany m_pathMany hm3 m_mostMet cyI f y_15 p2 k3 b3 (om_202 b5 i_5)) (cwV 3 hts gX5_laysHeavy_X5_times rfl rfl rfl (by decide +kernel) ⟨Nat.le_of_ble_eq_true rfl, Nat.le_of_ble_eq_true rfl⟩) ⟨fun a U g mk q => by obtain ⟨q0, qP, qK⟩ := q; exact ⟨q0, qP, va_K.moved (u := U) (U := U.calling g mk a) (Vm.Alike.refl U.vm) qK⟩, kx_rc5 hKc hPc (q0 := 0) rfl, fun U hU hW => ⟨rfl, by rw [hU]; exact hPc, va_K.moved hW.alike hKc⟩⟩ rfl rfl hl.1 rfl (lv_room (Nat.le_of_ble_eq_true rfl)) dX5_laysHeavy_170 ⟨Nat.le_of_ble_eq_true rfl, Nat.le_of_ble_eq_true rfl⟩) (fun r_16 w_16 => ?_)
                have w_16 : r_16.toInt = (cnt f y_15 p2.toNatClampNeg (k3.toInt - p2.toInt).toNat : Int) := w_16
                refine lv_if_ne (tgt := 202) hx hb dX5_laysHeavy_173 (by decide) (fun c_17 => ?_) (fun c_17 => ?_)
                · have i_17 : ¬ r_16.toInt = 0 := kc_ne c_17
                  obtain ⟨x_18, ex_18⟩ : ∃ y : Int32, y = k3 + 1 := ⟨_, rfl⟩
                  have i_18 : x_18.toInt = k3.toInt + 1 := ki_add ex_18 rfl rfl (om_2 b3 LP2_h0) (om_3 b5 i_5)
                  refine lv_iinc (v := x_18) (lv' := [(8, .int x_18), (9, .int y_10), (7, .int y_3), (0, .ref h0), (1, .int p0), (2, .int p1), (3, .int p2), (4, .int p3), (5, .int p4), (6, .int p5)]) hx hb dX5_laysHeavy_202 hl (k := 1) rfl (by rw [ex_18]; rfl) (by decide) rfl (fun ls hl => ?_)
                  refine lv_goto (tgt := 106) hx hb dX5_laysHeavy_205 (by decide) ?_
                  exact ih2 x_18 hm3 jv3 jt3 (om_4 LP2_h0 i_18) (om_54 i_5 i_18) (om_10 LP2_h2) (om_406 LP2_h3 i_18) (om_mu hn2 (om_5 i_18) (om_6 i_5)) _ _ hP hD hS ls (lv_sub hl [0, 2, 3, 4, 5, 6, 7, 8, 9] rfl)
                · have i_17 : r_16.toInt = 0 := kc_eq c_17
                  refine lv_iload hx hb dX5_laysHeavy_176 (lv_at hl 0 rfl) ?_
                  refine lv_iload hx hb dX5_laysHeavy_178 (lv_at hl 9 rfl) ?_
                  refine lv_imul hx hb dX5_laysHeavy_180 ?_
                  refine lv_topi (fun y_19 ey_19 => ?_)
                  refine lv_iload hx hb dX5_laysHeavy_181 (lv_at hl 8 rfl) ?_
                  refine lv_iload hx hb dX5_laysHeavy_183 (lv_at hl 2 rfl) ?_
                  refine lv_imul hx hb dX5_laysHeavy_185 ?_
                  refine lv_topi (fun y_20 ey_20 => ?_)
                  refine lv_icmp_le (tgt := 202) hx hb dX5_laysHeavy_186 (by decide) (fun c_21 => ?_) (fun c_21 => ?_)
                  · have i_21 : y_19.toInt ≤ y_20.toInt := kc_le c_21
                    obtain ⟨x_22, ex_22⟩ : ∃ y : Int32, y = k3 + 1 := ⟨_, rfl⟩
                    have i_22 : x_22.toInt = k3.toInt + 1 := ki_add ex_22 rfl rfl (om_2 b3 LP2_h0) (om_3 b5 i_5)
                    refine lv_iinc (v := x_22) (lv' := [(8, .int x_22), (9, .int y_10), (7, .int y_3), (0, .ref h0), (1, .int p0), (2, .int p1), (3, .int p2), (4, .int p3), (5, .int p4), (6, .int p5)]) hx hb dX5_laysHeavy_202 hl (k := 1) rfl (by rw [ex_22]; rfl) (by decide) rfl (fun ls hl => ?_)
                    refine lv_goto (tgt := 106) hx hb dX5_laysHeavy_205 (by decide) ?_
                    exact ih2 x_22 hm3 jv3 jt3 (om_4 LP2_h0 i_22) (om_54 i_5 i_22) (om_10 LP2_h2) (om_406 LP2_h3 i_22) (om_mu hn2 (om_5 i_22) (om_6 i_5)) _ _ hP hD hS ls (lv_sub hl [0, 2, 3, 4, 5, 6, 7, 8, 9] rfl)
                  · have i_21 : y_20.toInt < y_19.toInt := kc_nle c_21
                    refine lv_aload_n hx hb dX5_laysHeavy_189 rfl (lv_at hl 3 rfl) ?_
                    refine lv_aload_n hx hb dX5_laysHeavy_190 rfl (lv_at hl 3 rfl) ?_
                    refine va_get (D := (dC, dI)) (ci := 5) (v := .ref g_row) (C := RX5) (T := TX5) (N := 30) hx hb hts hi_5 hown hK hP 0 rfl rfl 0 (by decide) hf_7 (fun _ h9 => h9) rfl dX5_laysHeavy_191 ?_
                    refine lv_iload hx hb dX5_laysHeavy_194 (lv_at hl 1 rfl) ?_
                    refine va_iald hx hb hK hP 1 0 rfl rfl (ki_in (om_0 b3 LP2_h0) (om_1 b5 i_5)) dX5_laysHeavy_196 ?_
                    refine lv_topi (fun y_23 ey_23 => ?_)
                    have j_23 : y_23.toInt = (f k3.toNatClampNeg).toInt := congrArg Int32.toInt ey_23
                    refine lv_iload hx hb dX5_laysHeavy_197 (lv_at hl 0 rfl) ?_
                    obtain ⟨hPc, hDc, hFc, hCc⟩ := kx_preM (wc := [kx_5 h0 g_row m_n m_slots m_thrown g_many g_loss g_less g_voteValue g_voteNumber g_allValue g_allNumber m_allMany g_nodeL g_nodeR m_nodes g_part m_partMany g_wasMany g_wasLoss g_wasValue g_wasNumber g_path m_pathMany g_heavyValue g_heavyTimes hm3 g_fewest g_which g_met m_mostMet, kx_a g_heavyValue cyI 160 jv3, kx_a g_heavyTimes cyI 160 jt3]) hP hD hS hA [true, false, true, true] rfl
                    have hKc := hK
                    refine va_callv (va_runV (As := [.int y_23, .int y_10]) (rest := []) ⟨hx, hb, hml, hown, hts⟩ (kx_un (c_X5_comes l dC dI h0 g_row g_many g_loss g_less g_voteValue g_voteNumber g_allValue g_allNumber g_nodeL g_nodeR g_part g_wasMany g_wasLoss g_wasValue g_wasNumber g_path g_heavyValue g_heavyTimes g_fewest g_which g_met m_n m_slots m_thrown m_allMany m_nodes m_partMany m_pathMany hm3 m_mostMet cyI jv3 jt3 y_23 y_10 H.size LP2_h2 (om_407 b6 LP2_h3 i_5))) (cwV 2 hts gX5_laysHeavy_X5_comes rfl rfl rfl (by decide +kernel) ⟨Nat.le_of_ble_eq_true rfl, Nat.le_of_ble_eq_true rfl⟩) ⟨fun a U g mk q => by obtain ⟨q0, q1, qP, qK, qD⟩ := q; exact ⟨q0, q1, qP, va_K.moved (u := U) (U := U.calling g mk a) (Vm.Alike.refl U.vm) qK, qD⟩, kx_rc5 hKc hPc (q0 := 0) rfl, fun U hU hW => ⟨rfl, by rw [hU], by rw [hU]; exact hPc, va_K.moved hW.alike hKc, hDc.weaken (fun _ _ _ _ => trivial)⟩⟩ rfl rfl hl.1 rfl (lv_room (Nat.le_of_ble_eq_true rfl)) dX5_laysHeavy_199 ⟨Nat.le_of_ble_eq_true rfl, Nat.le_of_ble_eq_true rfl⟩) hS (fun q _ h => hFc q h) hFc (fun u t H1 locs ht hvm w_24 hB hz1 hk1 hS => ?_)
                    obtain ⟨o_25, o_26, o_27⟩ := u
                    dsimp only at w_24 hB
                    obtain ⟨hP1, hK1, hD1⟩ := hB
                    rw [ht] at hP1
                    have hK1 := va_K.moved hvm.symm hK1
                    obtain ⟨hP, hD⟩ := kx_joinM (w2 := [kx_5 h0 g_row m_n m_slots m_thrown g_many g_loss g_less g_voteValue g_voteNumber g_allValue g_allNumber m_allMany g_nodeL g_nodeR m_nodes g_part m_partMany g_wasMany g_wasLoss g_wasValue g_wasNumber g_path m_pathMany g_heavyValue g_heavyTimes o_25 g_fewest g_which g_met m_mostMet, kx_a g_row cyI 160 f, kx_a g_heavyValue cyI 160 o_26, kx_a g_heavyTimes cyI 160 o_27]) hP hD hP1 hD1 hk1 hFc [true, false, true, true] hCc rfl
                    clear hP1 hD1 hK1 hk1 hz1 hFc hDc hPc hKc hCc
                    generalize H1 = H at hP hS ⊢
                    have w_24 : o_25.toInt = hm3.toInt + 1 := w_24
                    obtain ⟨x_28, ex_28⟩ : ∃ y : Int32, y = k3 + 1 := ⟨_, rfl⟩
                    have i_28 : x_28.toInt = k3.toInt + 1 := ki_add ex_28 rfl rfl (om_2 b3 LP2_h0) (om_3 b5 i_5)
                    refine lv_iinc (v := x_28) (lv' := [(8, .int x_28), (9, .int y_10), (7, .int y_3), (0, .ref h0), (1, .int p0), (2, .int p1), (3, .int p2), (4, .int p3), (5, .int p4), (6, .int p5)]) hx hb dX5_laysHeavy_202 hl (k := 1) rfl (by rw [ex_28]; rfl) (by decide) rfl (fun ls hl => ?_)
                    refine lv_goto (tgt := 106) hx hb dX5_laysHeavy_205 (by decide) ?_
                    exact ih2 x_28 o_25 o_26 o_27 (om_4 LP2_h0 i_28) (om_54 i_5 i_28) (om_34 LP2_h2 w_24) (om_408 LP2_h3 w_24 i_28) (om_mu hn2 (om_5 i_28) (om_6 i_5)) _ _ hP hD hS ls (lv_sub hl [0, 2, 3, 4, 5, 6, 7, 8, 9] rfl)
        exact LP2 ((p3.toInt - p2.toInt : Int).toNat + 1) p2 hm jv jt om_7 (om_9 b4) (om_10 LP1_h2) (om_409 LP1_h1 LP1_h3) (Nat.lt_succ_self _) _ _ hP hD hS ls (lv_sub hl [0, 1, 2, 3, 4, 5, 6, 7, 8] rfl)
      · have i_4 : k.toInt < p1.toInt := kc_nle c_4
        refine lv_aload_n hx hb dX5_laysHeavy_24 rfl (lv_at hl 2 rfl) ?_
        refine lv_aload_n hx hb dX5_laysHeavy_25 rfl (lv_at hl 2 rfl) ?_
        refine va_get (D := (dC, dI)) (ci := 5) (v := .ref g_row) (C := RX5) (T := TX5) (N := 30) hx hb hts hi_5 hown hK hP 0 rfl rfl 0 (by decide) hf_7 (fun _ h9 => h9) rfl dX5_laysHeavy_26 ?_
        refine lv_iload hx hb dX5_laysHeavy_29 (lv_at hl 0 rfl) ?_
        refine va_iald hx hb hK hP 1 0 rfl rfl (ki_in (om_0 b0 LP1_h0) (om_1 b2 i_4)) dX5_laysHeavy_31 ?_
        refine lv_topi (fun y_29 ey_29 => ?_)
        have j_29 : y_29.toInt = (f k.toNatClampNeg).toInt := congrArg Int32.toInt ey_29
        refine lv_iload_n hx hb dX5_laysHeavy_32 rfl (lv_at hl 3 rfl) ?_
        refine lv_iload_n hx hb dX5_laysHeavy_33 rfl (lv_at hl 4 rfl) ?_
        have hPc := hP.sub (ws' := [kx_5 h0 g_row m_n m_slots m_thrown g_many g_loss g_less g_voteValue g_voteNumber g_allValue g_allNumber m_allMany g_nodeL g_nodeR m_nodes g_part m_partMany g_wasMany g_wasLoss g_wasValue g_wasNumber g_path m_pathMany g_heavyValue g_heavyTimes hm g_fewest g_which g_met m_mostMet, kx_a g_row cyI 160 f]) [0, 1] rfl
        have hKc := hK
        refine vp_callSi (W.runV (As := [.int y_29, .int p0, .int p1]) (rest := []) ⟨hx, hb, hml, hown, hts⟩ (c_X5_times l dC dI h0 g_row g_many g_loss g_less g_voteValue g_voteNumber g_allValue g_allNumber g_nodeL g_nodeR g_part g_wasMany g_wasLoss g_wasValue g_wasNumber g_path g_heavyValue g_heavyTimes g_fewest g_which g_met m_n m_slots m_thrown m_allMany m_nodes m_partMany m_pathMany hm m_mostMet cyI f y_29 p0 p1 b0 b2) (cwV 3 hts gX5_laysHeavy_X5_times rfl rfl rfl (by decide +kernel) ⟨Nat.le_of_ble_eq_true rfl, Nat.le_of_ble_eq_true rfl⟩) ⟨fun a U g mk q => by obtain ⟨q0, qP, qK⟩ := q; exact ⟨q0, qP, va_K.moved (u := U) (U := U.calling g mk a) (Vm.Alike.refl U.vm) qK⟩, kx_rc5 hKc hPc (q0 := 0) rfl, fun U hU hW => ⟨rfl, by rw [hU]; exact hPc, va_K.moved hW.alike hKc⟩⟩ rfl rfl hl.1 rfl (lv_room (Nat.le_of_ble_eq_true rfl)) dX5_laysHeavy_34 ⟨Nat.le_of_ble_eq_true rfl, Nat.le_of_ble_eq_true rfl⟩) (fun r_30 w_30 => ?_)
        have w_30 : r_30.toInt = (cnt f y_29 p0.toNatClampNeg (p1.toInt - p0.toInt).toNat : Int) := w_30
        refine lv_aload_n hx hb dX5_laysHeavy_37 rfl (lv_at hl 2 rfl) ?_
        refine lv_aload_n hx hb dX5_laysHeavy_38 rfl (lv_at hl 2 rfl) ?_
        refine va_get (D := (dC, dI)) (ci := 5) (v := .ref g_row) (C := RX5) (T := TX5) (N := 30) hx hb hts hi_5 hown hK hP 0 rfl rfl 0 (by decide) hf_7 (fun _ h9 => h9) rfl dX5_laysHeavy_39 ?_
        refine lv_iload hx hb dX5_laysHeavy_42 (lv_at hl 0 rfl) ?_
        refine va_iald hx hb hK hP 1 0 rfl rfl (ki_in (om_0 b0 LP1_h0) (om_1 b2 i_4)) dX5_laysHeavy_44 ?_
        refine lv_topi (fun y_31 ey_31 => ?_)
        have j_31 : y_31.toInt = (f k.toNatClampNeg).toInt := congrArg Int32.toInt ey_31
        refine lv_iload_n hx hb dX5_laysHeavy_45 rfl (lv_at hl 5 rfl) ?_
        refine lv_iload hx hb dX5_laysHeavy_46 (lv_at hl 6 rfl) ?_
        have hPc := hP.sub (ws' := [kx_5 h0 g_row m_n m_slots m_thrown g_many g_loss g_less g_voteValue g_voteNumber g_allValue g_allNumber m_allMany g_nodeL g_nodeR m_nodes g_part m_partMany g_wasMany g_wasLoss g_wasValue g_wasNumber g_path m_pathMany g_heavyValue g_heavyTimes hm g_fewest g_which g_met m_mostMet, kx_a g_row cyI 160 f]) [0, 1] rfl
        have hKc := hK
        refine vp_callSi (W.runV (As := [.int y_31, .int p2, .int p3]) (rest := [.int r_30]) ⟨hx, hb, hml, hown, hts⟩ (c_X5_times l dC dI h0 g_row g_many g_loss g_less g_voteValue g_voteNumber g_allValue g_allNumber g_nodeL g_nodeR g_part g_wasMany g_wasLoss g_wasValue g_wasNumber g_path g_heavyValue g_heavyTimes g_fewest g_which g_met m_n m_slots m_thrown m_allMany m_nodes m_partMany m_pathMany hm m_mostMet cyI f y_31 p2 p3 b3 b5) (cwV 3 hts gX5_laysHeavy_X5_times rfl rfl rfl (by decide +kernel) ⟨Nat.le_of_ble_eq_true rfl, Nat.le_of_ble_eq_true rfl⟩) ⟨fun a U g mk q => by obtain ⟨q0, qP, qK⟩ := q; exact ⟨q0, qP, va_K.moved (u := U) (U := U.calling g mk a) (Vm.Alike.refl U.vm) qK⟩, kx_rc5 hKc hPc (q0 := 0) rfl, fun U hU hW => ⟨rfl, by rw [hU]; exact hPc, va_K.moved hW.alike hKc⟩⟩ rfl rfl hl.1 rfl (lv_room (Nat.le_of_ble_eq_true rfl)) dX5_laysHeavy_48 ⟨Nat.le_of_ble_eq_true rfl, Nat.le_of_ble_eq_true rfl⟩) (fun r_32 w_32 => ?_)
        have w_32 : r_32.toInt = (cnt f y_31 p2.toNatClampNeg (p3.toInt - p2.toInt).toNat : Int) := w_32
        refine lv_iadd hx hb dX5_laysHeavy_51 ?_
        refine lv_topi (fun y_33 ey_33 => ?_)
        refine lv_istore (lv' := [(9, .int y_33), (8, .int k), (7, .int y_3), (0, .ref h0), (1, .int p0), (2, .int p1), (3, .int p2), (4, .int p3), (5, .int p4), (6, .int p5)]) hx hb dX5_laysHeavy_52 hl (by decide) rfl (fun ls hl => ?_)
        refine lv_aload_n hx hb dX5_laysHeavy_54 rfl (lv_at hl 3 rfl) ?_
        refine lv_aload_n hx hb dX5_laysHeavy_55 rfl (lv_at hl 3 rfl) ?_
        refine va_get (D := (dC, dI)) (ci := 5) (v := .ref g_row) (C := RX5) (T := TX5) (N := 30) hx hb hts hi_5 hown hK hP 0 rfl rfl 0 (by decide) hf_7 (fun _ h9 => h9) rfl dX5_laysHeavy_56 ?_
        refine lv_iload hx hb dX5_laysHeavy_59 (lv_at hl 1 rfl) ?_
        refine va_iald hx hb hK hP 1 0 rfl rfl (ki_in (om_0 b0 LP1_h0) (om_1 b2 i_4)) dX5_laysHeavy_61 ?_
        refine lv_topi (fun y_34 ey_34 => ?_)
        have j_34 : y_34.toInt = (f k.toNatClampNeg).toInt := congrArg Int32.toInt ey_34
        refine lv_iload_n hx hb dX5_laysHeavy_62 rfl (lv_at hl 4 rfl) ?_
        refine lv_iload hx hb dX5_laysHeavy_63 (lv_at hl 1 rfl) ?_
        have hPc := hP.sub (ws' := [kx_5 h0 g_row m_n m_slots m_thrown g_many g_loss g_less g_voteValue g_voteNumber g_allValue g_allNumber m_allMany g_nodeL g_nodeR m_nodes g_part m_partMany g_wasMany g_wasLoss g_wasValue g_wasNumber g_path m_pathMany g_heavyValue g_heavyTimes hm g_fewest g_which g_met m_mostMet, kx_a g_row cyI 160 f]) [0, 1] rfl
        have hKc := hK
        refine vp_callSi (W.runV (As := [.int y_34, .int p0, .int k]) (rest := []) ⟨hx, hb, hml, hown, hts⟩ (c_X5_times l dC dI h0 g_row g_many g_loss g_less g_voteValue g_voteNumber g_allValue g_allNumber g_nodeL g_nodeR g_part g_wasMany g_wasLoss g_wasValue g_wasNumber g_path g_heavyValue g_heavyTimes g_fewest g_which g_met m_n m_slots m_thrown m_allMany m_nodes m_partMany m_pathMany hm m_mostMet cyI f y_34 p0 k b0 (om_202 b2 i_4)) (cwV 3 hts gX5_laysHeavy_X5_times rfl rfl rfl (by decide +kernel) ⟨Nat.le_of_ble_eq_true rfl, Nat.le_of_ble_eq_true rfl⟩) ⟨fun a U g mk q => by obtain ⟨q0, qP, qK⟩ := q; exact ⟨q0, qP, va_K.moved (u := U) (U := U.calling g mk a) (Vm.Alike.refl U.vm) qK⟩, kx_rc5 hKc hPc (q0 := 0) rfl, fun U hU hW => ⟨rfl, by rw [hU]; exact hPc, va_K.moved hW.alike hKc⟩⟩ rfl rfl hl.1 rfl (lv_room (Nat.le_of_ble_eq_true rfl)) dX5_laysHeavy_65 ⟨Nat.le_of_ble_eq_true rfl, Nat.le_of_ble_eq_true rfl⟩) (fun r_35 w_35 => ?_)
        have w_35 : r_35.toInt = (cnt f y_34 p0.toNatClampNeg (k.toInt - p0.toInt).toNat : Int) := w_35
        refine lv_if_ne (tgt := 97) hx hb dX5_laysHeavy_68 (by decide) (fun c_36 => ?_) (fun c_36 => ?_)
        · have i_36 : ¬ r_35.toInt = 0 := kc_ne c_36
          obtain ⟨x_37, ex_37⟩ : ∃ y : Int32, y = k + 1 := ⟨_, rfl⟩
          have i_37 : x_37.toInt = k.toInt + 1 := ki_add ex_37 rfl rfl (om_2 b0 LP1_h0) (om_3 b2 i_4)
          refine lv_iinc (v := x_37) (lv' := [(8, .int x_37), (9, .int y_33), (7, .int y_3), (0, .ref h0), (1, .int p0), (2, .int p1), (3, .int p2), (4, .int p3), (5, .int p4), (6, .int p5)]) hx hb dX5_laysHeavy_97 hl (k := 1) rfl (by rw [ex_37]; rfl) (by decide) rfl (fun ls hl => ?_)
          refine lv_goto (tgt := 18) hx hb dX5_laysHeavy_100 (by decide) ?_
          exact ih1 x_37 hm jv jt (om_4 LP1_h0 i_37) (om_54 i_4 i_37) (om_10 LP1_h2) (om_410 LP1_h3 i_37) (om_mu hn1 (om_5 i_37) (om_6 i_4)) _ _ hP hD hS ls (lv_sub hl [0, 2, 3, 4, 5, 6, 7, 8, 9] rfl)
        · have i_36 : r_35.toInt = 0 := kc_eq c_36
          refine lv_iload hx hb dX5_laysHeavy_71 (lv_at hl 0 rfl) ?_
          refine lv_iload hx hb dX5_laysHeavy_73 (lv_at hl 9 rfl) ?_
          refine lv_imul hx hb dX5_laysHeavy_75 ?_
          refine lv_topi (fun y_38 ey_38 => ?_)
          refine lv_iload hx hb dX5_laysHeavy_76 (lv_at hl 8 rfl) ?_
          refine lv_iload hx hb dX5_laysHeavy_78 (lv_at hl 2 rfl) ?_
          refine lv_imul hx hb dX5_laysHeavy_80 ?_
          refine lv_topi (fun y_39 ey_39 => ?_)
          refine lv_icmp_le (tgt := 97) hx hb dX5_laysHeavy_81 (by decide) (fun c_40 => ?_) (fun c_40 => ?_)
          · have i_40 : y_38.toInt ≤ y_39.toInt := kc_le c_40
            obtain ⟨x_41, ex_41⟩ : ∃ y : Int32, y = k + 1 := ⟨_, rfl⟩
            have i_41 : x_41.toInt = k.toInt + 1 := ki_add ex_41 rfl rfl (om_2 b0 LP1_h0) (om_3 b2 i_4)
            refine lv_iinc (v := x_41) (lv' := [(8, .int x_41), (9, .int y_33), (7, .int y_3), (0, .ref h0), (1, .int p0), (2, .int p1), (3, .int p2), (4, .int p3), (5, .int p4), (6, .int p5)]) hx hb dX5_laysHeavy_97 hl (k := 1) rfl (by rw [ex_41]; rfl) (by decide) rfl (fun ls hl => ?_)
            refine lv_goto (tgt := 18) hx hb dX5_laysHeavy_100 (by decide) ?_
            exact ih1 x_41 hm jv jt (om_4 LP1_h0 i_41) (om_54 i_4 i_41) (om_10 LP1_h2) (om_410 LP1_h3 i_41) (om_mu hn1 (om_5 i_41) (om_6 i_4)) _ _ hP hD hS ls (lv_sub hl [0, 2, 3, 4, 5, 6, 7, 8, 9] rfl)
          · have i_40 : y_39.toInt < y_38.toInt := kc_nle c_40
            refine lv_aload_n hx hb dX5_laysHeavy_84 rfl (lv_at hl 3 rfl) ?_
            refine lv_aload_n hx hb dX5_laysHeavy_85 rfl (lv_at hl 3 rfl) ?_
            refine va_get (D := (dC, dI)) (ci := 5) (v := .ref g_row) (C := RX5) (T := TX5) (N := 30) hx hb hts hi_5 hown hK hP 0 rfl rfl 0 (by decide) hf_7 (fun _ h9 => h9) rfl dX5_laysHeavy_86 ?_
            refine lv_iload hx hb dX5_laysHeavy_89 (lv_at hl 1 rfl) ?_
            refine va_iald hx hb hK hP 1 0 rfl rfl (ki_in (om_0 b0 LP1_h0) (om_1 b2 i_4)) dX5_laysHeavy_91 ?_
            refine lv_topi (fun y_42 ey_42 => ?_)
            have j_42 : y_42.toInt = (f k.toNatClampNeg).toInt := congrArg Int32.toInt ey_42
            refine lv_iload hx hb dX5_laysHeavy_92 (lv_at hl 0 rfl) ?_
            obtain ⟨hPc, hDc, hFc, hCc⟩ := kx_preM (wc := [kx_5 h0 g_row m_n m_slots m_thrown g_many g_loss g_less g_voteValue g_voteNumber g_allValue g_allNumber m_allMany g_nodeL g_nodeR m_nodes g_part m_partMany g_wasMany g_wasLoss g_wasValue g_wasNumber g_path m_pathMany g_heavyValue g_heavyTimes hm g_fewest g_which g_met m_mostMet, kx_a g_heavyValue cyI 160 jv, kx_a g_heavyTimes cyI 160 jt]) hP hD hS hA [true, false, true, true] rfl
            have hKc := hK
            refine va_callv (va_runV (As := [.int y_42, .int y_33]) (rest := []) ⟨hx, hb, hml, hown, hts⟩ (kx_un (c_X5_comes l dC dI h0 g_row g_many g_loss g_less g_voteValue g_voteNumber g_allValue g_allNumber g_nodeL g_nodeR g_part g_wasMany g_wasLoss g_wasValue g_wasNumber g_path g_heavyValue g_heavyTimes g_fewest g_which g_met m_n m_slots m_thrown m_allMany m_nodes m_partMany m_pathMany hm m_mostMet cyI jv jt y_42 y_33 H.size LP1_h2 (om_411 b4 b6 LP1_h3 i_4))) (cwV 2 hts gX5_laysHeavy_X5_comes rfl rfl rfl (by decide +kernel) ⟨Nat.le_of_ble_eq_true rfl, Nat.le_of_ble_eq_true rfl⟩) ⟨fun a U g mk q => by obtain ⟨q0, q1, qP, qK, qD⟩ := q; exact ⟨q0, q1, qP, va_K.moved (u := U) (U := U.calling g mk a) (Vm.Alike.refl U.vm) qK, qD⟩, kx_rc5 hKc hPc (q0 := 0) rfl, fun U hU hW => ⟨rfl, by rw [hU], by rw [hU]; exact hPc, va_K.moved hW.alike hKc, hDc.weaken (fun _ _ _ _ => trivial)⟩⟩ rfl rfl hl.1 rfl (lv_room (Nat.le_of_ble_eq_true rfl)) dX5_laysHeavy_94 ⟨Nat.le_of_ble_eq_true rfl, Nat.le_of_ble_eq_true rfl⟩) hS (fun q _ h => hFc q h) hFc (fun u t H1 locs ht hvm w_43 hB hz1 hk1 hS => ?_)
            obtain ⟨o_44, o_45, o_46⟩ := u
            dsimp only at w_43 hB
            obtain ⟨hP1, hK1, hD1⟩ := hB
            rw [ht] at hP1
            have hK1 := va_K.moved hvm.symm hK1
            obtain ⟨hP, hD⟩ := kx_joinM (w2 := [kx_5 h0 g_row m_n m_slots m_thrown g_many g_loss g_less g_voteValue g_voteNumber g_allValue g_allNumber m_allMany g_nodeL g_nodeR m_nodes g_part m_partMany g_wasMany g_wasLoss g_wasValue g_wasNumber g_path m_pathMany g_heavyValue g_heavyTimes o_44 g_fewest g_which g_met m_mostMet, kx_a g_row cyI 160 f, kx_a g_heavyValue cyI 160 o_45, kx_a g_heavyTimes cyI 160 o_46]) hP hD hP1 hD1 hk1 hFc [true, false, true, true] hCc rfl
            clear hP1 hD1 hK1 hk1 hz1 hFc hDc hPc hKc hCc
            generalize H1 = H at hP hS ⊢
            have w_43 : o_44.toInt = hm.toInt + 1 := w_43
            obtain ⟨x_47, ex_47⟩ : ∃ y : Int32, y = k + 1 := ⟨_, rfl⟩
            have i_47 : x_47.toInt = k.toInt + 1 := ki_add ex_47 rfl rfl (om_2 b0 LP1_h0) (om_3 b2 i_4)
            refine lv_iinc (v := x_47) (lv' := [(8, .int x_47), (9, .int y_33), (7, .int y_3), (0, .ref h0), (1, .int p0), (2, .int p1), (3, .int p2), (4, .int p3), (5, .int p4), (6, .int p5)]) hx hb dX5_laysHeavy_97 hl (k := 1) rfl (by rw [ex_47]; rfl) (by decide) rfl (fun ls hl => ?_)
            refine lv_goto (tgt := 18) hx hb dX5_laysHeavy_100 (by decide) ?_
            exact ih1 x_47 o_44 o_45 o_46 (om_4 LP1_h0 i_47) (om_54 i_4 i_47) (om_34 LP1_h2 w_43) (om_412 LP1_h3 w_43 i_47) (om_mu hn1 (om_5 i_47) (om_6 i_4)) _ _ hP hD hS ls (lv_sub hl [0, 2, 3, 4, 5, 6, 7, 8, 9] rfl)
  have k_48 : (0 : Int32).toInt = 0 := rfl
  exact LP1 ((p1.toInt - p0.toInt : Int).toNat + 1) p0 0 zv zt om_7 (om_9 b1) om_35 om_413 (Nat.lt_succ_self _) _ _ hP hD hS ls (lv_sub hl [0, 1, 2, 3, 4, 5, 6, 7, 8] rfl)

set_option maxHeartbeats 4000000 in
set_option maxRecDepth 100000 in
theorem c_X5_heavy (l : Launch) (dC : Nat → ClassId) (dI : Nat → Nat → Nat) (h0 : Nat) (g_row : Nat) (g_many : Nat) (g_loss : Nat) (g_less : Nat) (g_voteValue : Nat) (g_voteNumber : Nat) (g_allValue : Nat) (g_allNumber : Nat) (g_nodeL : Nat) (g_nodeR : Nat) (g_part : Nat) (g_wasMany : Nat) (g_wasLoss : Nat) (g_wasValue : Nat) (g_wasNumber : Nat) (g_path : Nat) (g_heavyValue : Nat) (g_heavyTimes : Nat) (g_fewest : Nat) (g_which : Nat) (g_met : Nat) (m_n : Int32) (m_slots : Int32) (m_thrown : Int32) (m_allMany : Int32) (m_nodes : Int32) (m_partMany : Int32) (m_pathMany : Int32) (m_heavyMany : Int32) (m_mostMet : Int32) (cyI : ClassId) (f : Nat → Int32) (zv : Nat → Int32) (zt : Nat → Int32) (p0 : Int32) (p1 : Int32) (p2 : Int32) (p3 : Int32) (sz : Nat) (a0 : 0 ≤ m_n.toInt) (a1 : m_n.toInt ≤ 160) : kx_MQ l (dC, dI) yX5_heavy wsX5_heavy ({ frames := 2, cells := 0, slots := 0, locals := 90 }) [.ref h0, .int p0, .int p1, .int p2, .int p3] [kx_5 h0 g_row m_n m_slots m_thrown g_many g_loss g_less g_voteValue g_voteNumber g_allValue g_allNumber m_allMany g_nodeL g_nodeR m_nodes g_part m_partMany g_wasMany g_wasLoss g_wasValue g_wasNumber g_path m_pathMany g_heavyValue g_heavyTimes m_heavyMany g_fewest g_which g_met m_mostMet, kx_a g_row cyI 160 f, kx_a g_heavyValue cyI 160 zv, kx_a g_heavyTimes cyI 160 zt] [(cyI, .int)] sz (fun A => va_Qi (fun (r : Int32) (u : Int32 × (Nat → Int32) × (Nat → Int32)) => True) (fun (u : Int32 × (Nat → Int32) × (Nat → Int32)) (t : State) => va_P (dC, dI) vwCl [kx_5 h0 g_row m_n m_slots 0 g_many g_loss g_less g_voteValue g_voteNumber g_allValue g_allNumber m_allMany g_nodeL g_nodeR m_nodes g_part m_partMany g_wasMany g_wasLoss g_wasValue g_wasNumber g_path m_pathMany g_heavyValue g_heavyTimes u.1 g_fewest g_which g_met m_mostMet, kx_a g_row cyI 160 f, kx_a g_heavyValue cyI 160 u.2.1, kx_a g_heavyTimes cyI 160 u.2.2] t.heap ∧ va_K (dC, dI) vwCl [(cyI, .int)] t ∧ va_D A [kx_5 h0 g_row m_n m_slots 0 g_many g_loss g_less g_voteValue g_voteNumber g_allValue g_allNumber m_allMany g_nodeL g_nodeR m_nodes g_part m_partMany g_wasMany g_wasLoss g_wasValue g_wasNumber g_path m_pathMany g_heavyValue g_heavyTimes u.1 g_fewest g_which g_met m_mostMet, kx_a g_row cyI 160 f, kx_a g_heavyValue cyI 160 u.2.1, kx_a g_heavyTimes cyI 160 u.2.2]) A) := by
  refine kx_stQ (ws := wsX5_heavy) (cc := cX5_heavy) (maxL := 5) (ret := (some .int)) (by decide) rfl (Nat.le_of_ble_eq_true rfl) ?_
  intro p e s m below meth c A ls hx hb hr hlocks hts hown hml hA hS hP hK hD hl
  have hown : s.vm.findClass RX5 = some m.cls := hown
  have hl : lv_has ls 5 [(0, .ref h0), (1, .int p0), (2, .int p1), (3, .int p2), (4, .int p3)] := hl
  have hf_77 := hts (.fieldLink RX5 77 "MajorityIndexModel" "thrown" "I") (List.mem_of_getElem? (i := 1) rfl)
  have hi_5 : ∀ w ∈ u_ws RX5 TX5 30, w ∈ wsX5_heavy := fun w h => List.mem_cons_of_mem _ (List.mem_append_right _ h)
  have hf_178 := hts (.fieldLink RX5 178 "MajorityIndexModel" "heavyMany" "I") (List.mem_of_getElem? (i := 2) rfl)
  refine lv_aload_n hx hb dX5_heavy_0 rfl (lv_at hl 0 rfl) ?_
  refine lv_iconst (v := 0) hx hb dX5_heavy_1 (by decide) ?_
  refine va_put (D := (dC, dI)) (ci := 5) (v := .int 0) (ty := .int) (C := RX5) (T := TX5) (N := 30) hx hb hts hi_5 tyX5 tyX5_ok nmX5 hown hK hP hD hS 0 rfl rfl 3 (by decide) hf_77 (fun _ h9 => h9) rfl (by decide +kernel) rfl rfl (Nat.le_of_ble_eq_true rfl) dX5_heavy_2 (fun H locs hP hD hS => ?_)
  obtain ⟨hP, hD⟩ := kx_re (w2 := [kx_5 h0 g_row m_n m_slots 0 g_many g_loss g_less g_voteValue g_voteNumber g_allValue g_allNumber m_allMany g_nodeL g_nodeR m_nodes g_part m_partMany g_wasMany g_wasLoss g_wasValue g_wasNumber g_path m_pathMany g_heavyValue g_heavyTimes m_heavyMany g_fewest g_which g_met m_mostMet, kx_a g_row cyI 160 f, kx_a g_heavyValue cyI 160 zv, kx_a g_heavyTimes cyI 160 zt]) hP hD rfl
  refine lv_aload_n hx hb dX5_heavy_5 rfl (lv_at hl 0 rfl) ?_
  refine lv_iload_n hx hb dX5_heavy_6 rfl (lv_at hl 1 rfl) ?_
  refine lv_iload_n hx hb dX5_heavy_7 rfl (lv_at hl 2 rfl) ?_
  have hPc := hP.sub (ws' := [kx_5 h0 g_row m_n m_slots 0 g_many g_loss g_less g_voteValue g_voteNumber g_allValue g_allNumber m_allMany g_nodeL g_nodeR m_nodes g_part m_partMany g_wasMany g_wasLoss g_wasValue g_wasNumber g_path m_pathMany g_heavyValue g_heavyTimes m_heavyMany g_fewest g_which g_met m_mostMet]) [0] rfl
  have hKc := hK.sub (tys' := []) [] rfl
  refine vp_callSi (W.runV (As := [.int p0, .int p1]) (rest := []) ⟨hx, hb, hml, hown, hts⟩ (c_X5_isRange l dC dI h0 g_row g_many g_loss g_less g_voteValue g_voteNumber g_allValue g_allNumber g_nodeL g_nodeR g_part g_wasMany g_wasLoss g_wasValue g_wasNumber g_path g_heavyValue g_heavyTimes g_fewest g_which g_met m_n m_slots 0 m_allMany m_nodes m_partMany m_pathMany m_heavyMany m_mostMet p0 p1) (cwV 2 hts gX5_heavy_X5_isRange rfl rfl rfl (by decide +kernel) ⟨Nat.le_of_ble_eq_true rfl, Nat.le_of_ble_eq_true rfl⟩) ⟨fun a U g mk q => by obtain ⟨q0, qP, qK⟩ := q; exact ⟨q0, qP, va_K.moved (u := U) (U := U.calling g mk a) (Vm.Alike.refl U.vm) qK⟩, kx_rc5 hKc hPc (q0 := 0) rfl, fun U hU hW => ⟨rfl, by rw [hU]; exact hPc, va_K.moved hW.alike hKc⟩⟩ rfl rfl hl.1 rfl (lv_room (Nat.le_of_ble_eq_true rfl)) dX5_heavy_8 ⟨Nat.le_of_ble_eq_true rfl, Nat.le_of_ble_eq_true rfl⟩) (fun r_1 w_1 => ?_)
  rcases w_1 with ⟨rfl, w_1⟩ | ⟨rfl, w_1⟩
  · have w_1 : (0 ≤ p0.toInt ∧ p0.toInt < p1.toInt ∧ p1.toInt ≤ m_n.toInt) := w_1
    refine lv_if_eq (tgt := 23) hx hb dX5_heavy_11 (by decide) (fun c_2 => ?_) (fun c_2 => ?_)
    · exact absurd c_2 (by decide)
    · refine lv_iload_n hx hb dX5_heavy_14 rfl (lv_at hl 3 rfl) ?_
      refine lv_iload hx hb dX5_heavy_15 (lv_at hl 4 rfl) ?_
      have hPc := hP.sub (ws' := []) [] rfl
      have hKc := hK.sub (tys' := []) [] rfl
      refine vp_callSi (W.runS (As := [.int p2, .int p3]) (rest := []) ⟨hx, hb, hml, hown, hts⟩ (c_X5_isShare l dC dI p2 p3) (va_cwS 2 hts gX5_heavy_X5_isShare rfl rfl rfl (by decide +kernel) ⟨Nat.le_of_ble_eq_true rfl, Nat.le_of_ble_eq_true rfl⟩) ⟨fun a U g mk q => by obtain ⟨q0, qP, qK⟩ := q; exact ⟨q0, qP, va_K.moved (u := U) (U := U.calling g mk a) (Vm.Alike.refl U.vm) qK⟩, fun U hU hW => ⟨rfl, by rw [hU]; exact hPc, va_K.moved hW.alike hKc⟩⟩ rfl rfl hl.1 rfl (lv_room (Nat.le_of_ble_eq_true rfl)) dX5_heavy_17 ⟨Nat.le_of_ble_eq_true rfl, Nat.le_of_ble_eq_true rfl⟩) (fun r_3 w_3 => ?_)
      rcases w_3 with ⟨rfl, w_3⟩ | ⟨rfl, w_3⟩
      · have w_3 : (1 ≤ p2.toInt ∧ p2.toInt ≤ p3.toInt ∧ p3.toInt ≤ 999) := w_3
        refine lv_if_ne (tgt := 25) hx hb dX5_heavy_20 (by decide) (fun c_4 => ?_) (fun c_4 => ?_)
        · refine lv_aload_n hx hb dX5_heavy_25 rfl (lv_at hl 0 rfl) ?_
          refine lv_iload_n hx hb dX5_heavy_26 rfl (lv_at hl 3 rfl) ?_
          refine lv_iload hx hb dX5_heavy_27 (lv_at hl 4 rfl) ?_
          have hPc := hP.sub (ws' := [kx_5 h0 g_row m_n m_slots 0 g_many g_loss g_less g_voteValue g_voteNumber g_allValue g_allNumber m_allMany g_nodeL g_nodeR m_nodes g_part m_partMany g_wasMany g_wasLoss g_wasValue g_wasNumber g_path m_pathMany g_heavyValue g_heavyTimes m_heavyMany g_fewest g_which g_met m_mostMet]) [0] rfl
          have hKc := hK.sub (tys' := []) [] rfl
          refine vp_callSi (W.runV (As := [.int p2, .int p3]) (rest := []) ⟨hx, hb, hml, hown, hts⟩ (c_X5_isEnough l dC dI h0 g_row g_many g_loss g_less g_voteValue g_voteNumber g_allValue g_allNumber g_nodeL g_nodeR g_part g_wasMany g_wasLoss g_wasValue g_wasNumber g_path g_heavyValue g_heavyTimes g_fewest g_which g_met m_n m_slots 0 m_allMany m_nodes m_partMany m_pathMany m_heavyMany m_mostMet p2 p3) (cwV 2 hts gX5_heavy_X5_isEnough rfl rfl rfl (by decide +kernel) ⟨Nat.le_of_ble_eq_true rfl, Nat.le_of_ble_eq_true rfl⟩) ⟨fun a U g mk q => by obtain ⟨q0, qP, qK⟩ := q; exact ⟨q0, qP, va_K.moved (u := U) (U := U.calling g mk a) (Vm.Alike.refl U.vm) qK⟩, kx_rc5 hKc hPc (q0 := 0) rfl, fun U hU hW => ⟨rfl, by rw [hU]; exact hPc, va_K.moved hW.alike hKc⟩⟩ rfl rfl hl.1 rfl (lv_room (Nat.le_of_ble_eq_true rfl)) dX5_heavy_29 ⟨Nat.le_of_ble_eq_true rfl, Nat.le_of_ble_eq_true rfl⟩) (fun r_5 w_5 => ?_)
          rcases w_5 with ⟨rfl, w_5⟩ | ⟨rfl, w_5⟩
          · have w_5 : (0 : Int) ≤ 1 := w_5
            refine lv_if_ne (tgt := 38) hx hb dX5_heavy_32 (by decide) (fun c_6 => ?_) (fun c_6 => ?_)
            · refine lv_aload_n hx hb dX5_heavy_38 rfl (lv_at hl 0 rfl) ?_
              refine lv_iload_n hx hb dX5_heavy_39 rfl (lv_at hl 1 rfl) ?_
              refine lv_iload_n hx hb dX5_heavy_40 rfl (lv_at hl 2 rfl) ?_
              refine lv_iconst (v := 0) hx hb dX5_heavy_41 (by decide) ?_
              refine lv_iconst (v := 0) hx hb dX5_heavy_42 (by decide) ?_
              refine lv_iload_n hx hb dX5_heavy_43 rfl (lv_at hl 3 rfl) ?_
              refine lv_iload hx hb dX5_heavy_44 (lv_at hl 4 rfl) ?_
              have hPc := hP
              have hKc := hK
              have k_7 : (0 : Int32).toInt = 0 := rfl
              have hDc := hD
              have hFc := kx_free hD hS hA
              refine va_callv (va_runV (As := [.int p0, .int p1, .int 0, .int 0, .int p2, .int p3]) (rest := []) ⟨hx, hb, hml, hown, hts⟩ (kx_un (c_X5_laysHeavy l dC dI h0 g_row g_many g_loss g_less g_voteValue g_voteNumber g_allValue g_allNumber g_nodeL g_nodeR g_part g_wasMany g_wasLoss g_wasValue g_wasNumber g_path g_heavyValue g_heavyTimes g_fewest g_which g_met m_n m_slots 0 m_allMany m_nodes m_partMany m_pathMany m_heavyMany m_mostMet cyI f zv zt p0 p1 0 0 p2 p3 H.size (om_10 w_1.1) (om_414 w_1.2.1) (om_167 a1 w_1.2.2) om_35 om_35 om_415 (om_416 a1 w_1.1 w_1.2.2))) (cwV 6 hts gX5_heavy_X5_laysHeavy rfl rfl rfl (by decide +kernel) ⟨Nat.le_of_ble_eq_true rfl, Nat.le_of_ble_eq_true rfl⟩) ⟨fun a U g mk q => by obtain ⟨q0, q1, qP, qK, qD⟩ := q; exact ⟨q0, q1, qP, va_K.moved (u := U) (U := U.calling g mk a) (Vm.Alike.refl U.vm) qK, qD⟩, kx_rc5 hKc hPc (q0 := 0) rfl, fun U hU hW => ⟨rfl, by rw [hU], by rw [hU]; exact hPc, va_K.moved hW.alike hKc, hDc.weaken (fun _ _ _ _ => trivial)⟩⟩ rfl rfl hl.1 rfl (lv_room (Nat.le_of_ble_eq_true rfl)) dX5_heavy_46 ⟨Nat.le_of_ble_eq_true rfl, Nat.le_of_ble_eq_true rfl⟩) hS (fun q _ h => hFc q h) hFc (fun u t H1 locs ht hvm w_8 hB hz1 hk1 hS => ?_)
              obtain ⟨o_9, o_10, o_11⟩ := u
              dsimp only at w_8 hB
              obtain ⟨hP1, hK1, hD1⟩ := hB
              rw [ht] at hP1
              have hK1 := va_K.moved hvm.symm hK1
              have hD := hD1.weaken (fun _ q _ h => hFc q.1 h)
              have hP := hP1
              clear hP1 hD1 hK1 hk1 hz1 hFc hDc hPc hKc
              generalize H1 = H at hP hS ⊢
              have w_8 : 0 ≤ o_9.toInt ∧ o_9.toInt ≤ 160 := w_8
              refine lv_aload_n hx hb dX5_heavy_49 rfl (lv_at hl 0 rfl) ?_
              refine va_get (D := (dC, dI)) (ci := 5) (v := .int o_9) (C := RX5) (T := TX5) (N := 30) hx hb hts hi_5 hown hK hP 0 rfl rfl 25 (by decide) hf_178 (fun _ h9 => h9) rfl dX5_heavy_50 ?_
              have hP9 := hP
              have hD9 := hD
              have hK9 := hK
              exact W.iret (v := o_9) hx hb hr (hlocks := hlocks) (fun t ht hW => ⟨⟨o_9, (o_9, o_10, o_11), rfl, trivial, by rw [ht]; exact hP9, va_K.moved hW.alike hK9, hD9⟩, hS.F ht⟩) hS.2.2 dX5_heavy_53
            · exact absurd c_6 (by decide)
          · have w_5 : (0 : Int) ≤ 1 := w_5
            refine lv_if_ne (tgt := 38) hx hb dX5_heavy_32 (by decide) (fun c_12 => ?_) (fun c_12 => ?_)
            · exact absurd c_12 (by decide)
            · refine lv_bipush (v := (-2)) hx hb dX5_heavy_35 (by decide) ?_
              have hP9 := hP
              have hD9 := hD
              have hK9 := hK
              exact W.iret (v := (-2)) hx hb hr (hlocks := hlocks) (fun t ht hW => ⟨⟨(-2), (m_heavyMany, zv, zt), rfl, trivial, by rw [ht]; exact hP9, va_K.moved hW.alike hK9, hD9⟩, hS.F ht⟩) hS.2.2 dX5_heavy_37
        · exact absurd c_4 (by decide)
      · have w_3 : (p2.toInt < 1 ∨ p3.toInt < p2.toInt ∨ 999 < p3.toInt) := w_3
        refine lv_if_ne (tgt := 25) hx hb dX5_heavy_20 (by decide) (fun c_13 => ?_) (fun c_13 => ?_)
        · exact absurd c_13 (by decide)
        · refine lv_iconst (v := (-1)) hx hb dX5_heavy_23 (by decide) ?_
          have hP9 := hP
          have hD9 := hD
          have hK9 := hK
          exact W.iret (v := (-1)) hx hb hr (hlocks := hlocks) (fun t ht hW => ⟨⟨(-1), (m_heavyMany, zv, zt), rfl, trivial, by rw [ht]; exact hP9, va_K.moved hW.alike hK9, hD9⟩, hS.F ht⟩) hS.2.2 dX5_heavy_24
  · have w_1 : (p0.toInt < 0 ∨ p1.toInt ≤ p0.toInt ∨ m_n.toInt < p1.toInt) := w_1
    refine lv_if_eq (tgt := 23) hx hb dX5_heavy_11 (by decide) (fun c_14 => ?_) (fun c_14 => ?_)
    · refine lv_iconst (v := (-1)) hx hb dX5_heavy_23 (by decide) ?_
      have hP9 := hP
      have hD9 := hD
      have hK9 := hK
      exact W.iret (v := (-1)) hx hb hr (hlocks := hlocks) (fun t ht hW => ⟨⟨(-1), (m_heavyMany, zv, zt), rfl, trivial, by rw [ht]; exact hP9, va_K.moved hW.alike hK9, hD9⟩, hS.F ht⟩) hS.2.2 dX5_heavy_24
    · exact absurd c_14 (by decide)

set_option maxHeartbeats 4000000 in
set_option maxRecDepth 100000 in
theorem c_X5_heavyAt (l : Launch) (dC : Nat → ClassId) (dI : Nat → Nat → Nat) (h0 : Nat) (g_row : Nat) (g_many : Nat) (g_loss : Nat) (g_less : Nat) (g_voteValue : Nat) (g_voteNumber : Nat) (g_allValue : Nat) (g_allNumber : Nat) (g_nodeL : Nat) (g_nodeR : Nat) (g_part : Nat) (g_wasMany : Nat) (g_wasLoss : Nat) (g_wasValue : Nat) (g_wasNumber : Nat) (g_path : Nat) (g_heavyValue : Nat) (g_heavyTimes : Nat) (g_fewest : Nat) (g_which : Nat) (g_met : Nat) (m_n : Int32) (m_slots : Int32) (m_thrown : Int32) (m_allMany : Int32) (m_nodes : Int32) (m_partMany : Int32) (m_pathMany : Int32) (m_heavyMany : Int32) (m_mostMet : Int32) (cyI : ClassId) (f : Nat → Int32) (zv : Nat → Int32) (zt : Nat → Int32) (p0 : Int32) (p1 : Int32) (p2 : Int32) (p3 : Int32) (p4 : Int32) (p5 : Int32) (sz : Nat) (a0 : 0 ≤ m_n.toInt) (a1 : m_n.toInt ≤ 160) : kx_MQ l (dC, dI) yX5_heavyAt wsX5_heavyAt ({ frames := 2, cells := 0, slots := 0, locals := 90 }) [.ref h0, .int p0, .int p1, .int p2, .int p3, .int p4, .int p5] [kx_5 h0 g_row m_n m_slots m_thrown g_many g_loss g_less g_voteValue g_voteNumber g_allValue g_allNumber m_allMany g_nodeL g_nodeR m_nodes g_part m_partMany g_wasMany g_wasLoss g_wasValue g_wasNumber g_path m_pathMany g_heavyValue g_heavyTimes m_heavyMany g_fewest g_which g_met m_mostMet, kx_a g_row cyI 160 f, kx_a g_heavyValue cyI 160 zv, kx_a g_heavyTimes cyI 160 zt] [(cyI, .int)] sz (fun A => va_Qi (fun (r : Int32) (u : Int32 × (Nat → Int32) × (Nat → Int32) × Int32) => True) (fun (u : Int32 × (Nat → Int32) × (Nat → Int32) × Int32) (t : State) => va_P (dC, dI) vwCl [kx_5 h0 g_row m_n m_slots u.2.2.2 g_many g_loss g_less g_voteValue g_voteNumber g_allValue g_allNumber m_allMany g_nodeL g_nodeR m_nodes g_part m_partMany g_wasMany g_wasLoss g_wasValue g_wasNumber g_path m_pathMany g_heavyValue g_heavyTimes u.1 g_fewest g_which g_met m_mostMet, kx_a g_row cyI 160 f, kx_a g_heavyValue cyI 160 u.2.1, kx_a g_heavyTimes cyI 160 u.2.2.1] t.heap ∧ va_K (dC, dI) vwCl [(cyI, .int)] t ∧ va_D A [kx_5 h0 g_row m_n m_slots u.2.2.2 g_many g_loss g_less g_voteValue g_voteNumber g_allValue g_allNumber m_allMany g_nodeL g_nodeR m_nodes g_part m_partMany g_wasMany g_wasLoss g_wasValue g_wasNumber g_path m_pathMany g_heavyValue g_heavyTimes u.1 g_fewest g_which g_met m_mostMet, kx_a g_row cyI 160 f, kx_a g_heavyValue cyI 160 u.2.1, kx_a g_heavyTimes cyI 160 u.2.2.1]) A) := by
  refine kx_stQ (ws := wsX5_heavyAt) (cc := cX5_heavyAt) (maxL := 7) (ret := (some .int)) (by decide) rfl (Nat.le_of_ble_eq_true rfl) ?_
  intro p e s m below meth c A ls hx hb hr hlocks hts hown hml hA hS hP hK hD hl
  have hown : s.vm.findClass RX5 = some m.cls := hown
  have hl : lv_has ls 7 [(0, .ref h0), (1, .int p0), (2, .int p1), (3, .int p2), (4, .int p3), (5, .int p4), (6, .int p5)] := hl
  have hf_77 := hts (.fieldLink RX5 77 "MajorityIndexModel" "thrown" "I") (List.mem_of_getElem? (i := 1) rfl)
  have hi_5 : ∀ w ∈ u_ws RX5 TX5 30, w ∈ wsX5_heavyAt := fun w h => List.mem_cons_of_mem _ (List.mem_append_right _ h)
  have hf_178 := hts (.fieldLink RX5 178 "MajorityIndexModel" "heavyMany" "I") (List.mem_of_getElem? (i := 2) rfl)
  have hf_65 := hts (.fieldLink RX5 65 "MajorityIndexModel" "heavyTimes" "[I") (List.mem_of_getElem? (i := 4) rfl)
  have hf_62 := hts (.fieldLink RX5 62 "MajorityIndexModel" "heavyValue" "[I") (List.mem_of_getElem? (i := 3) rfl)
  refine lv_aload_n hx hb dX5_heavyAt_0 rfl (lv_at hl 0 rfl) ?_
  refine lv_iconst (v := 1) hx hb dX5_heavyAt_1 (by decide) ?_
  refine va_put (D := (dC, dI)) (ci := 5) (v := .int 1) (ty := .int) (C := RX5) (T := TX5) (N := 30) hx hb hts hi_5 tyX5 tyX5_ok nmX5 hown hK hP hD hS 0 rfl rfl 3 (by decide) hf_77 (fun _ h9 => h9) rfl (by decide +kernel) rfl rfl (Nat.le_of_ble_eq_true rfl) dX5_heavyAt_2 (fun H locs hP hD hS => ?_)
  obtain ⟨hP, hD⟩ := kx_re (w2 := [kx_5 h0 g_row m_n m_slots 1 g_many g_loss g_less g_voteValue g_voteNumber g_allValue g_allNumber m_allMany g_nodeL g_nodeR m_nodes g_part m_partMany g_wasMany g_wasLoss g_wasValue g_wasNumber g_path m_pathMany g_heavyValue g_heavyTimes m_heavyMany g_fewest g_which g_met m_mostMet, kx_a g_row cyI 160 f, kx_a g_heavyValue cyI 160 zv, kx_a g_heavyTimes cyI 160 zt]) hP hD rfl
  refine lv_aload_n hx hb dX5_heavyAt_5 rfl (lv_at hl 0 rfl) ?_
  refine lv_iload_n hx hb dX5_heavyAt_6 rfl (lv_at hl 1 rfl) ?_
  refine lv_iload_n hx hb dX5_heavyAt_7 rfl (lv_at hl 2 rfl) ?_
  have hPc := hP.sub (ws' := [kx_5 h0 g_row m_n m_slots 1 g_many g_loss g_less g_voteValue g_voteNumber g_allValue g_allNumber m_allMany g_nodeL g_nodeR m_nodes g_part m_partMany g_wasMany g_wasLoss g_wasValue g_wasNumber g_path m_pathMany g_heavyValue g_heavyTimes m_heavyMany g_fewest g_which g_met m_mostMet]) [0] rfl
  have hKc := hK.sub (tys' := []) [] rfl
  refine vp_callSi (W.runV (As := [.int p0, .int p1]) (rest := []) ⟨hx, hb, hml, hown, hts⟩ (c_X5_isRange l dC dI h0 g_row g_many g_loss g_less g_voteValue g_voteNumber g_allValue g_allNumber g_nodeL g_nodeR g_part g_wasMany g_wasLoss g_wasValue g_wasNumber g_path g_heavyValue g_heavyTimes g_fewest g_which g_met m_n m_slots 1 m_allMany m_nodes m_partMany m_pathMany m_heavyMany m_mostMet p0 p1) (cwV 2 hts gX5_heavyAt_X5_isRange rfl rfl rfl (by decide +kernel) ⟨Nat.le_of_ble_eq_true rfl, Nat.le_of_ble_eq_true rfl⟩) ⟨fun a U g mk q => by obtain ⟨q0, qP, qK⟩ := q; exact ⟨q0, qP, va_K.moved (u := U) (U := U.calling g mk a) (Vm.Alike.refl U.vm) qK⟩, kx_rc5 hKc hPc (q0 := 0) rfl, fun U hU hW => ⟨rfl, by rw [hU]; exact hPc, va_K.moved hW.alike hKc⟩⟩ rfl rfl hl.1 rfl (lv_room (Nat.le_of_ble_eq_true rfl)) dX5_heavyAt_8 ⟨Nat.le_of_ble_eq_true rfl, Nat.le_of_ble_eq_true rfl⟩) (fun r_1 w_1 => ?_)
  rcases w_1 with ⟨rfl, w_1⟩ | ⟨rfl, w_1⟩
  · have w_1 : (0 ≤ p0.toInt ∧ p0.toInt < p1.toInt ∧ p1.toInt ≤ m_n.toInt) := w_1
    refine lv_if_eq (tgt := 43) hx hb dX5_heavyAt_11 (by decide) (fun c_2 => ?_) (fun c_2 => ?_)
    · exact absurd c_2 (by decide)
    · refine lv_iload_n hx hb dX5_heavyAt_14 rfl (lv_at hl 3 rfl) ?_
      refine lv_iload hx hb dX5_heavyAt_15 (lv_at hl 4 rfl) ?_
      have hPc := hP.sub (ws' := []) [] rfl
      have hKc := hK.sub (tys' := []) [] rfl
      refine vp_callSi (W.runS (As := [.int p2, .int p3]) (rest := []) ⟨hx, hb, hml, hown, hts⟩ (c_X5_isShare l dC dI p2 p3) (va_cwS 2 hts gX5_heavyAt_X5_isShare rfl rfl rfl (by decide +kernel) ⟨Nat.le_of_ble_eq_true rfl, Nat.le_of_ble_eq_true rfl⟩) ⟨fun a U g mk q => by obtain ⟨q0, qP, qK⟩ := q; exact ⟨q0, qP, va_K.moved (u := U) (U := U.calling g mk a) (Vm.Alike.refl U.vm) qK⟩, fun U hU hW => ⟨rfl, by rw [hU]; exact hPc, va_K.moved hW.alike hKc⟩⟩ rfl rfl hl.1 rfl (lv_room (Nat.le_of_ble_eq_true rfl)) dX5_heavyAt_17 ⟨Nat.le_of_ble_eq_true rfl, Nat.le_of_ble_eq_true rfl⟩) (fun r_3 w_3 => ?_)
      rcases w_3 with ⟨rfl, w_3⟩ | ⟨rfl, w_3⟩
      · have w_3 : (1 ≤ p2.toInt ∧ p2.toInt ≤ p3.toInt ∧ p3.toInt ≤ 999) := w_3
        refine lv_if_eq (tgt := 43) hx hb dX5_heavyAt_20 (by decide) (fun c_4 => ?_) (fun c_4 => ?_)
        · exact absurd c_4 (by decide)
        · refine lv_aload_n hx hb dX5_heavyAt_23 rfl (lv_at hl 0 rfl) ?_
          refine lv_iload_n hx hb dX5_heavyAt_24 rfl (lv_at hl 3 rfl) ?_
          refine lv_iload hx hb dX5_heavyAt_25 (lv_at hl 4 rfl) ?_
          have hPc := hP.sub (ws' := [kx_5 h0 g_row m_n m_slots 1 g_many g_loss g_less g_voteValue g_voteNumber g_allValue g_allNumber m_allMany g_nodeL g_nodeR m_nodes g_part m_partMany g_wasMany g_wasLoss g_wasValue g_wasNumber g_path m_pathMany g_heavyValue g_heavyTimes m_heavyMany g_fewest g_which g_met m_mostMet]) [0] rfl
          have hKc := hK.sub (tys' := []) [] rfl
          refine vp_callSi (W.runV (As := [.int p2, .int p3]) (rest := []) ⟨hx, hb, hml, hown, hts⟩ (c_X5_isEnough l dC dI h0 g_row g_many g_loss g_less g_voteValue g_voteNumber g_allValue g_allNumber g_nodeL g_nodeR g_part g_wasMany g_wasLoss g_wasValue g_wasNumber g_path g_heavyValue g_heavyTimes g_fewest g_which g_met m_n m_slots 1 m_allMany m_nodes m_partMany m_pathMany m_heavyMany m_mostMet p2 p3) (cwV 2 hts gX5_heavyAt_X5_isEnough rfl rfl rfl (by decide +kernel) ⟨Nat.le_of_ble_eq_true rfl, Nat.le_of_ble_eq_true rfl⟩) ⟨fun a U g mk q => by obtain ⟨q0, qP, qK⟩ := q; exact ⟨q0, qP, va_K.moved (u := U) (U := U.calling g mk a) (Vm.Alike.refl U.vm) qK⟩, kx_rc5 hKc hPc (q0 := 0) rfl, fun U hU hW => ⟨rfl, by rw [hU]; exact hPc, va_K.moved hW.alike hKc⟩⟩ rfl rfl hl.1 rfl (lv_room (Nat.le_of_ble_eq_true rfl)) dX5_heavyAt_27 ⟨Nat.le_of_ble_eq_true rfl, Nat.le_of_ble_eq_true rfl⟩) (fun r_5 w_5 => ?_)
          rcases w_5 with ⟨rfl, w_5⟩ | ⟨rfl, w_5⟩
          · have w_5 : (0 : Int) ≤ 1 := w_5
            refine lv_if_eq (tgt := 43) hx hb dX5_heavyAt_30 (by decide) (fun c_6 => ?_) (fun c_6 => ?_)
            · exact absurd c_6 (by decide)
            · refine lv_iload hx hb dX5_heavyAt_33 (lv_at hl 6 rfl) ?_
              refine lv_iconst (v := 0) hx hb dX5_heavyAt_35 (by decide) ?_
              refine lv_iconst (v := 1) hx hb dX5_heavyAt_36 (by decide) ?_
              have hPc := hP.sub (ws' := []) [] rfl
              have hKc := hK.sub (tys' := []) [] rfl
              refine vp_callSi (W.runS (As := [.int p5, .int 0, .int 1]) (rest := []) ⟨hx, hb, hml, hown, hts⟩ (c_X5_within l dC dI p5 0 1) (va_cwS 3 hts gX5_heavyAt_X5_within rfl rfl rfl (by decide +kernel) ⟨Nat.le_of_ble_eq_true rfl, Nat.le_of_ble_eq_true rfl⟩) ⟨fun a U g mk q => by obtain ⟨q0, qP, qK⟩ := q; exact ⟨q0, qP, va_K.moved (u := U) (U := U.calling g mk a) (Vm.Alike.refl U.vm) qK⟩, fun U hU hW => ⟨rfl, by rw [hU]; exact hPc, va_K.moved hW.alike hKc⟩⟩ rfl rfl hl.1 rfl (lv_room (Nat.le_of_ble_eq_true rfl)) dX5_heavyAt_37 ⟨Nat.le_of_ble_eq_true rfl, Nat.le_of_ble_eq_true rfl⟩) (fun r_7 w_7 => ?_)
              rcases w_7 with ⟨rfl, w_7⟩ | ⟨rfl, w_7⟩
              · have w_7 : (0 ≤ p5.toInt ∧ p5.toInt ≤ 1) := w_7
                refine lv_if_ne (tgt := 45) hx hb dX5_heavyAt_40 (by decide) (fun c_8 => ?_) (fun c_8 => ?_)
                · refine lv_aload_n hx hb dX5_heavyAt_45 rfl (lv_at hl 0 rfl) ?_
                  refine lv_iload_n hx hb dX5_heavyAt_46 rfl (lv_at hl 1 rfl) ?_
                  refine lv_iload_n hx hb dX5_heavyAt_47 rfl (lv_at hl 2 rfl) ?_
                  refine lv_iconst (v := 0) hx hb dX5_heavyAt_48 (by decide) ?_
                  refine lv_iconst (v := 0) hx hb dX5_heavyAt_49 (by decide) ?_
                  refine lv_iload_n hx hb dX5_heavyAt_50 rfl (lv_at hl 3 rfl) ?_
                  refine lv_iload hx hb dX5_heavyAt_51 (lv_at hl 4 rfl) ?_
                  have hPc := hP
                  have hKc := hK
                  have k_9 : (0 : Int32).toInt = 0 := rfl
                  have hDc := hD
                  have hFc := kx_free hD hS hA
                  refine va_callv (va_runV (As := [.int p0, .int p1, .int 0, .int 0, .int p2, .int p3]) (rest := []) ⟨hx, hb, hml, hown, hts⟩ (kx_un (c_X5_laysHeavy l dC dI h0 g_row g_many g_loss g_less g_voteValue g_voteNumber g_allValue g_allNumber g_nodeL g_nodeR g_part g_wasMany g_wasLoss g_wasValue g_wasNumber g_path g_heavyValue g_heavyTimes g_fewest g_which g_met m_n m_slots 1 m_allMany m_nodes m_partMany m_pathMany m_heavyMany m_mostMet cyI f zv zt p0 p1 0 0 p2 p3 H.size (om_10 w_1.1) (om_414 w_1.2.1) (om_167 a1 w_1.2.2) om_35 om_35 om_415 (om_416 a1 w_1.1 w_1.2.2))) (cwV 6 hts gX5_heavyAt_X5_laysHeavy rfl rfl rfl (by decide +kernel) ⟨Nat.le_of_ble_eq_true rfl, Nat.le_of_ble_eq_true rfl⟩) ⟨fun a U g mk q => by obtain ⟨q0, q1, qP, qK, qD⟩ := q; exact ⟨q0, q1, qP, va_K.moved (u := U) (U := U.calling g mk a) (Vm.Alike.refl U.vm) qK, qD⟩, kx_rc5 hKc hPc (q0 := 0) rfl, fun U hU hW => ⟨rfl, by rw [hU], by rw [hU]; exact hPc, va_K.moved hW.alike hKc, hDc.weaken (fun _ _ _ _ => trivial)⟩⟩ rfl rfl hl.1 rfl (lv_room (Nat.le_of_ble_eq_true rfl)) dX5_heavyAt_53 ⟨Nat.le_of_ble_eq_true rfl, Nat.le_of_ble_eq_true rfl⟩) hS (fun q _ h => hFc q h) hFc (fun u t H1 locs ht hvm w_10 hB hz1 hk1 hS => ?_)
                  obtain ⟨o_11, o_12, o_13⟩ := u
                  dsimp only at w_10 hB
                  obtain ⟨hP1, hK1, hD1⟩ := hB
                  rw [ht] at hP1
                  have hK1 := va_K.moved hvm.symm hK1
                  have hD := hD1.weaken (fun _ q _ h => hFc q.1 h)
                  have hP := hP1
                  clear hP1 hD1 hK1 hk1 hz1 hFc hDc hPc hKc
                  generalize H1 = H at hP hS ⊢
                  have w_10 : 0 ≤ o_11.toInt ∧ o_11.toInt ≤ 160 := w_10
                  refine lv_iload hx hb dX5_heavyAt_56 (lv_at hl 5 rfl) ?_
                  refine lv_iconst (v := 0) hx hb dX5_heavyAt_58 (by decide) ?_
                  refine lv_aload_n hx hb dX5_heavyAt_59 rfl (lv_at hl 0 rfl) ?_
                  refine va_get (D := (dC, dI)) (ci := 5) (v := .int o_11) (C := RX5) (T := TX5) (N := 30) hx hb hts hi_5 hown hK hP 0 rfl rfl 25 (by decide) hf_178 (fun _ h9 => h9) rfl dX5_heavyAt_60 ?_
                  refine lv_iconst (v := 1) hx hb dX5_heavyAt_63 (by decide) ?_
                  refine lv_isub hx hb dX5_heavyAt_64 ?_
                  refine lv_topi (fun y_14 ey_14 => ?_)
                  have i_14 : y_14.toInt = o_11.toInt - 1 := ki_sub ey_14 rfl rfl (om_113 w_10.1) (om_87 w_10.2)
                  have hPc := hP.sub (ws' := []) [] rfl
                  have hKc := hK.sub (tys' := []) [] rfl
                  refine vp_callSi (W.runS (As := [.int p4, .int 0, .int y_14]) (rest := []) ⟨hx, hb, hml, hown, hts⟩ (c_X5_within l dC dI p4 0 y_14) (va_cwS 3 hts gX5_heavyAt_X5_within rfl rfl rfl (by decide +kernel) ⟨Nat.le_of_ble_eq_true rfl, Nat.le_of_ble_eq_true rfl⟩) ⟨fun a U g mk q => by obtain ⟨q0, qP, qK⟩ := q; exact ⟨q0, qP, va_K.moved (u := U) (U := U.calling g mk a) (Vm.Alike.refl U.vm) qK⟩, fun U hU hW => ⟨rfl, by rw [hU]; exact hPc, va_K.moved hW.alike hKc⟩⟩ rfl rfl hl.1 rfl (lv_room (Nat.le_of_ble_eq_true rfl)) dX5_heavyAt_65 ⟨Nat.le_of_ble_eq_true rfl, Nat.le_of_ble_eq_true rfl⟩) (fun r_15 w_15 => ?_)
                  rcases w_15 with ⟨rfl, w_15⟩ | ⟨rfl, w_15⟩
                  · have w_15 : (0 ≤ p4.toInt ∧ p4.toInt ≤ y_14.toInt) := w_15
                    refine lv_if_ne (tgt := 73) hx hb dX5_heavyAt_68 (by decide) (fun c_16 => ?_) (fun c_16 => ?_)
                    · refine lv_aload_n hx hb dX5_heavyAt_73 rfl (lv_at hl 0 rfl) ?_
                      refine lv_iconst (v := 0) hx hb dX5_heavyAt_74 (by decide) ?_
                      refine va_put (D := (dC, dI)) (ci := 5) (v := .int 0) (ty := .int) (C := RX5) (T := TX5) (N := 30) hx hb hts hi_5 tyX5 tyX5_ok nmX5 hown hK hP hD hS 0 rfl rfl 3 (by decide) hf_77 (fun _ h9 => h9) rfl (by decide +kernel) rfl rfl (Nat.le_of_ble_eq_true rfl) dX5_heavyAt_75 (fun H locs hP hD hS => ?_)
                      obtain ⟨hP, hD⟩ := kx_re (w2 := [kx_5 h0 g_row m_n m_slots 0 g_many g_loss g_less g_voteValue g_voteNumber g_allValue g_allNumber m_allMany g_nodeL g_nodeR m_nodes g_part m_partMany g_wasMany g_wasLoss g_wasValue g_wasNumber g_path m_pathMany g_heavyValue g_heavyTimes o_11 g_fewest g_which g_met m_mostMet, kx_a g_row cyI 160 f, kx_a g_heavyValue cyI 160 o_12, kx_a g_heavyTimes cyI 160 o_13]) hP hD rfl
                      refine lv_iload hx hb dX5_heavyAt_78 (lv_at hl 6 rfl) ?_
                      refine lv_if_ne (tgt := 93) hx hb dX5_heavyAt_80 (by decide) (fun c_17 => ?_) (fun c_17 => ?_)
                      · have i_17 : ¬ p5.toInt = 0 := kc_ne c_17
                        refine lv_aload_n hx hb dX5_heavyAt_93 rfl (lv_at hl 0 rfl) ?_
                        refine va_get (D := (dC, dI)) (ci := 5) (v := .ref g_heavyTimes) (C := RX5) (T := TX5) (N := 30) hx hb hts hi_5 hown hK hP 0 rfl rfl 24 (by decide) hf_65 (fun _ h9 => h9) rfl dX5_heavyAt_94 ?_
                        refine lv_iload hx hb dX5_heavyAt_97 (lv_at hl 5 rfl) ?_
                        refine va_iald hx hb hK hP 3 0 rfl rfl (ki_in (om_10 w_15.1) (om_235 w_10.2 i_14 w_15.2)) dX5_heavyAt_99 ?_
                        refine lv_topi (fun y_18 ey_18 => ?_)
                        have j_18 : y_18.toInt = (o_13 p4.toNatClampNeg).toInt := congrArg Int32.toInt ey_18
                        have hP9 := hP
                        have hD9 := hD
                        have hK9 := hK
                        exact W.iret (v := y_18) hx hb hr (hlocks := hlocks) (fun t ht hW => ⟨⟨y_18, (o_11, o_12, o_13, 0), rfl, trivial, by rw [ht]; exact hP9, va_K.moved hW.alike hK9, hD9⟩, hS.F ht⟩) hS.2.2 dX5_heavyAt_100
                      · have i_17 : p5.toInt = 0 := kc_eq c_17
                        refine lv_aload_n hx hb dX5_heavyAt_83 rfl (lv_at hl 0 rfl) ?_
                        refine va_get (D := (dC, dI)) (ci := 5) (v := .ref g_heavyValue) (C := RX5) (T := TX5) (N := 30) hx hb hts hi_5 hown hK hP 0 rfl rfl 23 (by decide) hf_62 (fun _ h9 => h9) rfl dX5_heavyAt_84 ?_
                        refine lv_iload hx hb dX5_heavyAt_87 (lv_at hl 5 rfl) ?_
                        refine va_iald hx hb hK hP 2 0 rfl rfl (ki_in (om_10 w_15.1) (om_235 w_10.2 i_14 w_15.2)) dX5_heavyAt_89 ?_
                        refine lv_topi (fun y_19 ey_19 => ?_)
                        have j_19 : y_19.toInt = (o_12 p4.toNatClampNeg).toInt := congrArg Int32.toInt ey_19
                        refine lv_goto (tgt := 100) hx hb dX5_heavyAt_90 (by decide) ?_
                        have hP9 := hP
                        have hD9 := hD
                        have hK9 := hK
                        exact W.iret (v := y_19) hx hb hr (hlocks := hlocks) (fun t ht hW => ⟨⟨y_19, (o_11, o_12, o_13, 0), rfl, trivial, by rw [ht]; exact hP9, va_K.moved hW.alike hK9, hD9⟩, hS.F ht⟩) hS.2.2 dX5_heavyAt_100
                    · exact absurd c_16 (by decide)
                  · have w_15 : (p4.toInt < 0 ∨ y_14.toInt < p4.toInt) := w_15
                    refine lv_if_ne (tgt := 73) hx hb dX5_heavyAt_68 (by decide) (fun c_20 => ?_) (fun c_20 => ?_)
                    · exact absurd c_20 (by decide)
                    · refine lv_iconst (v := 0) hx hb dX5_heavyAt_71 (by decide) ?_
                      have hP9 := hP
                      have hD9 := hD
                      have hK9 := hK
                      exact W.iret (v := 0) hx hb hr (hlocks := hlocks) (fun t ht hW => ⟨⟨0, (o_11, o_12, o_13, 1), rfl, trivial, by rw [ht]; exact hP9, va_K.moved hW.alike hK9, hD9⟩, hS.F ht⟩) hS.2.2 dX5_heavyAt_72
                · exact absurd c_8 (by decide)
              · have w_7 : (p5.toInt < 0 ∨ 1 < p5.toInt) := w_7
                refine lv_if_ne (tgt := 45) hx hb dX5_heavyAt_40 (by decide) (fun c_21 => ?_) (fun c_21 => ?_)
                · exact absurd c_21 (by decide)
                · refine lv_iconst (v := 0) hx hb dX5_heavyAt_43 (by decide) ?_
                  have hP9 := hP
                  have hD9 := hD
                  have hK9 := hK
                  exact W.iret (v := 0) hx hb hr (hlocks := hlocks) (fun t ht hW => ⟨⟨0, (m_heavyMany, zv, zt, 1), rfl, trivial, by rw [ht]; exact hP9, va_K.moved hW.alike hK9, hD9⟩, hS.F ht⟩) hS.2.2 dX5_heavyAt_44
          · have w_5 : (0 : Int) ≤ 1 := w_5
            refine lv_if_eq (tgt := 43) hx hb dX5_heavyAt_30 (by decide) (fun c_22 => ?_) (fun c_22 => ?_)
            · refine lv_iconst (v := 0) hx hb dX5_heavyAt_43 (by decide) ?_
              have hP9 := hP
              have hD9 := hD
              have hK9 := hK
              exact W.iret (v := 0) hx hb hr (hlocks := hlocks) (fun t ht hW => ⟨⟨0, (m_heavyMany, zv, zt, 1), rfl, trivial, by rw [ht]; exact hP9, va_K.moved hW.alike hK9, hD9⟩, hS.F ht⟩) hS.2.2 dX5_heavyAt_44
            · exact absurd c_22 (by decide)
      · have w_3 : (p2.toInt < 1 ∨ p3.toInt < p2.toInt ∨ 999 < p3.toInt) := w_3
        refine lv_if_eq (tgt := 43) hx hb dX5_heavyAt_20 (by decide) (fun c_23 => ?_) (fun c_23 => ?_)
        · refine lv_iconst (v := 0) hx hb dX5_heavyAt_43 (by decide) ?_
          have hP9 := hP
          have hD9 := hD
          have hK9 := hK
          exact W.iret (v := 0) hx hb hr (hlocks := hlocks) (fun t ht hW => ⟨⟨0, (m_heavyMany, zv, zt, 1), rfl, trivial, by rw [ht]; exact hP9, va_K.moved hW.alike hK9, hD9⟩, hS.F ht⟩) hS.2.2 dX5_heavyAt_44
        · exact absurd c_23 (by decide)
  · have w_1 : (p0.toInt < 0 ∨ p1.toInt ≤ p0.toInt ∨ m_n.toInt < p1.toInt) := w_1
    refine lv_if_eq (tgt := 43) hx hb dX5_heavyAt_11 (by decide) (fun c_24 => ?_) (fun c_24 => ?_)
    · refine lv_iconst (v := 0) hx hb dX5_heavyAt_43 (by decide) ?_
      have hP9 := hP
      have hD9 := hD
      have hK9 := hK
      exact W.iret (v := 0) hx hb hr (hlocks := hlocks) (fun t ht hW => ⟨⟨0, (m_heavyMany, zv, zt, 1), rfl, trivial, by rw [ht]; exact hP9, va_K.moved hW.alike hK9, hD9⟩, hS.F ht⟩) hS.2.2 dX5_heavyAt_44
    · exact absurd c_24 (by decide)



abbrev cX5_least : ByteArray := prog_7_method_59_code
def yX5_least : MethodName := ⟨RX5, "least", "(IIII)I"⟩
def wsX5_least_r1 : List Cond := [Cond.fieldLink RX5 77 "MajorityIndexModel" "thrown" "I", Cond.fieldLink RX5 178 "MajorityIndexModel" "heavyMany" "I", Cond.fieldLink RX5 62 "MajorityIndexModel" "heavyValue" "[I", Cond.methodLink RX5 142 yX5_isRange, Cond.instanceMethod yX5_isRange, Cond.selects RX5 yX5_isRange yX5_isRange, Cond.initialized RX5, Cond.code yX5_isRange cX5_isRange 3 (some .boolean), Cond.fieldLink RX5 84 "MajorityIndexModel" "n" "I", Cond.methodLink RX5 184 yX5_isShare, Cond.static yX5_isShare, Cond.code yX5_isShare cX5_isShare 2 (some .boolean), Cond.methodLink RX5 80 yX5_within, Cond.static yX5_within, Cond.code yX5_within cX5_within 3 (some .boolean), Cond.methodLink RX5 190 yX5_laysHeavy, Cond.instanceMethod yX5_laysHeavy, Cond.selects RX5 yX5_laysHeavy yX5_laysHeavy, Cond.code yX5_laysHeavy cX5_laysHeavy 10 none, Cond.fieldLink RX5 7 "MajorityIndexModel" "row" "[I", Cond.methodLink RX5 149 yX5_times, Cond.instanceMethod yX5_times, Cond.selects RX5 yX5_times yX5_times, Cond.code yX5_times cX5_times 6 (some .int)]
def wsX5_least_r2 : List Cond := [Cond.methodLink RX5 181 yX5_comes, Cond.instanceMethod yX5_comes, Cond.selects RX5 yX5_comes yX5_comes, Cond.code yX5_comes cX5_comes 4 none, Cond.fieldLink RX5 65 "MajorityIndexModel" "heavyTimes" "[I", Cond.methodLink RX5 124 yX5_laysAll, Cond.instanceMethod yX5_laysAll, Cond.selects RX5 yX5_laysAll yX5_laysAll, Cond.code yX5_laysAll cX5_laysAll 2 none, Cond.fieldLink RX5 101 "MajorityIndexModel" "nodes" "I", Cond.methodLink RX5 107 yX5_lays, Cond.instanceMethod yX5_lays, Cond.selects RX5 yX5_lays yX5_lays, Cond.code yX5_lays cX5_lays 8 (some .int), Cond.fieldLink RX5 38 "MajorityIndexModel" "nodeL" "[I", Cond.fieldLink RX5 41 "MajorityIndexModel" "nodeR" "[I", Cond.methodLink RX5 104 yX5_one, Cond.instanceMethod yX5_one, Cond.selects RX5 yX5_one yX5_one, Cond.code yX5_one cX5_one 3 none, Cond.fieldLink RX5 17 "MajorityIndexModel" "many" "[I", Cond.fieldLink RX5 20 "MajorityIndexModel" "loss" "[I", Cond.fieldLink RX5 23 "MajorityIndexModel" "less" "[I", Cond.fieldLink RX5 26 "MajorityIndexModel" "voteValue" "[I"]
def wsX5_least_r3 : List Cond := [Cond.fieldLink RX5 29 "MajorityIndexModel" "voteNumber" "[I", Cond.methodLink RX5 111 yX5_together, Cond.instanceMethod yX5_together, Cond.selects RX5 yX5_together yX5_together, Cond.code yX5_together cX5_together 9 none, Cond.fieldLink RX5 87 "MajorityIndexModel" "allMany" "I", Cond.fieldLink RX5 35 "MajorityIndexModel" "allNumber" "[I", Cond.fieldLink RX5 32 "MajorityIndexModel" "allValue" "[I", Cond.methodLink RX5 94 yX5_adds, Cond.instanceMethod yX5_adds, Cond.selects RX5 yX5_adds yX5_adds, Cond.code yX5_adds cX5_adds 4 none, Cond.methodLink RX5 98 yX5_sorts, Cond.instanceMethod yX5_sorts, Cond.selects RX5 yX5_sorts yX5_sorts, Cond.code yX5_sorts cX5_sorts 4 none, Cond.methodLink RX5 90 yX5_isAhead, Cond.instanceMethod yX5_isAhead, Cond.selects RX5 yX5_isAhead yX5_isAhead, Cond.code yX5_isAhead cX5_isAhead 3 (some .boolean), Cond.methodLink RX5 168 yX5_folds, Cond.instanceMethod yX5_folds, Cond.selects RX5 yX5_folds yX5_folds, Cond.code yX5_folds cX5_folds 6 none]
def wsX5_least_r4 : List Cond := [Cond.fieldLink RX5 44 "MajorityIndexModel" "part" "[I", Cond.fieldLink RX5 115 "MajorityIndexModel" "partMany" "I", Cond.methodLink RX5 118 yX5_laysParts, Cond.instanceMethod yX5_laysParts, Cond.selects RX5 yX5_laysParts yX5_laysParts, Cond.code yX5_laysParts cX5_laysParts 5 none, Cond.methodLink RX5 121 yX5_copies, Cond.instanceMethod yX5_copies, Cond.selects RX5 yX5_copies yX5_copies, Cond.code yX5_copies cX5_copies 4 none, Cond.methodLink RX5 165 yX5_numberOf, Cond.instanceMethod yX5_numberOf, Cond.selects RX5 yX5_numberOf yX5_numberOf, Cond.code yX5_numberOf cX5_numberOf 4 (some .int)]
def wsX5_least : List Cond := .code yX5_least cX5_least 8 (some .int) :: ((wsX5_least_r1 ++ (wsX5_least_r2 ++ (wsX5_least_r3 ++ wsX5_least_r4))) ++ wsX50)
theorem mi_wsX5_least_wsX5_least_r1 : ∀ w ∈ wsX5_least_r1, w ∈ wsX5_least := fun _ h => (List.mem_cons_of_mem _ (List.mem_append_left _ (List.mem_append_left _ h)))
theorem mi_wsX5_least_wsX50 : ∀ w ∈ wsX50, w ∈ wsX5_least := fun _ h => (List.mem_cons_of_mem _ (List.mem_append_right _ h))
set_option maxRecDepth 20000 in
theorem ggX5_least_X5_isRange : GoodIn wsX5_least wsX5_isRange := goodIn_m _ [(wsX5_least_r1, [false, false, false, false, false, false, false, true, true]), (wsX50, [true, true, true, true, true, true, true, true, true, true, true, true, true, true, true, true, true, true, true, true, true, true, true, true, true, true, true, true, true, true])] (gm_c mi_wsX5_least_wsX5_least_r1 (gm_c mi_wsX5_least_wsX50 gm_n)) rfl (by decide +kernel)
set_option maxRecDepth 20000 in
theorem gX5_least_X5_isRange : GoodIn wsX5_least (wsV RX5 142 RX5 yX5_isRange wsX5_isRange) := goodIn_app (goodIn_m _ [(wsX5_least_r1, [false, false, false, true, true, true, true])] (gm_c mi_wsX5_least_wsX5_least_r1 gm_n) rfl (by decide +kernel)) ggX5_least_X5_isRange
set_option maxRecDepth 20000 in
theorem ggX5_least_X5_isShare : GoodIn wsX5_least wsX5_isShare := goodIn_m _ [(wsX5_least_r1, [false, false, false, false, false, false, false, false, false, false, false, true, true, true]), (wsX5_least_r1, [false, false, false, false, false, false, true, false, false, false, false, false, false, false, true])] (gm_c mi_wsX5_least_wsX5_least_r1 (gm_c mi_wsX5_least_wsX5_least_r1 gm_n)) rfl (by decide +kernel)
set_option maxRecDepth 20000 in
theorem gX5_least_X5_isShare : GoodIn wsX5_least (va_wsS RX5 184 yX5_isShare wsX5_isShare) := goodIn_app (goodIn_m _ [(wsX5_least_r1, [false, false, false, false, false, false, false, false, false, true, true]), (wsX5_least_r1, [false, false, false, false, false, false, true])] (gm_c mi_wsX5_least_wsX5_least_r1 (gm_c mi_wsX5_least_wsX5_least_r1 gm_n)) rfl (by decide +kernel)) ggX5_least_X5_isShare
theorem mi_wsX5_least_wsX5_least_r2 : ∀ w ∈ wsX5_least_r2, w ∈ wsX5_least := fun _ h => (List.mem_cons_of_mem _ (List.mem_append_left _ (List.mem_append_right _ (List.mem_append_left _ h))))
set_option maxRecDepth 20000 in
theorem ggX5_least_X5_laysHeavy : GoodIn wsX5_least wsX5_laysHeavy := goodIn_m _ [(wsX5_least_r1, [false, false, false, false, false, false, false, false, false, false, false, false, false, false, false, false, false, false, true]), (wsX5_least_r1, [false, true, false, false, false, false, false, false, false, false, false, false, false, false, false, false, false, false, false, true, true, true, true]), (wsX5_least_r1, [false, false, false, false, false, false, true, false, false, false, false, false, false, false, false, false, false, false, false, false, false, false, false, true]), (wsX5_least_r2, [true, true, true, true, true]), (wsX5_least_r1, [false, false, true]), (wsX50, [true, true, true, true, true, true, true, true, true, true, true, true, true, true, true, true, true, true, true, true, true, true, true, true, true, true, true, true, true, true])] (gm_c mi_wsX5_least_wsX5_least_r1 (gm_c mi_wsX5_least_wsX5_least_r1 (gm_c mi_wsX5_least_wsX5_least_r1 (gm_c mi_wsX5_least_wsX5_least_r2 (gm_c mi_wsX5_least_wsX5_least_r1 (gm_c mi_wsX5_least_wsX50 gm_n)))))) rfl (by decide +kernel)
set_option maxRecDepth 20000 in
theorem gX5_least_X5_laysHeavy : GoodIn wsX5_least (wsV RX5 190 RX5 yX5_laysHeavy wsX5_laysHeavy) := goodIn_app (goodIn_m _ [(wsX5_least_r1, [false, false, false, false, false, false, false, false, false, false, false, false, false, false, false, true, true, true]), (wsX5_least_r1, [false, false, false, false, false, false, true])] (gm_c mi_wsX5_least_wsX5_least_r1 (gm_c mi_wsX5_least_wsX5_least_r1 gm_n)) rfl (by decide +kernel)) ggX5_least_X5_laysHeavy
theorem mi_wsX5_least_wsX5_least_r3 : ∀ w ∈ wsX5_least_r3, w ∈ wsX5_least := fun _ h => (List.mem_cons_of_mem _ (List.mem_append_left _ (List.mem_append_right _ (List.mem_append_right _ (List.mem_append_left _ h)))))
set_option maxRecDepth 20000 in
theorem ggX5_least_X5_laysAll : GoodIn wsX5_least wsX5_laysAll := goodIn_m _ [(wsX5_least_r2, [false, false, false, false, false, false, false, false, true, true]), (wsX5_least_r1, [false, false, false, false, false, false, false, false, true]), (wsX5_least_r2, [false, false, false, false, false, false, false, false, false, false, true, true, true]), (wsX5_least_r1, [false, false, false, false, false, false, true]), (wsX5_least_r2, [false, false, false, false, false, false, false, false, false, false, false, false, false, true, true, true]), (wsX5_least_r1, [false, false, false, false, false, false, false, false, false, false, false, false, false, false, false, false, false, false, false, true]), (wsX5_least_r2, [false, false, false, false, false, false, false, false, false, false, false, false, false, false, false, false, true, true, true, true, true, true, true, true]), (wsX5_least_r3, [true, true, true, true, true, true, true, true, true, true, true, true, true, true, true, true, true, true, true, true]), (wsX50, [true, true, true, true, true, true, true, true, true, true, true, true, true, true, true, true, true, true, true, true, true, true, true, true, true, true, true, true, true, true])] (gm_c mi_wsX5_least_wsX5_least_r2 (gm_c mi_wsX5_least_wsX5_least_r1 (gm_c mi_wsX5_least_wsX5_least_r2 (gm_c mi_wsX5_least_wsX5_least_r1 (gm_c mi_wsX5_least_wsX5_least_r2 (gm_c mi_wsX5_least_wsX5_least_r1 (gm_c mi_wsX5_least_wsX5_least_r2 (gm_c mi_wsX5_least_wsX5_least_r3 (gm_c mi_wsX5_least_wsX50 gm_n))))))))) rfl (by decide +kernel)
set_option maxRecDepth 20000 in
theorem gX5_least_X5_laysAll : GoodIn wsX5_least (wsV RX5 124 RX5 yX5_laysAll wsX5_laysAll) := goodIn_app (goodIn_m _ [(wsX5_least_r2, [false, false, false, false, false, true, true, true]), (wsX5_least_r1, [false, false, false, false, false, false, true])] (gm_c mi_wsX5_least_wsX5_least_r2 (gm_c mi_wsX5_least_wsX5_least_r1 gm_n)) rfl (by decide +kernel)) ggX5_least_X5_laysAll
theorem mi_wsX5_least_wsX5_least_r4 : ∀ w ∈ wsX5_least_r4, w ∈ wsX5_least := fun _ h => (List.mem_cons_of_mem _ (List.mem_append_left _ (List.mem_append_right _ (List.mem_append_right _ (List.mem_append_right _ h)))))
set_option maxRecDepth 20000 in
theorem ggX5_least_X5_folds : GoodIn wsX5_least wsX5_folds := goodIn_m _ [(wsX5_least_r3, [false, false, false, false, false, false, false, false, false, false, false, false, false, false, false, false, false, false, false, false, false, false, false, true]), (wsX5_least_r4, [true, true, true, true, true]), (wsX5_least_r1, [false, false, false, false, false, false, true]), (wsX5_least_r4, [false, false, false, false, false, true]), (wsX5_least_r2, [false, false, false, false, false, false, false, false, false, true, false, false, false, false, true, true]), (wsX5_least_r4, [false, false, false, false, false, false, true, true, true, true]), (wsX5_least_r2, [false, false, false, false, false, false, false, false, false, false, false, false, false, false, false, false, false, false, false, false, true, true, true, true]), (wsX5_least_r3, [true, true, true, true, true, true, true, true, true, true, true, true, true, true, true, true, true, true, true, true]), (wsX50, [true, true, true, true, true, true, true, true, true, true, true, true, true, true, true, true, true, true, true, true, true, true, true, true, true, true, true, true, true, true])] (gm_c mi_wsX5_least_wsX5_least_r3 (gm_c mi_wsX5_least_wsX5_least_r4 (gm_c mi_wsX5_least_wsX5_least_r1 (gm_c mi_wsX5_least_wsX5_least_r4 (gm_c mi_wsX5_least_wsX5_least_r2 (gm_c mi_wsX5_least_wsX5_least_r4 (gm_c mi_wsX5_least_wsX5_least_r2 (gm_c mi_wsX5_least_wsX5_least_r3 (gm_c mi_wsX5_least_wsX50 gm_n))))))))) rfl (by decide +kernel)
set_option maxRecDepth 20000 in
theorem gX5_least_X5_folds : GoodIn wsX5_least (wsV RX5 168 RX5 yX5_folds wsX5_folds) := goodIn_app (goodIn_m _ [(wsX5_least_r3, [false, false, false, false, false, false, false, false, false, false, false, false, false, false, false, false, false, false, false, false, true, true, true]), (wsX5_least_r1, [false, false, false, false, false, false, true])] (gm_c mi_wsX5_least_wsX5_least_r3 (gm_c mi_wsX5_least_wsX5_least_r1 gm_n)) rfl (by decide +kernel)) ggX5_least_X5_folds
set_option maxRecDepth 20000 in
theorem ggX5_least_X5_numberOf : GoodIn wsX5_least wsX5_numberOf := goodIn_m _ [(wsX5_least_r4, [false, false, false, false, false, false, false, false, false, false, false, false, false, true]), (wsX5_least_r2, [false, false, false, false, false, false, false, false, false, false, false, false, false, false, false, false, false, false, false, false, true, false, false, true]), (wsX5_least_r3, [true]), (wsX50, [true, true, true, true, true, true, true, true, true, true, true, true, true, true, true, true, true, true, true, true, true, true, true, true, true, true, true, true, true, true])] (gm_c mi_wsX5_least_wsX5_least_r4 (gm_c mi_wsX5_least_wsX5_least_r2 (gm_c mi_wsX5_least_wsX5_least_r3 (gm_c mi_wsX5_least_wsX50 gm_n)))) rfl (by decide +kernel)
set_option maxRecDepth 20000 in
theorem gX5_least_X5_numberOf : GoodIn wsX5_least (wsV RX5 165 RX5 yX5_numberOf wsX5_numberOf) := goodIn_app (goodIn_m _ [(wsX5_least_r4, [false, false, false, false, false, false, false, false, false, false, true, true, true]), (wsX5_least_r1, [false, false, false, false, false, false, true])] (gm_c mi_wsX5_least_wsX5_least_r4 (gm_c mi_wsX5_least_wsX5_least_r1 gm_n)) rfl (by decide +kernel)) ggX5_least_X5_numberOf
def dt_cX5_least_0 : List (Nat × Nat × Nat × Nat) := [(0, 42, 0, 0), (1, 3, 0, 0), (2, 181, 2, 77), (5, 42, 0, 0), (6, 27, 0, 0), (7, 28, 0, 0), (8, 182, 2, 142), (11, 153, 2, 20), (14, 28, 0, 0), (15, 27, 0, 0), (16, 100, 0, 0), (17, 16, 1, 64), (19, 163, 2, 12), (22, 29, 0, 0), (23, 21, 1, 4), (25, 184, 2, 184), (28, 154, 2, 5), (31, 2, 0, 0), (32, 172, 0, 0), (33, 42, 0, 0)]
theorem da_cX5_least_0 : fw dt_cX5_least_0 0 cX5_least.data.toList = true := by decide +kernel
theorem dX5_least_0 : decode cX5_least 0 = .ok (.aload_n 0, 1) := fo_42 (fw_get da_cX5_least_0 0 rfl)
theorem dX5_least_1 : decode cX5_least 1 = .ok (.iconst 0, 1) := fo_3 (fw_get da_cX5_least_0 1 rfl)
theorem dX5_least_2 : decode cX5_least 2 = .ok (.putfield 77, 3) := fo_181 (fw_get da_cX5_least_0 2 rfl)
theorem dX5_least_5 : decode cX5_least 5 = .ok (.aload_n 0, 1) := fo_42 (fw_get da_cX5_least_0 3 rfl)
theorem dX5_least_6 : decode cX5_least 6 = .ok (.iload_n 1, 1) := fo_27 (fw_get da_cX5_least_0 4 rfl)
theorem dX5_least_7 : decode cX5_least 7 = .ok (.iload_n 2, 1) := fo_28 (fw_get da_cX5_least_0 5 rfl)
theorem dX5_least_8 : decode cX5_least 8 = .ok (.invokevirtual 142, 3) := fo_182 (fw_get da_cX5_least_0 6 rfl)
theorem dX5_least_11 : decode cX5_least 11 = .ok (.ifCond .eq 20, 3) := fo_153 (fw_get da_cX5_least_0 7 rfl) (by decide +kernel)
theorem dX5_least_14 : decode cX5_least 14 = .ok (.iload_n 2, 1) := fo_28 (fw_get da_cX5_least_0 8 rfl)
theorem dX5_least_15 : decode cX5_least 15 = .ok (.iload_n 1, 1) := fo_27 (fw_get da_cX5_least_0 9 rfl)
theorem dX5_least_16 : decode cX5_least 16 = .ok (.isub, 1) := fo_100 (fw_get da_cX5_least_0 10 rfl)
theorem dX5_least_17 : decode cX5_least 17 = .ok (.bipush 64, 2) := fo_16 (fw_get da_cX5_least_0 11 rfl) (by decide +kernel)
theorem dX5_least_19 : decode cX5_least 19 = .ok (.if_icmp .gt 12, 3) := fo_163 (fw_get da_cX5_least_0 12 rfl) (by decide +kernel)
theorem dX5_least_22 : decode cX5_least 22 = .ok (.iload_n 3, 1) := fo_29 (fw_get da_cX5_least_0 13 rfl)
theorem dX5_least_23 : decode cX5_least 23 = .ok (.iload 4, 2) := fo_21 (fw_get da_cX5_least_0 14 rfl)
theorem dX5_least_25 : decode cX5_least 25 = .ok (.invokestatic 184, 3) := fo_184 (fw_get da_cX5_least_0 15 rfl)
theorem dX5_least_28 : decode cX5_least 28 = .ok (.ifCond .ne 5, 3) := fo_154 (fw_get da_cX5_least_0 16 rfl) (by decide +kernel)
theorem dX5_least_31 : decode cX5_least 31 = .ok (.iconst (-1), 1) := fo_2 (fw_get da_cX5_least_0 17 rfl)
theorem dX5_least_32 : decode cX5_least 32 = .ok (.ireturn, 1) := fo_172 (fw_get da_cX5_least_0 18 rfl)
theorem dX5_least_33 : decode cX5_least 33 = .ok (.aload_n 0, 1) := fo_42 (fw_get da_cX5_least_0 19 rfl)
def dt_cX5_least_1 : List (Nat × Nat × Nat × Nat) := [(34, 27, 0, 0), (35, 28, 0, 0), (36, 3, 0, 0), (37, 3, 0, 0), (38, 29, 0, 0), (39, 21, 1, 4), (41, 182, 2, 190), (44, 4, 0, 0), (45, 54, 1, 5), (47, 21, 1, 5), (49, 16, 1, 6), (51, 163, 2, 84), (54, 42, 0, 0), (55, 21, 1, 5), (57, 182, 2, 124), (60, 42, 0, 0), (61, 27, 0, 0), (62, 28, 0, 0), (63, 17, 2, 320), (66, 21, 1, 5)]
theorem da_cX5_least_1 : fw dt_cX5_least_1 0 cX5_least.data.toList = true := by decide +kernel
theorem dX5_least_34 : decode cX5_least 34 = .ok (.iload_n 1, 1) := fo_27 (fw_get da_cX5_least_1 0 rfl)
theorem dX5_least_35 : decode cX5_least 35 = .ok (.iload_n 2, 1) := fo_28 (fw_get da_cX5_least_1 1 rfl)
theorem dX5_least_36 : decode cX5_least 36 = .ok (.iconst 0, 1) := fo_3 (fw_get da_cX5_least_1 2 rfl)
theorem dX5_least_37 : decode cX5_least 37 = .ok (.iconst 0, 1) := fo_3 (fw_get da_cX5_least_1 3 rfl)
theorem dX5_least_38 : decode cX5_least 38 = .ok (.iload_n 3, 1) := fo_29 (fw_get da_cX5_least_1 4 rfl)
theorem dX5_least_39 : decode cX5_least 39 = .ok (.iload 4, 2) := fo_21 (fw_get da_cX5_least_1 5 rfl)
theorem dX5_least_41 : decode cX5_least 41 = .ok (.invokevirtual 190, 3) := fo_182 (fw_get da_cX5_least_1 6 rfl)
theorem dX5_least_44 : decode cX5_least 44 = .ok (.iconst 1, 1) := fo_4 (fw_get da_cX5_least_1 7 rfl)
theorem dX5_least_45 : decode cX5_least 45 = .ok (.istore 5, 2) := fo_54 (fw_get da_cX5_least_1 8 rfl)
theorem dX5_least_47 : decode cX5_least 47 = .ok (.iload 5, 2) := fo_21 (fw_get da_cX5_least_1 9 rfl)
theorem dX5_least_49 : decode cX5_least 49 = .ok (.bipush 6, 2) := fo_16 (fw_get da_cX5_least_1 10 rfl) (by decide +kernel)
theorem dX5_least_51 : decode cX5_least 51 = .ok (.if_icmp .gt 84, 3) := fo_163 (fw_get da_cX5_least_1 11 rfl) (by decide +kernel)
theorem dX5_least_54 : decode cX5_least 54 = .ok (.aload_n 0, 1) := fo_42 (fw_get da_cX5_least_1 12 rfl)
theorem dX5_least_55 : decode cX5_least 55 = .ok (.iload 5, 2) := fo_21 (fw_get da_cX5_least_1 13 rfl)
theorem dX5_least_57 : decode cX5_least 57 = .ok (.invokevirtual 124, 3) := fo_182 (fw_get da_cX5_least_1 14 rfl)
theorem dX5_least_60 : decode cX5_least 60 = .ok (.aload_n 0, 1) := fo_42 (fw_get da_cX5_least_1 15 rfl)
theorem dX5_least_61 : decode cX5_least 61 = .ok (.iload_n 1, 1) := fo_27 (fw_get da_cX5_least_1 16 rfl)
theorem dX5_least_62 : decode cX5_least 62 = .ok (.iload_n 2, 1) := fo_28 (fw_get da_cX5_least_1 17 rfl)
theorem dX5_least_63 : decode cX5_least 63 = .ok (.sipush 320, 3) := fo_17 (fw_get da_cX5_least_1 18 rfl) (by decide +kernel)
theorem dX5_least_66 : decode cX5_least 66 = .ok (.iload 5, 2) := fo_21 (fw_get da_cX5_least_1 19 rfl)
def dt_cX5_least_2 : List (Nat × Nat × Nat × Nat) := [(68, 182, 2, 168), (71, 4, 0, 0), (72, 54, 1, 6), (74, 3, 0, 0), (75, 54, 1, 7), (77, 21, 1, 7), (79, 42, 0, 0), (80, 180, 2, 178), (83, 162, 2, 38), (86, 21, 1, 6), (88, 153, 2, 33), (91, 42, 0, 0), (92, 17, 2, 320), (95, 42, 0, 0), (96, 180, 2, 62), (99, 21, 1, 7), (101, 46, 0, 0), (102, 182, 2, 165), (105, 158, 2, 7), (108, 4, 0, 0)]
theorem da_cX5_least_2 : fw dt_cX5_least_2 0 cX5_least.data.toList = true := by decide +kernel
theorem dX5_least_68 : decode cX5_least 68 = .ok (.invokevirtual 168, 3) := fo_182 (fw_get da_cX5_least_2 0 rfl)
theorem dX5_least_71 : decode cX5_least 71 = .ok (.iconst 1, 1) := fo_4 (fw_get da_cX5_least_2 1 rfl)
theorem dX5_least_72 : decode cX5_least 72 = .ok (.istore 6, 2) := fo_54 (fw_get da_cX5_least_2 2 rfl)
theorem dX5_least_74 : decode cX5_least 74 = .ok (.iconst 0, 1) := fo_3 (fw_get da_cX5_least_2 3 rfl)
theorem dX5_least_75 : decode cX5_least 75 = .ok (.istore 7, 2) := fo_54 (fw_get da_cX5_least_2 4 rfl)
theorem dX5_least_77 : decode cX5_least 77 = .ok (.iload 7, 2) := fo_21 (fw_get da_cX5_least_2 5 rfl)
theorem dX5_least_79 : decode cX5_least 79 = .ok (.aload_n 0, 1) := fo_42 (fw_get da_cX5_least_2 6 rfl)
theorem dX5_least_80 : decode cX5_least 80 = .ok (.getfield 178, 3) := fo_180 (fw_get da_cX5_least_2 7 rfl)
theorem dX5_least_83 : decode cX5_least 83 = .ok (.if_icmp .ge 38, 3) := fo_162 (fw_get da_cX5_least_2 8 rfl) (by decide +kernel)
theorem dX5_least_86 : decode cX5_least 86 = .ok (.iload 6, 2) := fo_21 (fw_get da_cX5_least_2 9 rfl)
theorem dX5_least_88 : decode cX5_least 88 = .ok (.ifCond .eq 33, 3) := fo_153 (fw_get da_cX5_least_2 10 rfl) (by decide +kernel)
theorem dX5_least_91 : decode cX5_least 91 = .ok (.aload_n 0, 1) := fo_42 (fw_get da_cX5_least_2 11 rfl)
theorem dX5_least_92 : decode cX5_least 92 = .ok (.sipush 320, 3) := fo_17 (fw_get da_cX5_least_2 12 rfl) (by decide +kernel)
theorem dX5_least_95 : decode cX5_least 95 = .ok (.aload_n 0, 1) := fo_42 (fw_get da_cX5_least_2 13 rfl)
theorem dX5_least_96 : decode cX5_least 96 = .ok (.getfield 62, 3) := fo_180 (fw_get da_cX5_least_2 14 rfl)
theorem dX5_least_99 : decode cX5_least 99 = .ok (.iload 7, 2) := fo_21 (fw_get da_cX5_least_2 15 rfl)
theorem dX5_least_101 : decode cX5_least 101 = .ok (.iaload, 1) := fo_46 (fw_get da_cX5_least_2 16 rfl)
theorem dX5_least_102 : decode cX5_least 102 = .ok (.invokevirtual 165, 3) := fo_182 (fw_get da_cX5_least_2 17 rfl)
theorem dX5_least_105 : decode cX5_least 105 = .ok (.ifCond .le 7, 3) := fo_158 (fw_get da_cX5_least_2 18 rfl) (by decide +kernel)
theorem dX5_least_108 : decode cX5_least 108 = .ok (.iconst 1, 1) := fo_4 (fw_get da_cX5_least_2 19 rfl)
def dt_cX5_least_3 : List (Nat × Nat × Nat × Nat) := [(109, 167, 2, 4), (112, 3, 0, 0), (113, 54, 1, 6), (115, 132, 2, 1793), (118, 167, 2, 65495), (121, 21, 1, 6), (123, 153, 2, 6), (126, 21, 1, 5), (128, 172, 0, 0), (129, 132, 2, 1281), (132, 167, 2, 65451), (135, 16, 1, 254), (137, 172, 0, 0)]
theorem da_cX5_least_3 : fw dt_cX5_least_3 0 cX5_least.data.toList = true := by decide +kernel
theorem dX5_least_109 : decode cX5_least 109 = .ok (.goto 4, 3) := fo_167 (fw_get da_cX5_least_3 0 rfl) (by decide +kernel)
theorem dX5_least_112 : decode cX5_least 112 = .ok (.iconst 0, 1) := fo_3 (fw_get da_cX5_least_3 1 rfl)
theorem dX5_least_113 : decode cX5_least 113 = .ok (.istore 6, 2) := fo_54 (fw_get da_cX5_least_3 2 rfl)
theorem dX5_least_115 : decode cX5_least 115 = .ok (.iinc 7 1, 3) := fo_132 (fw_get da_cX5_least_3 3 rfl) rfl (by decide +kernel)
theorem dX5_least_118 : decode cX5_least 118 = .ok (.goto (-41), 3) := fo_167 (fw_get da_cX5_least_3 4 rfl) (by decide +kernel)
theorem dX5_least_121 : decode cX5_least 121 = .ok (.iload 6, 2) := fo_21 (fw_get da_cX5_least_3 5 rfl)
theorem dX5_least_123 : decode cX5_least 123 = .ok (.ifCond .eq 6, 3) := fo_153 (fw_get da_cX5_least_3 6 rfl) (by decide +kernel)
theorem dX5_least_126 : decode cX5_least 126 = .ok (.iload 5, 2) := fo_21 (fw_get da_cX5_least_3 7 rfl)
theorem dX5_least_128 : decode cX5_least 128 = .ok (.ireturn, 1) := fo_172 (fw_get da_cX5_least_3 8 rfl)
theorem dX5_least_129 : decode cX5_least 129 = .ok (.iinc 5 1, 3) := fo_132 (fw_get da_cX5_least_3 9 rfl) rfl (by decide +kernel)
theorem dX5_least_132 : decode cX5_least 132 = .ok (.goto (-85), 3) := fo_167 (fw_get da_cX5_least_3 10 rfl) (by decide +kernel)
theorem dX5_least_135 : decode cX5_least 135 = .ok (.bipush (-2), 2) := fo_16 (fw_get da_cX5_least_3 11 rfl) (by decide +kernel)
theorem dX5_least_137 : decode cX5_least 137 = .ok (.ireturn, 1) := fo_172 (fw_get da_cX5_least_3 12 rfl)


set_option maxHeartbeats 4000000 in
set_option maxRecDepth 100000 in
theorem c_X5_least (l : Launch) (dC : Nat → ClassId) (dI : Nat → Nat → Nat) (h0 : Nat) (g_row : Nat) (g_many : Nat) (g_loss : Nat) (g_less : Nat) (g_voteValue : Nat) (g_voteNumber : Nat) (g_allValue : Nat) (g_allNumber : Nat) (g_nodeL : Nat) (g_nodeR : Nat) (g_part : Nat) (g_wasMany : Nat) (g_wasLoss : Nat) (g_wasValue : Nat) (g_wasNumber : Nat) (g_path : Nat) (g_heavyValue : Nat) (g_heavyTimes : Nat) (g_fewest : Nat) (g_which : Nat) (g_met : Nat) (m_n : Int32) (m_slots : Int32) (m_thrown : Int32) (m_allMany : Int32) (m_nodes : Int32) (m_partMany : Int32) (m_pathMany : Int32) (m_heavyMany : Int32) (m_mostMet : Int32) (cyI : ClassId) (fm : Nat → Int32) (fl : Nat → Int32) (fe : Nat → Int32) (vv : Nat → Int32) (vn : Nat → Int32) (f : Nat → Int32) (av : Nat → Int32) (an : Nat → Int32) (nl : Nat → Int32) (nr : Nat → Int32) (gp : Nat → Int32) (zv : Nat → Int32) (zt : Nat → Int32) (p0 : Int32) (p1 : Int32) (p2 : Int32) (p3 : Int32) (sz : Nat) (a0 : 0 ≤ m_n.toInt) (a1 : m_n.toInt ≤ 160) (sl0 : 1 ≤ m_slots.toInt) (sl1 : m_slots.toInt ≤ 6) (s4 : six4 fm) (q0 : parts320 gp) : kx_MQ l (dC, dI) yX5_least wsX5_least ({ frames := 12, cells := 0, slots := 0, locals := 540 }) [.ref h0, .int p0, .int p1, .int p2, .int p3] [kx_5 h0 g_row m_n m_slots m_thrown g_many g_loss g_less g_voteValue g_voteNumber g_allValue g_allNumber m_allMany g_nodeL g_nodeR m_nodes g_part m_partMany g_wasMany g_wasLoss g_wasValue g_wasNumber g_path m_pathMany g_heavyValue g_heavyTimes m_heavyMany g_fewest g_which g_met m_mostMet, kx_a g_row cyI 160 f, kx_a g_many cyI 324 fm, kx_a g_loss cyI 324 fl, kx_a g_less cyI 324 fe, kx_a g_voteValue cyI 1944 vv, kx_a g_voteNumber cyI 1944 vn, kx_a g_allValue cyI 12 av, kx_a g_allNumber cyI 12 an, kx_a g_nodeL cyI 320 nl, kx_a g_nodeR cyI 320 nr, kx_a g_part cyI 320 gp, kx_a g_heavyValue cyI 160 zv, kx_a g_heavyTimes cyI 160 zt] [(cyI, .int)] sz (fun A => va_Qi (fun (r : Int32) (u : Int32 × Int32 × Int32 × Int32 × (Nat → Int32) × (Nat → Int32) × (Nat → Int32) × (Nat → Int32) × (Nat → Int32) × (Nat → Int32) × (Nat → Int32) × (Nat → Int32) × (Nat → Int32) × (Nat → Int32) × (Nat → Int32) × (Nat → Int32)) => six4 u.2.2.2.2.1 ∧ parts320 u.2.2.2.2.2.2.2.2.2.2.2.2.2.1) (fun (u : Int32 × Int32 × Int32 × Int32 × (Nat → Int32) × (Nat → Int32) × (Nat → Int32) × (Nat → Int32) × (Nat → Int32) × (Nat → Int32) × (Nat → Int32) × (Nat → Int32) × (Nat → Int32) × (Nat → Int32) × (Nat → Int32) × (Nat → Int32)) (t : State) => va_P (dC, dI) vwCl [kx_5 h0 g_row m_n m_slots 0 g_many g_loss g_less g_voteValue g_voteNumber g_allValue g_allNumber u.2.1 g_nodeL g_nodeR u.1 g_part u.2.2.1 g_wasMany g_wasLoss g_wasValue g_wasNumber g_path m_pathMany g_heavyValue g_heavyTimes u.2.2.2.1 g_fewest g_which g_met m_mostMet, kx_a g_row cyI 160 f, kx_a g_many cyI 324 u.2.2.2.2.1, kx_a g_loss cyI 324 u.2.2.2.2.2.1, kx_a g_less cyI 324 u.2.2.2.2.2.2.1, kx_a g_voteValue cyI 1944 u.2.2.2.2.2.2.2.1, kx_a g_voteNumber cyI 1944 u.2.2.2.2.2.2.2.2.1, kx_a g_allValue cyI 12 u.2.2.2.2.2.2.2.2.2.1, kx_a g_allNumber cyI 12 u.2.2.2.2.2.2.2.2.2.2.1, kx_a g_nodeL cyI 320 u.2.2.2.2.2.2.2.2.2.2.2.1, kx_a g_nodeR cyI 320 u.2.2.2.2.2.2.2.2.2.2.2.2.1, kx_a g_part cyI 320 u.2.2.2.2.2.2.2.2.2.2.2.2.2.1, kx_a g_heavyValue cyI 160 u.2.2.2.2.2.2.2.2.2.2.2.2.2.2.1, kx_a g_heavyTimes cyI 160 u.2.2.2.2.2.2.2.2.2.2.2.2.2.2.2] t.heap ∧ va_K (dC, dI) vwCl [(cyI, .int)] t ∧ va_D A [kx_5 h0 g_row m_n m_slots 0 g_many g_loss g_less g_voteValue g_voteNumber g_allValue g_allNumber u.2.1 g_nodeL g_nodeR u.1 g_part u.2.2.1 g_wasMany g_wasLoss g_wasValue g_wasNumber g_path m_pathMany g_heavyValue g_heavyTimes u.2.2.2.1 g_fewest g_which g_met m_mostMet, kx_a g_row cyI 160 f, kx_a g_many cyI 324 u.2.2.2.2.1, kx_a g_loss cyI 324 u.2.2.2.2.2.1, kx_a g_less cyI 324 u.2.2.2.2.2.2.1, kx_a g_voteValue cyI 1944 u.2.2.2.2.2.2.2.1, kx_a g_voteNumber cyI 1944 u.2.2.2.2.2.2.2.2.1, kx_a g_allValue cyI 12 u.2.2.2.2.2.2.2.2.2.1, kx_a g_allNumber cyI 12 u.2.2.2.2.2.2.2.2.2.2.1, kx_a g_nodeL cyI 320 u.2.2.2.2.2.2.2.2.2.2.2.1, kx_a g_nodeR cyI 320 u.2.2.2.2.2.2.2.2.2.2.2.2.1, kx_a g_part cyI 320 u.2.2.2.2.2.2.2.2.2.2.2.2.2.1, kx_a g_heavyValue cyI 160 u.2.2.2.2.2.2.2.2.2.2.2.2.2.2.1, kx_a g_heavyTimes cyI 160 u.2.2.2.2.2.2.2.2.2.2.2.2.2.2.2]) A) := by
  refine kx_stQ (ws := wsX5_least) (cc := cX5_least) (maxL := 8) (ret := (some .int)) (by decide) rfl (Nat.le_of_ble_eq_true rfl) ?_
  intro p e s m below meth c A ls hx hb hr hlocks hts hown hml hA hS hP hK hD hl
  have hown : s.vm.findClass RX5 = some m.cls := hown
  have hl : lv_has ls 8 [(0, .ref h0), (1, .int p0), (2, .int p1), (3, .int p2), (4, .int p3)] := hl
  have hf_77 := hts (.fieldLink RX5 77 "MajorityIndexModel" "thrown" "I") (List.mem_of_getElem? (i := 1) rfl)
  have hi_5 : ∀ w ∈ u_ws RX5 TX5 30, w ∈ wsX5_least := fun w h => List.mem_cons_of_mem _ (List.mem_append_right _ h)
  have hf_178 := hts (.fieldLink RX5 178 "MajorityIndexModel" "heavyMany" "I") (List.mem_of_getElem? (i := 2) rfl)
  have hf_62 := hts (.fieldLink RX5 62 "MajorityIndexModel" "heavyValue" "[I") (List.mem_of_getElem? (i := 3) rfl)
  refine lv_aload_n hx hb dX5_least_0 rfl (lv_at hl 0 rfl) ?_
  refine lv_iconst (v := 0) hx hb dX5_least_1 (by decide) ?_
  refine va_put (D := (dC, dI)) (ci := 5) (v := .int 0) (ty := .int) (C := RX5) (T := TX5) (N := 30) hx hb hts hi_5 tyX5 tyX5_ok nmX5 hown hK hP hD hS 0 rfl rfl 3 (by decide) hf_77 (fun _ h9 => h9) rfl (by decide +kernel) rfl rfl (Nat.le_of_ble_eq_true rfl) dX5_least_2 (fun H locs hP hD hS => ?_)
  obtain ⟨hP, hD⟩ := kx_re (w2 := [kx_5 h0 g_row m_n m_slots 0 g_many g_loss g_less g_voteValue g_voteNumber g_allValue g_allNumber m_allMany g_nodeL g_nodeR m_nodes g_part m_partMany g_wasMany g_wasLoss g_wasValue g_wasNumber g_path m_pathMany g_heavyValue g_heavyTimes m_heavyMany g_fewest g_which g_met m_mostMet, kx_a g_row cyI 160 f, kx_a g_many cyI 324 fm, kx_a g_loss cyI 324 fl, kx_a g_less cyI 324 fe, kx_a g_voteValue cyI 1944 vv, kx_a g_voteNumber cyI 1944 vn, kx_a g_allValue cyI 12 av, kx_a g_allNumber cyI 12 an, kx_a g_nodeL cyI 320 nl, kx_a g_nodeR cyI 320 nr, kx_a g_part cyI 320 gp, kx_a g_heavyValue cyI 160 zv, kx_a g_heavyTimes cyI 160 zt]) hP hD rfl
  refine lv_aload_n hx hb dX5_least_5 rfl (lv_at hl 0 rfl) ?_
  refine lv_iload_n hx hb dX5_least_6 rfl (lv_at hl 1 rfl) ?_
  refine lv_iload_n hx hb dX5_least_7 rfl (lv_at hl 2 rfl) ?_
  have hPc := hP.sub (ws' := [kx_5 h0 g_row m_n m_slots 0 g_many g_loss g_less g_voteValue g_voteNumber g_allValue g_allNumber m_allMany g_nodeL g_nodeR m_nodes g_part m_partMany g_wasMany g_wasLoss g_wasValue g_wasNumber g_path m_pathMany g_heavyValue g_heavyTimes m_heavyMany g_fewest g_which g_met m_mostMet]) [0] rfl
  have hKc := hK.sub (tys' := []) [] rfl
  refine vp_callSi (W.runV (As := [.int p0, .int p1]) (rest := []) ⟨hx, hb, hml, hown, hts⟩ (c_X5_isRange l dC dI h0 g_row g_many g_loss g_less g_voteValue g_voteNumber g_allValue g_allNumber g_nodeL g_nodeR g_part g_wasMany g_wasLoss g_wasValue g_wasNumber g_path g_heavyValue g_heavyTimes g_fewest g_which g_met m_n m_slots 0 m_allMany m_nodes m_partMany m_pathMany m_heavyMany m_mostMet p0 p1) (cwV 2 hts gX5_least_X5_isRange rfl rfl rfl (by decide +kernel) ⟨Nat.le_of_ble_eq_true rfl, Nat.le_of_ble_eq_true rfl⟩) ⟨fun a U g mk q => by obtain ⟨q0, qP, qK⟩ := q; exact ⟨q0, qP, va_K.moved (u := U) (U := U.calling g mk a) (Vm.Alike.refl U.vm) qK⟩, kx_rc5 hKc hPc (q0 := 0) rfl, fun U hU hW => ⟨rfl, by rw [hU]; exact hPc, va_K.moved hW.alike hKc⟩⟩ rfl rfl hl.1 rfl (lv_room (Nat.le_of_ble_eq_true rfl)) dX5_least_8 ⟨Nat.le_of_ble_eq_true rfl, Nat.le_of_ble_eq_true rfl⟩) (fun r_1 w_1 => ?_)
  rcases w_1 with ⟨rfl, w_1⟩ | ⟨rfl, w_1⟩
  · have w_1 : (0 ≤ p0.toInt ∧ p0.toInt < p1.toInt ∧ p1.toInt ≤ m_n.toInt) := w_1
    refine lv_if_eq (tgt := 31) hx hb dX5_least_11 (by decide) (fun c_2 => ?_) (fun c_2 => ?_)
    · exact absurd c_2 (by decide)
    · refine lv_iload_n hx hb dX5_least_14 rfl (lv_at hl 2 rfl) ?_
      refine lv_iload_n hx hb dX5_least_15 rfl (lv_at hl 1 rfl) ?_
      refine lv_isub hx hb dX5_least_16 ?_
      refine lv_topi (fun y_3 ey_3 => ?_)
      have i_3 : y_3.toInt = p1.toInt - p0.toInt := ki_sub ey_3 rfl rfl (om_168 w_1.2.1) (om_169 a1 w_1.1 w_1.2.2)
      refine lv_bipush (v := 64) hx hb dX5_least_17 (by decide) ?_
      refine lv_icmp_gt (tgt := 31) hx hb dX5_least_19 (by decide) (fun c_4 => ?_) (fun c_4 => ?_)
      · have i_4 : 64 < y_3.toInt := kc_lt c_4
        refine lv_iconst (v := (-1)) hx hb dX5_least_31 (by decide) ?_
        have hP9 := hP
        have hD9 := hD
        have hK9 := hK
        exact W.iret (v := (-1)) hx hb hr (hlocks := hlocks) (fun t ht hW => ⟨⟨(-1), (m_nodes, m_allMany, m_partMany, m_heavyMany, fm, fl, fe, vv, vn, av, an, nl, nr, gp, zv, zt), rfl, ⟨s4, q0⟩, by rw [ht]; exact hP9, va_K.moved hW.alike hK9, hD9⟩, hS.F ht⟩) hS.2.2 dX5_least_32
      · have i_4 : y_3.toInt ≤ 64 := kc_nlt c_4
        refine lv_iload_n hx hb dX5_least_22 rfl (lv_at hl 3 rfl) ?_
        refine lv_iload hx hb dX5_least_23 (lv_at hl 4 rfl) ?_
        have hPc := hP.sub (ws' := []) [] rfl
        have hKc := hK.sub (tys' := []) [] rfl
        refine vp_callSi (W.runS (As := [.int p2, .int p3]) (rest := []) ⟨hx, hb, hml, hown, hts⟩ (c_X5_isShare l dC dI p2 p3) (va_cwS 2 hts gX5_least_X5_isShare rfl rfl rfl (by decide +kernel) ⟨Nat.le_of_ble_eq_true rfl, Nat.le_of_ble_eq_true rfl⟩) ⟨fun a U g mk q => by obtain ⟨q0, qP, qK⟩ := q; exact ⟨q0, qP, va_K.moved (u := U) (U := U.calling g mk a) (Vm.Alike.refl U.vm) qK⟩, fun U hU hW => ⟨rfl, by rw [hU]; exact hPc, va_K.moved hW.alike hKc⟩⟩ rfl rfl hl.1 rfl (lv_room (Nat.le_of_ble_eq_true rfl)) dX5_least_25 ⟨Nat.le_of_ble_eq_true rfl, Nat.le_of_ble_eq_true rfl⟩) (fun r_5 w_5 => ?_)
        rcases w_5 with ⟨rfl, w_5⟩ | ⟨rfl, w_5⟩
        · have w_5 : (1 ≤ p2.toInt ∧ p2.toInt ≤ p3.toInt ∧ p3.toInt ≤ 999) := w_5
          refine lv_if_ne (tgt := 33) hx hb dX5_least_28 (by decide) (fun c_6 => ?_) (fun c_6 => ?_)
          · refine lv_aload_n hx hb dX5_least_33 rfl (lv_at hl 0 rfl) ?_
            refine lv_iload_n hx hb dX5_least_34 rfl (lv_at hl 1 rfl) ?_
            refine lv_iload_n hx hb dX5_least_35 rfl (lv_at hl 2 rfl) ?_
            refine lv_iconst (v := 0) hx hb dX5_least_36 (by decide) ?_
            refine lv_iconst (v := 0) hx hb dX5_least_37 (by decide) ?_
            refine lv_iload_n hx hb dX5_least_38 rfl (lv_at hl 3 rfl) ?_
            refine lv_iload hx hb dX5_least_39 (lv_at hl 4 rfl) ?_
            obtain ⟨hPc, hDc, hFc, hCc⟩ := kx_preM (wc := [kx_5 h0 g_row m_n m_slots 0 g_many g_loss g_less g_voteValue g_voteNumber g_allValue g_allNumber m_allMany g_nodeL g_nodeR m_nodes g_part m_partMany g_wasMany g_wasLoss g_wasValue g_wasNumber g_path m_pathMany g_heavyValue g_heavyTimes m_heavyMany g_fewest g_which g_met m_mostMet, kx_a g_row cyI 160 f, kx_a g_heavyValue cyI 160 zv, kx_a g_heavyTimes cyI 160 zt]) hP hD hS hA [true, true, false, false, false, false, false, false, false, false, false, false, true, true] rfl
            have hKc := hK
            have k_7 : (0 : Int32).toInt = 0 := rfl
            refine va_callv (va_runV (As := [.int p0, .int p1, .int 0, .int 0, .int p2, .int p3]) (rest := []) ⟨hx, hb, hml, hown, hts⟩ (kx_un (c_X5_laysHeavy l dC dI h0 g_row g_many g_loss g_less g_voteValue g_voteNumber g_allValue g_allNumber g_nodeL g_nodeR g_part g_wasMany g_wasLoss g_wasValue g_wasNumber g_path g_heavyValue g_heavyTimes g_fewest g_which g_met m_n m_slots 0 m_allMany m_nodes m_partMany m_pathMany m_heavyMany m_mostMet cyI f zv zt p0 p1 0 0 p2 p3 H.size (om_10 w_1.1) (om_414 w_1.2.1) (om_167 a1 w_1.2.2) om_35 om_35 om_415 (om_420 i_3 i_4))) (cwV 6 hts gX5_least_X5_laysHeavy rfl rfl rfl (by decide +kernel) ⟨Nat.le_of_ble_eq_true rfl, Nat.le_of_ble_eq_true rfl⟩) ⟨fun a U g mk q => by obtain ⟨q0, q1, qP, qK, qD⟩ := q; exact ⟨q0, q1, qP, va_K.moved (u := U) (U := U.calling g mk a) (Vm.Alike.refl U.vm) qK, qD⟩, kx_rc5 hKc hPc (q0 := 0) rfl, fun U hU hW => ⟨rfl, by rw [hU], by rw [hU]; exact hPc, va_K.moved hW.alike hKc, hDc.weaken (fun _ _ _ _ => trivial)⟩⟩ rfl rfl hl.1 rfl (lv_room (Nat.le_of_ble_eq_true rfl)) dX5_least_41 ⟨Nat.le_of_ble_eq_true rfl, Nat.le_of_ble_eq_true rfl⟩) hS (fun q _ h => hFc q h) hFc (fun u t H1 locs ht hvm w_8 hB hz1 hk1 hS => ?_)
            obtain ⟨o_9, o_10, o_11⟩ := u
            dsimp only at w_8 hB
            obtain ⟨hP1, hK1, hD1⟩ := hB
            rw [ht] at hP1
            have hK1 := va_K.moved hvm.symm hK1
            obtain ⟨hP, hD⟩ := kx_joinM (w2 := [kx_5 h0 g_row m_n m_slots 0 g_many g_loss g_less g_voteValue g_voteNumber g_allValue g_allNumber m_allMany g_nodeL g_nodeR m_nodes g_part m_partMany g_wasMany g_wasLoss g_wasValue g_wasNumber g_path m_pathMany g_heavyValue g_heavyTimes o_9 g_fewest g_which g_met m_mostMet, kx_a g_row cyI 160 f, kx_a g_many cyI 324 fm, kx_a g_loss cyI 324 fl, kx_a g_less cyI 324 fe, kx_a g_voteValue cyI 1944 vv, kx_a g_voteNumber cyI 1944 vn, kx_a g_allValue cyI 12 av, kx_a g_allNumber cyI 12 an, kx_a g_nodeL cyI 320 nl, kx_a g_nodeR cyI 320 nr, kx_a g_part cyI 320 gp, kx_a g_heavyValue cyI 160 o_10, kx_a g_heavyTimes cyI 160 o_11]) hP hD hP1 hD1 hk1 hFc [true, true, false, false, false, false, false, false, false, false, false, false, true, true] hCc rfl
            clear hP1 hD1 hK1 hk1 hz1 hFc hDc hPc hKc hCc
            generalize H1 = H at hP hS ⊢
            have w_8 : 0 ≤ o_9.toInt ∧ o_9.toInt ≤ 160 := w_8
            refine lv_iconst (v := 1) hx hb dX5_least_44 (by decide) ?_
            refine lv_istore (lv' := [(5, .int 1), (0, .ref h0), (1, .int p0), (2, .int p1), (3, .int p2), (4, .int p3)]) hx hb dX5_least_45 hl (by decide) rfl (fun ls hl => ?_)
            have LP1 : ∀ (n : Nat) (k : Int32) (x_nd : Int32) (x_am : Int32) (x_pq : Int32) (x_m : Nat → Int32) (x_l : Nat → Int32) (x_e : Nat → Int32) (x_vv : Nat → Int32) (x_vn : Nat → Int32) (x_av : Nat → Int32) (x_an : Nat → Int32) (x_nl : Nat → Int32) (x_nr : Nat → Int32) (x_gp : Nat → Int32), (1 ≤ k.toInt) → (k.toInt ≤ 7) → (six4 x_m) → (parts320 x_gp) → (7 - k.toInt).toNat < n → ∀ (H : Heap) (locs : List Loc), va_P (dC, dI) vwCl [kx_5 h0 g_row m_n m_slots 0 g_many g_loss g_less g_voteValue g_voteNumber g_allValue g_allNumber x_am g_nodeL g_nodeR x_nd g_part x_pq g_wasMany g_wasLoss g_wasValue g_wasNumber g_path m_pathMany g_heavyValue g_heavyTimes o_9 g_fewest g_which g_met m_mostMet, kx_a g_row cyI 160 f, kx_a g_many cyI 324 x_m, kx_a g_loss cyI 324 x_l, kx_a g_less cyI 324 x_e, kx_a g_voteValue cyI 1944 x_vv, kx_a g_voteNumber cyI 1944 x_vn, kx_a g_allValue cyI 12 x_av, kx_a g_allNumber cyI 12 x_an, kx_a g_nodeL cyI 320 x_nl, kx_a g_nodeR cyI 320 x_nr, kx_a g_part cyI 320 x_gp, kx_a g_heavyValue cyI 160 o_10, kx_a g_heavyTimes cyI 160 o_11] H → va_D A [kx_5 h0 g_row m_n m_slots 0 g_many g_loss g_less g_voteValue g_voteNumber g_allValue g_allNumber x_am g_nodeL g_nodeR x_nd g_part x_pq g_wasMany g_wasLoss g_wasValue g_wasNumber g_path m_pathMany g_heavyValue g_heavyTimes o_9 g_fewest g_which g_met m_mostMet, kx_a g_row cyI 160 f, kx_a g_many cyI 324 x_m, kx_a g_loss cyI 324 x_l, kx_a g_less cyI 324 x_e, kx_a g_voteValue cyI 1944 x_vv, kx_a g_voteNumber cyI 1944 x_vn, kx_a g_allValue cyI 12 x_av, kx_a g_allNumber cyI 12 x_an, kx_a g_nodeL cyI 320 x_nl, kx_a g_nodeR cyI 320 x_nr, kx_a g_part cyI 320 x_gp, kx_a g_heavyValue cyI 160 o_10, kx_a g_heavyTimes cyI 160 o_11] → va_S A s.heap H locs → ∀ (ls : Array Slot), lv_has ls 8 [(5, .int k), (0, .ref h0), (1, .int p0), (2, .int p1), (3, .int p2), (4, .int p3)] → W p l e (headSpec wsX5_least ({ frames := 12, cells := 0, slots := 0, locals := 540 })).room s m ([.ref h0, .int p0, .int p1, .int p2, .int p3] : List Value).toArray below meth c H locs 0 0 (MQ below (va_Qi (fun (r : Int32) (u : Int32 × Int32 × Int32 × Int32 × (Nat → Int32) × (Nat → Int32) × (Nat → Int32) × (Nat → Int32) × (Nat → Int32) × (Nat → Int32) × (Nat → Int32) × (Nat → Int32) × (Nat → Int32) × (Nat → Int32) × (Nat → Int32) × (Nat → Int32)) => six4 u.2.2.2.2.1 ∧ parts320 u.2.2.2.2.2.2.2.2.2.2.2.2.2.1) (fun (u : Int32 × Int32 × Int32 × Int32 × (Nat → Int32) × (Nat → Int32) × (Nat → Int32) × (Nat → Int32) × (Nat → Int32) × (Nat → Int32) × (Nat → Int32) × (Nat → Int32) × (Nat → Int32) × (Nat → Int32) × (Nat → Int32) × (Nat → Int32)) (t : State) => va_P (dC, dI) vwCl [kx_5 h0 g_row m_n m_slots 0 g_many g_loss g_less g_voteValue g_voteNumber g_allValue g_allNumber u.2.1 g_nodeL g_nodeR u.1 g_part u.2.2.1 g_wasMany g_wasLoss g_wasValue g_wasNumber g_path m_pathMany g_heavyValue g_heavyTimes u.2.2.2.1 g_fewest g_which g_met m_mostMet, kx_a g_row cyI 160 f, kx_a g_many cyI 324 u.2.2.2.2.1, kx_a g_loss cyI 324 u.2.2.2.2.2.1, kx_a g_less cyI 324 u.2.2.2.2.2.2.1, kx_a g_voteValue cyI 1944 u.2.2.2.2.2.2.2.1, kx_a g_voteNumber cyI 1944 u.2.2.2.2.2.2.2.2.1, kx_a g_allValue cyI 12 u.2.2.2.2.2.2.2.2.2.1, kx_a g_allNumber cyI 12 u.2.2.2.2.2.2.2.2.2.2.1, kx_a g_nodeL cyI 320 u.2.2.2.2.2.2.2.2.2.2.2.1, kx_a g_nodeR cyI 320 u.2.2.2.2.2.2.2.2.2.2.2.2.1, kx_a g_part cyI 320 u.2.2.2.2.2.2.2.2.2.2.2.2.2.1, kx_a g_heavyValue cyI 160 u.2.2.2.2.2.2.2.2.2.2.2.2.2.2.1, kx_a g_heavyTimes cyI 160 u.2.2.2.2.2.2.2.2.2.2.2.2.2.2.2] t.heap ∧ va_K (dC, dI) vwCl [(cyI, .int)] t ∧ va_D A [kx_5 h0 g_row m_n m_slots 0 g_many g_loss g_less g_voteValue g_voteNumber g_allValue g_allNumber u.2.1 g_nodeL g_nodeR u.1 g_part u.2.2.1 g_wasMany g_wasLoss g_wasValue g_wasNumber g_path m_pathMany g_heavyValue g_heavyTimes u.2.2.2.1 g_fewest g_which g_met m_mostMet, kx_a g_row cyI 160 f, kx_a g_many cyI 324 u.2.2.2.2.1, kx_a g_loss cyI 324 u.2.2.2.2.2.1, kx_a g_less cyI 324 u.2.2.2.2.2.2.1, kx_a g_voteValue cyI 1944 u.2.2.2.2.2.2.2.1, kx_a g_voteNumber cyI 1944 u.2.2.2.2.2.2.2.2.1, kx_a g_allValue cyI 12 u.2.2.2.2.2.2.2.2.2.1, kx_a g_allNumber cyI 12 u.2.2.2.2.2.2.2.2.2.2.1, kx_a g_nodeL cyI 320 u.2.2.2.2.2.2.2.2.2.2.2.1, kx_a g_nodeR cyI 320 u.2.2.2.2.2.2.2.2.2.2.2.2.1, kx_a g_part cyI 320 u.2.2.2.2.2.2.2.2.2.2.2.2.2.1, kx_a g_heavyValue cyI 160 u.2.2.2.2.2.2.2.2.2.2.2.2.2.2.1, kx_a g_heavyTimes cyI 160 u.2.2.2.2.2.2.2.2.2.2.2.2.2.2.2]) A) ([.ref h0, .int p0, .int p1, .int p2, .int p3] : List Value).toArray s 0 0 A) (F0 m 47 ls []) := by
              intro n
              induction n with
              | zero => intro k x_nd x_am x_pq x_m x_l x_e x_vv x_vn x_av x_an x_nl x_nr x_gp LP1_h0 LP1_h1 LP1_h2 LP1_h3 hn; exact absurd hn (Nat.not_lt_zero _)
              | succ n ih1 =>
                intro k x_nd x_am x_pq x_m x_l x_e x_vv x_vn x_av x_an x_nl x_nr x_gp LP1_h0 LP1_h1 LP1_h2 LP1_h3 hn1 H locs hP hD hS ls hl
                refine lv_iload hx hb dX5_least_47 (lv_at hl 0 rfl) ?_
                refine lv_bipush (v := 6) hx hb dX5_least_49 (by decide) ?_
                refine lv_icmp_gt (tgt := 135) hx hb dX5_least_51 (by decide) (fun c_12 => ?_) (fun c_12 => ?_)
                · have i_12 : 6 < k.toInt := kc_lt c_12
                  refine lv_bipush (v := (-2)) hx hb dX5_least_135 (by decide) ?_
                  have hP9 := hP
                  have hD9 := hD
                  have hK9 := hK
                  exact W.iret (v := (-2)) hx hb hr (hlocks := hlocks) (fun t ht hW => ⟨⟨(-2), (x_nd, x_am, x_pq, o_9, x_m, x_l, x_e, x_vv, x_vn, x_av, x_an, x_nl, x_nr, x_gp, o_10, o_11), rfl, ⟨LP1_h2, LP1_h3⟩, by rw [ht]; exact hP9, va_K.moved hW.alike hK9, hD9⟩, hS.F ht⟩) hS.2.2 dX5_least_137
                · have i_12 : k.toInt ≤ 6 := kc_nlt c_12
                  refine lv_aload_n hx hb dX5_least_54 rfl (lv_at hl 1 rfl) ?_
                  refine lv_iload hx hb dX5_least_55 (lv_at hl 0 rfl) ?_
                  obtain ⟨hPc, hDc, hFc, hCc⟩ := kx_preM (wc := [kx_5 h0 g_row m_n m_slots 0 g_many g_loss g_less g_voteValue g_voteNumber g_allValue g_allNumber x_am g_nodeL g_nodeR x_nd g_part x_pq g_wasMany g_wasLoss g_wasValue g_wasNumber g_path m_pathMany g_heavyValue g_heavyTimes o_9 g_fewest g_which g_met m_mostMet, kx_a g_row cyI 160 f, kx_a g_many cyI 324 x_m, kx_a g_loss cyI 324 x_l, kx_a g_less cyI 324 x_e, kx_a g_voteValue cyI 1944 x_vv, kx_a g_voteNumber cyI 1944 x_vn, kx_a g_allValue cyI 12 x_av, kx_a g_allNumber cyI 12 x_an, kx_a g_nodeL cyI 320 x_nl, kx_a g_nodeR cyI 320 x_nr]) hP hD hS hA [true, true, true, true, true, true, true, true, true, true, true, false, false, false] rfl
                  have hKc := hK
                  refine va_callv (va_runV (As := [.int k]) (rest := []) ⟨hx, hb, hml, hown, hts⟩ (kx_un (c_X5_laysAll l dC dI h0 g_row g_many g_loss g_less g_voteValue g_voteNumber g_allValue g_allNumber g_nodeL g_nodeR g_part g_wasMany g_wasLoss g_wasValue g_wasNumber g_path g_heavyValue g_heavyTimes g_fewest g_which g_met m_n m_slots 0 x_am x_nd x_pq m_pathMany o_9 m_mostMet cyI x_m x_l x_e x_vv x_vn f x_av x_an x_nl x_nr k H.size a0 a1 LP1_h0 i_12 LP1_h2)) (cwV 1 hts gX5_least_X5_laysAll rfl rfl rfl (by decide +kernel) ⟨Nat.le_of_ble_eq_true rfl, Nat.le_of_ble_eq_true rfl⟩) ⟨fun a U g mk q => by obtain ⟨q0, q1, qP, qK, qD⟩ := q; exact ⟨q0, q1, qP, va_K.moved (u := U) (U := U.calling g mk a) (Vm.Alike.refl U.vm) qK, qD⟩, kx_rc5 hKc hPc (q0 := 0) rfl, fun U hU hW => ⟨rfl, by rw [hU], by rw [hU]; exact hPc, va_K.moved hW.alike hKc, hDc.weaken (fun _ _ _ _ => trivial)⟩⟩ rfl rfl hl.1 rfl (lv_room (Nat.le_of_ble_eq_true rfl)) dX5_least_57 ⟨Nat.le_of_ble_eq_true rfl, Nat.le_of_ble_eq_true rfl⟩) hS (fun q _ h => hFc q h) hFc (fun u t H1 locs ht hvm w_13 hB hz1 hk1 hS => ?_)
                  obtain ⟨o_14, o_15, o_16, o_17, o_18, o_19, o_20, o_21, o_22, o_23, o_24⟩ := u
                  dsimp only at w_13 hB
                  obtain ⟨hP1, hK1, hD1⟩ := hB
                  rw [ht] at hP1
                  have hK1 := va_K.moved hvm.symm hK1
                  obtain ⟨hP, hD⟩ := kx_joinM (w2 := [kx_5 h0 g_row m_n m_slots 0 g_many g_loss g_less g_voteValue g_voteNumber g_allValue g_allNumber o_15 g_nodeL g_nodeR o_14 g_part x_pq g_wasMany g_wasLoss g_wasValue g_wasNumber g_path m_pathMany g_heavyValue g_heavyTimes o_9 g_fewest g_which g_met m_mostMet, kx_a g_row cyI 160 f, kx_a g_many cyI 324 o_16, kx_a g_loss cyI 324 o_17, kx_a g_less cyI 324 o_18, kx_a g_voteValue cyI 1944 o_19, kx_a g_voteNumber cyI 1944 o_20, kx_a g_allValue cyI 12 o_21, kx_a g_allNumber cyI 12 o_22, kx_a g_nodeL cyI 320 o_23, kx_a g_nodeR cyI 320 o_24, kx_a g_part cyI 320 x_gp, kx_a g_heavyValue cyI 160 o_10, kx_a g_heavyTimes cyI 160 o_11]) hP hD hP1 hD1 hk1 hFc [true, true, true, true, true, true, true, true, true, true, true, false, false, false] hCc rfl
                  clear hP1 hD1 hK1 hk1 hz1 hFc hDc hPc hKc hCc
                  generalize H1 = H at hP hS ⊢
                  have w_13 : mj_L k.toNatClampNeg f o_23 o_24 o_16 o_17 o_18 o_19 o_20 m_n.toInt o_14.toInt ∧ six4 o_16 ∧ 0 ≤ o_14.toInt ∧ o_14.toInt ≤ 319 := w_13
                  refine lv_aload_n hx hb dX5_least_60 rfl (lv_at hl 1 rfl) ?_
                  refine lv_iload_n hx hb dX5_least_61 rfl (lv_at hl 2 rfl) ?_
                  refine lv_iload_n hx hb dX5_least_62 rfl (lv_at hl 3 rfl) ?_
                  refine lv_sipush (v := 320) hx hb dX5_least_63 (by decide) ?_
                  refine lv_iload hx hb dX5_least_66 (lv_at hl 0 rfl) ?_
                  obtain ⟨hPc, hDc, hFc, hCc⟩ := kx_preM (wc := [kx_5 h0 g_row m_n m_slots 0 g_many g_loss g_less g_voteValue g_voteNumber g_allValue g_allNumber o_15 g_nodeL g_nodeR o_14 g_part x_pq g_wasMany g_wasLoss g_wasValue g_wasNumber g_path m_pathMany g_heavyValue g_heavyTimes o_9 g_fewest g_which g_met m_mostMet, kx_a g_many cyI 324 o_16, kx_a g_loss cyI 324 o_17, kx_a g_less cyI 324 o_18, kx_a g_voteValue cyI 1944 o_19, kx_a g_voteNumber cyI 1944 o_20, kx_a g_allValue cyI 12 o_21, kx_a g_allNumber cyI 12 o_22, kx_a g_nodeL cyI 320 o_23, kx_a g_nodeR cyI 320 o_24, kx_a g_part cyI 320 x_gp]) hP hD hS hA [true, false, true, true, true, true, true, true, true, true, true, true, false, false] rfl
                  have hKc := hK
                  have k_25 : (320 : Int32).toInt = 320 := rfl
                  refine va_callv (va_runV (As := [.int p0, .int p1, .int 320, .int k]) (rest := []) ⟨hx, hb, hml, hown, hts⟩ (kx_un (c_X5_folds l dC dI h0 g_row g_many g_loss g_less g_voteValue g_voteNumber g_allValue g_allNumber g_nodeL g_nodeR g_part g_wasMany g_wasLoss g_wasValue g_wasNumber g_path g_heavyValue g_heavyTimes g_fewest g_which g_met m_n m_slots 0 o_15 o_14 x_pq m_pathMany o_9 m_mostMet cyI o_16 o_17 o_18 o_19 o_20 f o_21 o_22 o_23 o_24 x_gp p0 p1 k H.size a0 a1 w_13.2.2.1 w_13.2.2.2 (om_10 w_1.1) (om_11 w_1.2.1) (om_9 w_1.2.2) LP1_h0 i_12 w_13.2.1 LP1_h3 w_13.1)) (cwV 4 hts gX5_least_X5_folds rfl rfl rfl (by decide +kernel) ⟨Nat.le_of_ble_eq_true rfl, Nat.le_of_ble_eq_true rfl⟩) ⟨fun a U g mk q => by obtain ⟨q0, q1, qP, qK, qD⟩ := q; exact ⟨q0, q1, qP, va_K.moved (u := U) (U := U.calling g mk a) (Vm.Alike.refl U.vm) qK, qD⟩, kx_rc5 hKc hPc (q0 := 0) rfl, fun U hU hW => ⟨rfl, by rw [hU], by rw [hU]; exact hPc, va_K.moved hW.alike hKc, hDc.weaken (fun _ _ _ _ => trivial)⟩⟩ rfl rfl hl.1 rfl (lv_room (Nat.le_of_ble_eq_true rfl)) dX5_least_68 ⟨Nat.le_of_ble_eq_true rfl, Nat.le_of_ble_eq_true rfl⟩) hS (fun q _ h => hFc q h) hFc (fun u t H1 locs ht hvm w_26 hB hz1 hk1 hS => ?_)
                  obtain ⟨o_27, o_28, o_29, o_30, o_31, o_32, o_33, o_34, o_35, o_36⟩ := u
                  dsimp only at w_26 hB
                  obtain ⟨hP1, hK1, hD1⟩ := hB
                  rw [ht] at hP1
                  have hK1 := va_K.moved hvm.symm hK1
                  obtain ⟨hP, hD⟩ := kx_joinM (w2 := [kx_5 h0 g_row m_n m_slots 0 g_many g_loss g_less g_voteValue g_voteNumber g_allValue g_allNumber o_27 g_nodeL g_nodeR o_14 g_part o_28 g_wasMany g_wasLoss g_wasValue g_wasNumber g_path m_pathMany g_heavyValue g_heavyTimes o_9 g_fewest g_which g_met m_mostMet, kx_a g_row cyI 160 f, kx_a g_many cyI 324 o_29, kx_a g_loss cyI 324 o_30, kx_a g_less cyI 324 o_31, kx_a g_voteValue cyI 1944 o_32, kx_a g_voteNumber cyI 1944 o_33, kx_a g_allValue cyI 12 o_34, kx_a g_allNumber cyI 12 o_35, kx_a g_nodeL cyI 320 o_23, kx_a g_nodeR cyI 320 o_24, kx_a g_part cyI 320 o_36, kx_a g_heavyValue cyI 160 o_10, kx_a g_heavyTimes cyI 160 o_11]) hP hD hP1 hD1 hk1 hFc [true, false, true, true, true, true, true, true, true, true, true, true, false, false] hCc rfl
                  clear hP1 hD1 hK1 hk1 hz1 hFc hDc hPc hKc hCc
                  generalize H1 = H at hP hS ⊢
                  have w_26 : six4 o_29 ∧ parts320 o_36 ∧ mj_ag 0 320 o_23 o_24 o_16 o_17 o_18 o_19 o_20 o_23 o_24 o_29 o_30 o_31 o_32 o_33 ∧ mj_F k.toNatClampNeg o_23 o_24 o_29 o_30 o_32 o_33 o_29 o_30 o_32 o_33 p0.toInt p1.toInt (mj_pq o_23 o_24 p0.toInt p1.toInt o_14.toNatClampNeg) := w_26
                  refine lv_iconst (v := 1) hx hb dX5_least_71 (by decide) ?_
                  refine lv_istore (lv' := [(6, .int 1), (5, .int k), (0, .ref h0), (1, .int p0), (2, .int p1), (3, .int p2), (4, .int p3)]) hx hb dX5_least_72 hl (by decide) rfl (fun ls hl => ?_)
                  refine lv_iconst (v := 0) hx hb dX5_least_74 (by decide) ?_
                  refine lv_istore (lv' := [(7, .int 0), (6, .int 1), (5, .int k), (0, .ref h0), (1, .int p0), (2, .int p1), (3, .int p2), (4, .int p3)]) hx hb dX5_least_75 hl (by decide) rfl (fun ls hl => ?_)
                  have LP2 : ∀ (n : Nat) (j : Int32) (are : Int32), (0 ≤ j.toInt) → (o_9.toInt - j.toInt).toNat < n → ∀ (H : Heap) (locs : List Loc), va_P (dC, dI) vwCl [kx_5 h0 g_row m_n m_slots 0 g_many g_loss g_less g_voteValue g_voteNumber g_allValue g_allNumber o_27 g_nodeL g_nodeR o_14 g_part o_28 g_wasMany g_wasLoss g_wasValue g_wasNumber g_path m_pathMany g_heavyValue g_heavyTimes o_9 g_fewest g_which g_met m_mostMet, kx_a g_row cyI 160 f, kx_a g_many cyI 324 o_29, kx_a g_loss cyI 324 o_30, kx_a g_less cyI 324 o_31, kx_a g_voteValue cyI 1944 o_32, kx_a g_voteNumber cyI 1944 o_33, kx_a g_allValue cyI 12 o_34, kx_a g_allNumber cyI 12 o_35, kx_a g_nodeL cyI 320 o_23, kx_a g_nodeR cyI 320 o_24, kx_a g_part cyI 320 o_36, kx_a g_heavyValue cyI 160 o_10, kx_a g_heavyTimes cyI 160 o_11] H → va_D A [kx_5 h0 g_row m_n m_slots 0 g_many g_loss g_less g_voteValue g_voteNumber g_allValue g_allNumber o_27 g_nodeL g_nodeR o_14 g_part o_28 g_wasMany g_wasLoss g_wasValue g_wasNumber g_path m_pathMany g_heavyValue g_heavyTimes o_9 g_fewest g_which g_met m_mostMet, kx_a g_row cyI 160 f, kx_a g_many cyI 324 o_29, kx_a g_loss cyI 324 o_30, kx_a g_less cyI 324 o_31, kx_a g_voteValue cyI 1944 o_32, kx_a g_voteNumber cyI 1944 o_33, kx_a g_allValue cyI 12 o_34, kx_a g_allNumber cyI 12 o_35, kx_a g_nodeL cyI 320 o_23, kx_a g_nodeR cyI 320 o_24, kx_a g_part cyI 320 o_36, kx_a g_heavyValue cyI 160 o_10, kx_a g_heavyTimes cyI 160 o_11] → va_S A s.heap H locs → ∀ (ls : Array Slot), lv_has ls 8 [(7, .int j), (6, .int are), (5, .int k), (0, .ref h0), (1, .int p0), (2, .int p1), (3, .int p2), (4, .int p3)] → W p l e (headSpec wsX5_least ({ frames := 12, cells := 0, slots := 0, locals := 540 })).room s m ([.ref h0, .int p0, .int p1, .int p2, .int p3] : List Value).toArray below meth c H locs 0 0 (MQ below (va_Qi (fun (r : Int32) (u : Int32 × Int32 × Int32 × Int32 × (Nat → Int32) × (Nat → Int32) × (Nat → Int32) × (Nat → Int32) × (Nat → Int32) × (Nat → Int32) × (Nat → Int32) × (Nat → Int32) × (Nat → Int32) × (Nat → Int32) × (Nat → Int32) × (Nat → Int32)) => six4 u.2.2.2.2.1 ∧ parts320 u.2.2.2.2.2.2.2.2.2.2.2.2.2.1) (fun (u : Int32 × Int32 × Int32 × Int32 × (Nat → Int32) × (Nat → Int32) × (Nat → Int32) × (Nat → Int32) × (Nat → Int32) × (Nat → Int32) × (Nat → Int32) × (Nat → Int32) × (Nat → Int32) × (Nat → Int32) × (Nat → Int32) × (Nat → Int32)) (t : State) => va_P (dC, dI) vwCl [kx_5 h0 g_row m_n m_slots 0 g_many g_loss g_less g_voteValue g_voteNumber g_allValue g_allNumber u.2.1 g_nodeL g_nodeR u.1 g_part u.2.2.1 g_wasMany g_wasLoss g_wasValue g_wasNumber g_path m_pathMany g_heavyValue g_heavyTimes u.2.2.2.1 g_fewest g_which g_met m_mostMet, kx_a g_row cyI 160 f, kx_a g_many cyI 324 u.2.2.2.2.1, kx_a g_loss cyI 324 u.2.2.2.2.2.1, kx_a g_less cyI 324 u.2.2.2.2.2.2.1, kx_a g_voteValue cyI 1944 u.2.2.2.2.2.2.2.1, kx_a g_voteNumber cyI 1944 u.2.2.2.2.2.2.2.2.1, kx_a g_allValue cyI 12 u.2.2.2.2.2.2.2.2.2.1, kx_a g_allNumber cyI 12 u.2.2.2.2.2.2.2.2.2.2.1, kx_a g_nodeL cyI 320 u.2.2.2.2.2.2.2.2.2.2.2.1, kx_a g_nodeR cyI 320 u.2.2.2.2.2.2.2.2.2.2.2.2.1, kx_a g_part cyI 320 u.2.2.2.2.2.2.2.2.2.2.2.2.2.1, kx_a g_heavyValue cyI 160 u.2.2.2.2.2.2.2.2.2.2.2.2.2.2.1, kx_a g_heavyTimes cyI 160 u.2.2.2.2.2.2.2.2.2.2.2.2.2.2.2] t.heap ∧ va_K (dC, dI) vwCl [(cyI, .int)] t ∧ va_D A [kx_5 h0 g_row m_n m_slots 0 g_many g_loss g_less g_voteValue g_voteNumber g_allValue g_allNumber u.2.1 g_nodeL g_nodeR u.1 g_part u.2.2.1 g_wasMany g_wasLoss g_wasValue g_wasNumber g_path m_pathMany g_heavyValue g_heavyTimes u.2.2.2.1 g_fewest g_which g_met m_mostMet, kx_a g_row cyI 160 f, kx_a g_many cyI 324 u.2.2.2.2.1, kx_a g_loss cyI 324 u.2.2.2.2.2.1, kx_a g_less cyI 324 u.2.2.2.2.2.2.1, kx_a g_voteValue cyI 1944 u.2.2.2.2.2.2.2.1, kx_a g_voteNumber cyI 1944 u.2.2.2.2.2.2.2.2.1, kx_a g_allValue cyI 12 u.2.2.2.2.2.2.2.2.2.1, kx_a g_allNumber cyI 12 u.2.2.2.2.2.2.2.2.2.2.1, kx_a g_nodeL cyI 320 u.2.2.2.2.2.2.2.2.2.2.2.1, kx_a g_nodeR cyI 320 u.2.2.2.2.2.2.2.2.2.2.2.2.1, kx_a g_part cyI 320 u.2.2.2.2.2.2.2.2.2.2.2.2.2.1, kx_a g_heavyValue cyI 160 u.2.2.2.2.2.2.2.2.2.2.2.2.2.2.1, kx_a g_heavyTimes cyI 160 u.2.2.2.2.2.2.2.2.2.2.2.2.2.2.2]) A) ([.ref h0, .int p0, .int p1, .int p2, .int p3] : List Value).toArray s 0 0 A) (F0 m 77 ls []) := by
                    intro n
                    induction n with
                    | zero => intro j are LP2_h0 hn; exact absurd hn (Nat.not_lt_zero _)
                    | succ n ih2 =>
                      intro j are LP2_h0 hn2 H locs hP hD hS ls hl
                      refine lv_iload hx hb dX5_least_77 (lv_at hl 0 rfl) ?_
                      refine lv_aload_n hx hb dX5_least_79 rfl (lv_at hl 3 rfl) ?_
                      refine va_get (D := (dC, dI)) (ci := 5) (v := .int o_9) (C := RX5) (T := TX5) (N := 30) hx hb hts hi_5 hown hK hP 0 rfl rfl 25 (by decide) hf_178 (fun _ h9 => h9) rfl dX5_least_80 ?_
                      refine lv_icmp_ge (tgt := 121) hx hb dX5_least_83 (by decide) (fun c_37 => ?_) (fun c_37 => ?_)
                      · have i_37 : o_9.toInt ≤ j.toInt := kc_le c_37
                        refine lv_iload hx hb dX5_least_121 (lv_at hl 1 rfl) ?_
                        refine lv_if_eq (tgt := 129) hx hb dX5_least_123 (by decide) (fun c_38 => ?_) (fun c_38 => ?_)
                        · have i_38 : are.toInt = 0 := kc_eq c_38
                          obtain ⟨x_39, ex_39⟩ : ∃ y : Int32, y = k + 1 := ⟨_, rfl⟩
                          have i_39 : x_39.toInt = k.toInt + 1 := ki_add ex_39 rfl rfl (om_40 LP1_h0) (om_421 LP1_h1)
                          refine lv_iinc (v := x_39) (lv' := [(5, .int x_39), (7, .int j), (6, .int are), (0, .ref h0), (1, .int p0), (2, .int p1), (3, .int p2), (4, .int p3)]) hx hb dX5_least_129 hl (k := 2) rfl (by rw [ex_39]; rfl) (by decide) rfl (fun ls hl => ?_)
                          refine lv_goto (tgt := 47) hx hb dX5_least_132 (by decide) ?_
                          exact ih1 x_39 o_14 o_27 o_28 o_29 o_30 o_31 o_32 o_33 o_34 o_35 o_23 o_24 o_36 (om_41 LP1_h0 i_39) (om_422 i_12 i_39) w_26.1 w_26.2.1 (om_mu hn1 (om_204 i_39) (om_205 i_12)) _ _ hP hD hS ls (lv_sub hl [0, 3, 4, 5, 6, 7] rfl)
                        · have i_38 : ¬ are.toInt = 0 := kc_ne c_38
                          refine lv_iload hx hb dX5_least_126 (lv_at hl 2 rfl) ?_
                          have hP9 := hP
                          have hD9 := hD
                          have hK9 := hK
                          exact W.iret (v := k) hx hb hr (hlocks := hlocks) (fun t ht hW => ⟨⟨k, (o_14, o_27, o_28, o_9, o_29, o_30, o_31, o_32, o_33, o_34, o_35, o_23, o_24, o_36, o_10, o_11), rfl, ⟨w_26.1, w_26.2.1⟩, by rw [ht]; exact hP9, va_K.moved hW.alike hK9, hD9⟩, hS.F ht⟩) hS.2.2 dX5_least_128
                      · have i_37 : j.toInt < o_9.toInt := kc_nle c_37
                        refine lv_iload hx hb dX5_least_86 (lv_at hl 1 rfl) ?_
                        refine lv_if_eq (tgt := 121) hx hb dX5_least_88 (by decide) (fun c_40 => ?_) (fun c_40 => ?_)
                        · have i_40 : are.toInt = 0 := kc_eq c_40
                          refine lv_iload hx hb dX5_least_121 (lv_at hl 1 rfl) ?_
                          refine lv_if_eq (tgt := 129) hx hb dX5_least_123 (by decide) (fun c_41 => ?_) (fun c_41 => ?_)
                          · have i_41 : are.toInt = 0 := kc_eq c_41
                            obtain ⟨x_42, ex_42⟩ : ∃ y : Int32, y = k + 1 := ⟨_, rfl⟩
                            have i_42 : x_42.toInt = k.toInt + 1 := ki_add ex_42 rfl rfl (om_40 LP1_h0) (om_421 LP1_h1)
                            refine lv_iinc (v := x_42) (lv' := [(5, .int x_42), (7, .int j), (6, .int are), (0, .ref h0), (1, .int p0), (2, .int p1), (3, .int p2), (4, .int p3)]) hx hb dX5_least_129 hl (k := 2) rfl (by rw [ex_42]; rfl) (by decide) rfl (fun ls hl => ?_)
                            refine lv_goto (tgt := 47) hx hb dX5_least_132 (by decide) ?_
                            exact ih1 x_42 o_14 o_27 o_28 o_29 o_30 o_31 o_32 o_33 o_34 o_35 o_23 o_24 o_36 (om_41 LP1_h0 i_42) (om_422 i_12 i_42) w_26.1 w_26.2.1 (om_mu hn1 (om_204 i_42) (om_205 i_12)) _ _ hP hD hS ls (lv_sub hl [0, 3, 4, 5, 6, 7] rfl)
                          · have i_41 : ¬ are.toInt = 0 := kc_ne c_41
                            refine lv_iload hx hb dX5_least_126 (lv_at hl 2 rfl) ?_
                            have hP9 := hP
                            have hD9 := hD
                            have hK9 := hK
                            exact W.iret (v := k) hx hb hr (hlocks := hlocks) (fun t ht hW => ⟨⟨k, (o_14, o_27, o_28, o_9, o_29, o_30, o_31, o_32, o_33, o_34, o_35, o_23, o_24, o_36, o_10, o_11), rfl, ⟨w_26.1, w_26.2.1⟩, by rw [ht]; exact hP9, va_K.moved hW.alike hK9, hD9⟩, hS.F ht⟩) hS.2.2 dX5_least_128
                        · have i_40 : ¬ are.toInt = 0 := kc_ne c_40
                          refine lv_aload_n hx hb dX5_least_91 rfl (lv_at hl 3 rfl) ?_
                          refine lv_sipush (v := 320) hx hb dX5_least_92 (by decide) ?_
                          refine lv_aload_n hx hb dX5_least_95 rfl (lv_at hl 3 rfl) ?_
                          refine va_get (D := (dC, dI)) (ci := 5) (v := .ref g_heavyValue) (C := RX5) (T := TX5) (N := 30) hx hb hts hi_5 hown hK hP 0 rfl rfl 23 (by decide) hf_62 (fun _ h9 => h9) rfl dX5_least_96 ?_
                          refine lv_iload hx hb dX5_least_99 (lv_at hl 0 rfl) ?_
                          refine va_iald hx hb hK hP 12 0 rfl rfl (ki_in (om_10 LP2_h0) (om_1 w_8.2 i_37)) dX5_least_101 ?_
                          refine lv_topi (fun y_43 ey_43 => ?_)
                          have j_43 : y_43.toInt = (o_10 j.toNatClampNeg).toInt := congrArg Int32.toInt ey_43
                          have hPc := hP.sub (ws' := [kx_5 h0 g_row m_n m_slots 0 g_many g_loss g_less g_voteValue g_voteNumber g_allValue g_allNumber o_27 g_nodeL g_nodeR o_14 g_part o_28 g_wasMany g_wasLoss g_wasValue g_wasNumber g_path m_pathMany g_heavyValue g_heavyTimes o_9 g_fewest g_which g_met m_mostMet, kx_a g_many cyI 324 o_29, kx_a g_voteValue cyI 1944 o_32, kx_a g_voteNumber cyI 1944 o_33]) [0, 2, 5, 6] rfl
                          have hKc := hK
                          have k_44 : (320 : Int32).toInt = 320 := rfl
                          refine vp_callSi (W.runV (As := [.int 320, .int y_43]) (rest := []) ⟨hx, hb, hml, hown, hts⟩ (c_X5_numberOf l dC dI h0 g_row g_many g_loss g_less g_voteValue g_voteNumber g_allValue g_allNumber g_nodeL g_nodeR g_part g_wasMany g_wasLoss g_wasValue g_wasNumber g_path g_heavyValue g_heavyTimes g_fewest g_which g_met m_n m_slots 0 o_27 o_14 o_28 m_pathMany o_9 m_mostMet cyI o_29 o_32 o_33 320 y_43 om_375 om_376 w_26.1) (cwV 2 hts gX5_least_X5_numberOf rfl rfl rfl (by decide +kernel) ⟨Nat.le_of_ble_eq_true rfl, Nat.le_of_ble_eq_true rfl⟩) ⟨fun a U g mk q => by obtain ⟨q0, qP, qK⟩ := q; exact ⟨q0, qP, va_K.moved (u := U) (U := U.calling g mk a) (Vm.Alike.refl U.vm) qK⟩, kx_rc5 hKc hPc (q0 := 0) rfl, fun U hU hW => ⟨rfl, by rw [hU]; exact hPc, va_K.moved hW.alike hKc⟩⟩ rfl rfl hl.1 rfl (lv_room (Nat.le_of_ble_eq_true rfl)) dX5_least_102 ⟨Nat.le_of_ble_eq_true rfl, Nat.le_of_ble_eq_true rfl⟩) (fun r_45 w_45 => ?_)
                          refine lv_if_le (tgt := 112) hx hb dX5_least_105 (by decide) (fun c_46 => ?_) (fun c_46 => ?_)
                          · have i_46 : r_45.toInt ≤ 0 := kc_le c_46
                            refine lv_iconst (v := 0) hx hb dX5_least_112 (by decide) ?_
                            refine lv_istore (lv' := [(6, .int 0), (7, .int j), (5, .int k), (0, .ref h0), (1, .int p0), (2, .int p1), (3, .int p2), (4, .int p3)]) hx hb dX5_least_113 hl (by decide) rfl (fun ls hl => ?_)
                            obtain ⟨x_47, ex_47⟩ : ∃ y : Int32, y = j + 1 := ⟨_, rfl⟩
                            have i_47 : x_47.toInt = j.toInt + 1 := ki_add ex_47 rfl rfl (om_13 LP2_h0) (om_3 w_8.2 i_37)
                            refine lv_iinc (v := x_47) (lv' := [(7, .int x_47), (6, .int 0), (5, .int k), (0, .ref h0), (1, .int p0), (2, .int p1), (3, .int p2), (4, .int p3)]) hx hb dX5_least_115 hl (k := 1) rfl (by rw [ex_47]; rfl) (by decide) rfl (fun ls hl => ?_)
                            refine lv_goto (tgt := 77) hx hb dX5_least_118 (by decide) ?_
                            have k_48 : (0 : Int32).toInt = 0 := rfl
                            exact ih2 x_47 0 (om_34 LP2_h0 i_47) (om_mu hn2 (om_5 i_47) (om_6 i_37)) _ _ hP hD hS ls (lv_sub hl [0, 1, 2, 3, 4, 5, 6, 7] rfl)
                          · have i_46 : 0 < r_45.toInt := kc_nle c_46
                            refine lv_iconst (v := 1) hx hb dX5_least_108 (by decide) ?_
                            refine lv_goto (tgt := 113) hx hb dX5_least_109 (by decide) ?_
                            refine lv_istore (lv' := [(6, .int 1), (7, .int j), (5, .int k), (0, .ref h0), (1, .int p0), (2, .int p1), (3, .int p2), (4, .int p3)]) hx hb dX5_least_113 hl (by decide) rfl (fun ls hl => ?_)
                            obtain ⟨x_49, ex_49⟩ : ∃ y : Int32, y = j + 1 := ⟨_, rfl⟩
                            have i_49 : x_49.toInt = j.toInt + 1 := ki_add ex_49 rfl rfl (om_13 LP2_h0) (om_3 w_8.2 i_37)
                            refine lv_iinc (v := x_49) (lv' := [(7, .int x_49), (6, .int 1), (5, .int k), (0, .ref h0), (1, .int p0), (2, .int p1), (3, .int p2), (4, .int p3)]) hx hb dX5_least_115 hl (k := 1) rfl (by rw [ex_49]; rfl) (by decide) rfl (fun ls hl => ?_)
                            refine lv_goto (tgt := 77) hx hb dX5_least_118 (by decide) ?_
                            have k_50 : (1 : Int32).toInt = 1 := rfl
                            exact ih2 x_49 1 (om_34 LP2_h0 i_49) (om_mu hn2 (om_5 i_49) (om_6 i_37)) _ _ hP hD hS ls (lv_sub hl [0, 1, 2, 3, 4, 5, 6, 7] rfl)
                  have k_51 : (0 : Int32).toInt = 0 := rfl
                  have k_52 : (1 : Int32).toInt = 1 := rfl
                  exact LP2 ((o_9.toInt - 0 : Int).toNat + 1) 0 1 om_35 (Nat.lt_succ_self _) _ _ hP hD hS ls (lv_sub hl [0, 1, 2, 3, 4, 5, 6, 7] rfl)
            have k_53 : (1 : Int32).toInt = 1 := rfl
            exact LP1 ((7 - 1 : Int).toNat + 1) 1 m_nodes m_allMany m_partMany fm fl fe vv vn av an nl nr gp om_52 om_423 s4 q0 (Nat.lt_succ_self _) _ _ hP hD hS ls (lv_sub hl [0, 1, 2, 3, 4, 5] rfl)
          · exact absurd c_6 (by decide)
        · have w_5 : (p2.toInt < 1 ∨ p3.toInt < p2.toInt ∨ 999 < p3.toInt) := w_5
          refine lv_if_ne (tgt := 33) hx hb dX5_least_28 (by decide) (fun c_54 => ?_) (fun c_54 => ?_)
          · exact absurd c_54 (by decide)
          · refine lv_iconst (v := (-1)) hx hb dX5_least_31 (by decide) ?_
            have hP9 := hP
            have hD9 := hD
            have hK9 := hK
            exact W.iret (v := (-1)) hx hb hr (hlocks := hlocks) (fun t ht hW => ⟨⟨(-1), (m_nodes, m_allMany, m_partMany, m_heavyMany, fm, fl, fe, vv, vn, av, an, nl, nr, gp, zv, zt), rfl, ⟨s4, q0⟩, by rw [ht]; exact hP9, va_K.moved hW.alike hK9, hD9⟩, hS.F ht⟩) hS.2.2 dX5_least_32
  · have w_1 : (p0.toInt < 0 ∨ p1.toInt ≤ p0.toInt ∨ m_n.toInt < p1.toInt) := w_1
    refine lv_if_eq (tgt := 31) hx hb dX5_least_11 (by decide) (fun c_55 => ?_) (fun c_55 => ?_)
    · refine lv_iconst (v := (-1)) hx hb dX5_least_31 (by decide) ?_
      have hP9 := hP
      have hD9 := hD
      have hK9 := hK
      exact W.iret (v := (-1)) hx hb hr (hlocks := hlocks) (fun t ht hW => ⟨⟨(-1), (m_nodes, m_allMany, m_partMany, m_heavyMany, fm, fl, fe, vv, vn, av, an, nl, nr, gp, zv, zt), rfl, ⟨s4, q0⟩, by rw [ht]; exact hP9, va_K.moved hW.alike hK9, hD9⟩, hS.F ht⟩) hS.2.2 dX5_least_32
    · exact absurd c_55 (by decide)



abbrev cX5_keeps : ByteArray := prog_7_method_23_code
def yX5_keeps : MethodName := ⟨RX5, "keeps", "()V"⟩
abbrev cX5_others : ByteArray := prog_7_method_24_code
def yX5_others : MethodName := ⟨RX5, "others", "()I"⟩
abbrev cX5_set : ByteArray := prog_7_method_25_code
def yX5_set : MethodName := ⟨RX5, "set", "(II)I"⟩
abbrev cX5_fill : ByteArray := prog_7_method_26_code
def yX5_fill : MethodName := ⟨RX5, "fill", "(III)I"⟩
abbrev cX5_exchanges : ByteArray := prog_7_method_27_code
def yX5_exchanges : MethodName := ⟨RX5, "exchanges", "(II)V"⟩
abbrev cX5_turn : ByteArray := prog_7_method_28_code
def yX5_turn : MethodName := ⟨RX5, "turn", "(II)I"⟩
abbrev cX5_swap : ByteArray := prog_7_method_29_code
def yX5_swap : MethodName := ⟨RX5, "swap", "(II)I"⟩
def wsX5_keeps_r1 : List Cond := [Cond.fieldLink RX5 13 "MajorityIndexModel" "slots" "I", Cond.fieldLink RX5 101 "MajorityIndexModel" "nodes" "I", Cond.fieldLink RX5 47 "MajorityIndexModel" "wasMany" "[I", Cond.fieldLink RX5 17 "MajorityIndexModel" "many" "[I", Cond.fieldLink RX5 50 "MajorityIndexModel" "wasLoss" "[I", Cond.fieldLink RX5 20 "MajorityIndexModel" "loss" "[I", Cond.fieldLink RX5 53 "MajorityIndexModel" "wasValue" "[I", Cond.fieldLink RX5 26 "MajorityIndexModel" "voteValue" "[I", Cond.fieldLink RX5 56 "MajorityIndexModel" "wasNumber" "[I", Cond.fieldLink RX5 29 "MajorityIndexModel" "voteNumber" "[I", Cond.methodLink RX5 124 yX5_laysAll, Cond.instanceMethod yX5_laysAll, Cond.selects RX5 yX5_laysAll yX5_laysAll, Cond.initialized RX5, Cond.code yX5_laysAll cX5_laysAll 2 none, Cond.fieldLink RX5 84 "MajorityIndexModel" "n" "I", Cond.methodLink RX5 107 yX5_lays, Cond.instanceMethod yX5_lays, Cond.selects RX5 yX5_lays yX5_lays, Cond.code yX5_lays cX5_lays 8 (some .int), Cond.fieldLink RX5 38 "MajorityIndexModel" "nodeL" "[I", Cond.fieldLink RX5 41 "MajorityIndexModel" "nodeR" "[I", Cond.fieldLink RX5 7 "MajorityIndexModel" "row" "[I", Cond.methodLink RX5 104 yX5_one]
def wsX5_keeps_r2 : List Cond := [Cond.instanceMethod yX5_one, Cond.selects RX5 yX5_one yX5_one, Cond.code yX5_one cX5_one 3 none, Cond.fieldLink RX5 23 "MajorityIndexModel" "less" "[I", Cond.methodLink RX5 111 yX5_together, Cond.instanceMethod yX5_together, Cond.selects RX5 yX5_together yX5_together, Cond.code yX5_together cX5_together 9 none, Cond.fieldLink RX5 87 "MajorityIndexModel" "allMany" "I", Cond.fieldLink RX5 35 "MajorityIndexModel" "allNumber" "[I", Cond.fieldLink RX5 32 "MajorityIndexModel" "allValue" "[I", Cond.methodLink RX5 94 yX5_adds, Cond.instanceMethod yX5_adds, Cond.selects RX5 yX5_adds yX5_adds, Cond.code yX5_adds cX5_adds 4 none, Cond.methodLink RX5 98 yX5_sorts, Cond.instanceMethod yX5_sorts, Cond.selects RX5 yX5_sorts yX5_sorts, Cond.code yX5_sorts cX5_sorts 4 none, Cond.methodLink RX5 90 yX5_isAhead, Cond.instanceMethod yX5_isAhead, Cond.selects RX5 yX5_isAhead yX5_isAhead, Cond.code yX5_isAhead cX5_isAhead 3 (some .boolean)]
def wsX5_keeps : List Cond := .code yX5_keeps cX5_keeps 3 none :: ((wsX5_keeps_r1 ++ wsX5_keeps_r2) ++ wsX50)
def wsX5_others_r1 : List Cond := [Cond.fieldLink RX5 13 "MajorityIndexModel" "slots" "I", Cond.fieldLink RX5 101 "MajorityIndexModel" "nodes" "I", Cond.fieldLink RX5 17 "MajorityIndexModel" "many" "[I", Cond.fieldLink RX5 47 "MajorityIndexModel" "wasMany" "[I", Cond.fieldLink RX5 20 "MajorityIndexModel" "loss" "[I", Cond.fieldLink RX5 50 "MajorityIndexModel" "wasLoss" "[I", Cond.fieldLink RX5 26 "MajorityIndexModel" "voteValue" "[I", Cond.fieldLink RX5 53 "MajorityIndexModel" "wasValue" "[I", Cond.fieldLink RX5 29 "MajorityIndexModel" "voteNumber" "[I", Cond.fieldLink RX5 56 "MajorityIndexModel" "wasNumber" "[I", Cond.methodLink RX5 124 yX5_laysAll, Cond.instanceMethod yX5_laysAll, Cond.selects RX5 yX5_laysAll yX5_laysAll, Cond.initialized RX5, Cond.code yX5_laysAll cX5_laysAll 2 none, Cond.fieldLink RX5 84 "MajorityIndexModel" "n" "I", Cond.methodLink RX5 107 yX5_lays, Cond.instanceMethod yX5_lays, Cond.selects RX5 yX5_lays yX5_lays, Cond.code yX5_lays cX5_lays 8 (some .int), Cond.fieldLink RX5 38 "MajorityIndexModel" "nodeL" "[I", Cond.fieldLink RX5 41 "MajorityIndexModel" "nodeR" "[I", Cond.fieldLink RX5 7 "MajorityIndexModel" "row" "[I", Cond.methodLink RX5 104 yX5_one]
def wsX5_others_r2 : List Cond := [Cond.instanceMethod yX5_one, Cond.selects RX5 yX5_one yX5_one, Cond.code yX5_one cX5_one 3 none, Cond.fieldLink RX5 23 "MajorityIndexModel" "less" "[I", Cond.methodLink RX5 111 yX5_together, Cond.instanceMethod yX5_together, Cond.selects RX5 yX5_together yX5_together, Cond.code yX5_together cX5_together 9 none, Cond.fieldLink RX5 87 "MajorityIndexModel" "allMany" "I", Cond.fieldLink RX5 35 "MajorityIndexModel" "allNumber" "[I", Cond.fieldLink RX5 32 "MajorityIndexModel" "allValue" "[I", Cond.methodLink RX5 94 yX5_adds, Cond.instanceMethod yX5_adds, Cond.selects RX5 yX5_adds yX5_adds, Cond.code yX5_adds cX5_adds 4 none, Cond.methodLink RX5 98 yX5_sorts, Cond.instanceMethod yX5_sorts, Cond.selects RX5 yX5_sorts yX5_sorts, Cond.code yX5_sorts cX5_sorts 4 none, Cond.methodLink RX5 90 yX5_isAhead, Cond.instanceMethod yX5_isAhead, Cond.selects RX5 yX5_isAhead yX5_isAhead, Cond.code yX5_isAhead cX5_isAhead 3 (some .boolean)]
def wsX5_others : List Cond := .code yX5_others cX5_others 5 (some .int) :: ((wsX5_others_r1 ++ wsX5_others_r2) ++ wsX50)
def wsX5_set_r1 : List Cond := [Cond.fieldLink RX5 77 "MajorityIndexModel" "thrown" "I", Cond.fieldLink RX5 7 "MajorityIndexModel" "row" "[I", Cond.methodLink RX5 128 yX5_isPlace, Cond.instanceMethod yX5_isPlace, Cond.selects RX5 yX5_isPlace yX5_isPlace, Cond.initialized RX5, Cond.code yX5_isPlace cX5_isPlace 2 (some .boolean), Cond.fieldLink RX5 84 "MajorityIndexModel" "n" "I", Cond.methodLink RX5 80 yX5_within, Cond.static yX5_within, Cond.code yX5_within cX5_within 3 (some .boolean), Cond.methodLink RX5 132 yX5_isValue, Cond.static yX5_isValue, Cond.code yX5_isValue cX5_isValue 1 (some .boolean), Cond.methodLink RX5 135 yX5_keeps, Cond.instanceMethod yX5_keeps, Cond.selects RX5 yX5_keeps yX5_keeps, Cond.code yX5_keeps cX5_keeps 3 none, Cond.fieldLink RX5 13 "MajorityIndexModel" "slots" "I", Cond.fieldLink RX5 101 "MajorityIndexModel" "nodes" "I", Cond.fieldLink RX5 47 "MajorityIndexModel" "wasMany" "[I", Cond.fieldLink RX5 17 "MajorityIndexModel" "many" "[I", Cond.fieldLink RX5 50 "MajorityIndexModel" "wasLoss" "[I", Cond.fieldLink RX5 20 "MajorityIndexModel" "loss" "[I"]
def wsX5_set_r2 : List Cond := [Cond.fieldLink RX5 53 "MajorityIndexModel" "wasValue" "[I", Cond.fieldLink RX5 26 "MajorityIndexModel" "voteValue" "[I", Cond.fieldLink RX5 56 "MajorityIndexModel" "wasNumber" "[I", Cond.fieldLink RX5 29 "MajorityIndexModel" "voteNumber" "[I", Cond.methodLink RX5 124 yX5_laysAll, Cond.instanceMethod yX5_laysAll, Cond.selects RX5 yX5_laysAll yX5_laysAll, Cond.code yX5_laysAll cX5_laysAll 2 none, Cond.methodLink RX5 107 yX5_lays, Cond.instanceMethod yX5_lays, Cond.selects RX5 yX5_lays yX5_lays, Cond.code yX5_lays cX5_lays 8 (some .int), Cond.fieldLink RX5 38 "MajorityIndexModel" "nodeL" "[I", Cond.fieldLink RX5 41 "MajorityIndexModel" "nodeR" "[I", Cond.methodLink RX5 104 yX5_one, Cond.instanceMethod yX5_one, Cond.selects RX5 yX5_one yX5_one, Cond.code yX5_one cX5_one 3 none, Cond.fieldLink RX5 23 "MajorityIndexModel" "less" "[I", Cond.methodLink RX5 111 yX5_together, Cond.instanceMethod yX5_together, Cond.selects RX5 yX5_together yX5_together, Cond.code yX5_together cX5_together 9 none, Cond.fieldLink RX5 87 "MajorityIndexModel" "allMany" "I"]
def wsX5_set_r3 : List Cond := [Cond.fieldLink RX5 35 "MajorityIndexModel" "allNumber" "[I", Cond.fieldLink RX5 32 "MajorityIndexModel" "allValue" "[I", Cond.methodLink RX5 94 yX5_adds, Cond.instanceMethod yX5_adds, Cond.selects RX5 yX5_adds yX5_adds, Cond.code yX5_adds cX5_adds 4 none, Cond.methodLink RX5 98 yX5_sorts, Cond.instanceMethod yX5_sorts, Cond.selects RX5 yX5_sorts yX5_sorts, Cond.code yX5_sorts cX5_sorts 4 none, Cond.methodLink RX5 90 yX5_isAhead, Cond.instanceMethod yX5_isAhead, Cond.selects RX5 yX5_isAhead yX5_isAhead, Cond.code yX5_isAhead cX5_isAhead 3 (some .boolean), Cond.methodLink RX5 138 yX5_others, Cond.instanceMethod yX5_others, Cond.selects RX5 yX5_others yX5_others, Cond.code yX5_others cX5_others 5 (some .int)]
def wsX5_set : List Cond := .code yX5_set cX5_set 3 (some .int) :: ((wsX5_set_r1 ++ (wsX5_set_r2 ++ wsX5_set_r3)) ++ wsX50)
def wsX5_fill_r1 : List Cond := [Cond.fieldLink RX5 77 "MajorityIndexModel" "thrown" "I", Cond.fieldLink RX5 7 "MajorityIndexModel" "row" "[I", Cond.methodLink RX5 142 yX5_isRange, Cond.instanceMethod yX5_isRange, Cond.selects RX5 yX5_isRange yX5_isRange, Cond.initialized RX5, Cond.code yX5_isRange cX5_isRange 3 (some .boolean), Cond.fieldLink RX5 84 "MajorityIndexModel" "n" "I", Cond.methodLink RX5 132 yX5_isValue, Cond.static yX5_isValue, Cond.code yX5_isValue cX5_isValue 1 (some .boolean), Cond.methodLink RX5 80 yX5_within, Cond.static yX5_within, Cond.code yX5_within cX5_within 3 (some .boolean), Cond.methodLink RX5 135 yX5_keeps, Cond.instanceMethod yX5_keeps, Cond.selects RX5 yX5_keeps yX5_keeps, Cond.code yX5_keeps cX5_keeps 3 none, Cond.fieldLink RX5 13 "MajorityIndexModel" "slots" "I", Cond.fieldLink RX5 101 "MajorityIndexModel" "nodes" "I", Cond.fieldLink RX5 47 "MajorityIndexModel" "wasMany" "[I", Cond.fieldLink RX5 17 "MajorityIndexModel" "many" "[I", Cond.fieldLink RX5 50 "MajorityIndexModel" "wasLoss" "[I", Cond.fieldLink RX5 20 "MajorityIndexModel" "loss" "[I"]
def wsX5_fill_r2 : List Cond := [Cond.fieldLink RX5 53 "MajorityIndexModel" "wasValue" "[I", Cond.fieldLink RX5 26 "MajorityIndexModel" "voteValue" "[I", Cond.fieldLink RX5 56 "MajorityIndexModel" "wasNumber" "[I", Cond.fieldLink RX5 29 "MajorityIndexModel" "voteNumber" "[I", Cond.methodLink RX5 124 yX5_laysAll, Cond.instanceMethod yX5_laysAll, Cond.selects RX5 yX5_laysAll yX5_laysAll, Cond.code yX5_laysAll cX5_laysAll 2 none, Cond.methodLink RX5 107 yX5_lays, Cond.instanceMethod yX5_lays, Cond.selects RX5 yX5_lays yX5_lays, Cond.code yX5_lays cX5_lays 8 (some .int), Cond.fieldLink RX5 38 "MajorityIndexModel" "nodeL" "[I", Cond.fieldLink RX5 41 "MajorityIndexModel" "nodeR" "[I", Cond.methodLink RX5 104 yX5_one, Cond.instanceMethod yX5_one, Cond.selects RX5 yX5_one yX5_one, Cond.code yX5_one cX5_one 3 none, Cond.fieldLink RX5 23 "MajorityIndexModel" "less" "[I", Cond.methodLink RX5 111 yX5_together, Cond.instanceMethod yX5_together, Cond.selects RX5 yX5_together yX5_together, Cond.code yX5_together cX5_together 9 none, Cond.fieldLink RX5 87 "MajorityIndexModel" "allMany" "I"]
def wsX5_fill_r3 : List Cond := [Cond.fieldLink RX5 35 "MajorityIndexModel" "allNumber" "[I", Cond.fieldLink RX5 32 "MajorityIndexModel" "allValue" "[I", Cond.methodLink RX5 94 yX5_adds, Cond.instanceMethod yX5_adds, Cond.selects RX5 yX5_adds yX5_adds, Cond.code yX5_adds cX5_adds 4 none, Cond.methodLink RX5 98 yX5_sorts, Cond.instanceMethod yX5_sorts, Cond.selects RX5 yX5_sorts yX5_sorts, Cond.code yX5_sorts cX5_sorts 4 none, Cond.methodLink RX5 90 yX5_isAhead, Cond.instanceMethod yX5_isAhead, Cond.selects RX5 yX5_isAhead yX5_isAhead, Cond.code yX5_isAhead cX5_isAhead 3 (some .boolean), Cond.methodLink RX5 138 yX5_others, Cond.instanceMethod yX5_others, Cond.selects RX5 yX5_others yX5_others, Cond.code yX5_others cX5_others 5 (some .int)]
def wsX5_fill : List Cond := .code yX5_fill cX5_fill 5 (some .int) :: ((wsX5_fill_r1 ++ (wsX5_fill_r2 ++ wsX5_fill_r3)) ++ wsX50)
def wsX5_exchanges : List Cond := .code yX5_exchanges cX5_exchanges 4 none :: ([.fieldLink RX5 7 "MajorityIndexModel" "row" "[I"] ++ wsX50)
def wsX5_turn_r1 : List Cond := [Cond.fieldLink RX5 77 "MajorityIndexModel" "thrown" "I", Cond.methodLink RX5 142 yX5_isRange, Cond.instanceMethod yX5_isRange, Cond.selects RX5 yX5_isRange yX5_isRange, Cond.initialized RX5, Cond.code yX5_isRange cX5_isRange 3 (some .boolean), Cond.fieldLink RX5 84 "MajorityIndexModel" "n" "I", Cond.methodLink RX5 135 yX5_keeps, Cond.instanceMethod yX5_keeps, Cond.selects RX5 yX5_keeps yX5_keeps, Cond.code yX5_keeps cX5_keeps 3 none, Cond.fieldLink RX5 13 "MajorityIndexModel" "slots" "I", Cond.fieldLink RX5 101 "MajorityIndexModel" "nodes" "I", Cond.fieldLink RX5 47 "MajorityIndexModel" "wasMany" "[I", Cond.fieldLink RX5 17 "MajorityIndexModel" "many" "[I", Cond.fieldLink RX5 50 "MajorityIndexModel" "wasLoss" "[I", Cond.fieldLink RX5 20 "MajorityIndexModel" "loss" "[I", Cond.fieldLink RX5 53 "MajorityIndexModel" "wasValue" "[I", Cond.fieldLink RX5 26 "MajorityIndexModel" "voteValue" "[I", Cond.fieldLink RX5 56 "MajorityIndexModel" "wasNumber" "[I", Cond.fieldLink RX5 29 "MajorityIndexModel" "voteNumber" "[I", Cond.methodLink RX5 124 yX5_laysAll, Cond.instanceMethod yX5_laysAll, Cond.selects RX5 yX5_laysAll yX5_laysAll]
def wsX5_turn_r2 : List Cond := [Cond.code yX5_laysAll cX5_laysAll 2 none, Cond.methodLink RX5 107 yX5_lays, Cond.instanceMethod yX5_lays, Cond.selects RX5 yX5_lays yX5_lays, Cond.code yX5_lays cX5_lays 8 (some .int), Cond.fieldLink RX5 38 "MajorityIndexModel" "nodeL" "[I", Cond.fieldLink RX5 41 "MajorityIndexModel" "nodeR" "[I", Cond.fieldLink RX5 7 "MajorityIndexModel" "row" "[I", Cond.methodLink RX5 104 yX5_one, Cond.instanceMethod yX5_one, Cond.selects RX5 yX5_one yX5_one, Cond.code yX5_one cX5_one 3 none, Cond.fieldLink RX5 23 "MajorityIndexModel" "less" "[I", Cond.methodLink RX5 111 yX5_together, Cond.instanceMethod yX5_together, Cond.selects RX5 yX5_together yX5_together, Cond.code yX5_together cX5_together 9 none, Cond.fieldLink RX5 87 "MajorityIndexModel" "allMany" "I", Cond.fieldLink RX5 35 "MajorityIndexModel" "allNumber" "[I", Cond.fieldLink RX5 32 "MajorityIndexModel" "allValue" "[I", Cond.methodLink RX5 94 yX5_adds, Cond.instanceMethod yX5_adds, Cond.selects RX5 yX5_adds yX5_adds, Cond.code yX5_adds cX5_adds 4 none]
def wsX5_turn_r3 : List Cond := [Cond.methodLink RX5 98 yX5_sorts, Cond.instanceMethod yX5_sorts, Cond.selects RX5 yX5_sorts yX5_sorts, Cond.code yX5_sorts cX5_sorts 4 none, Cond.methodLink RX5 90 yX5_isAhead, Cond.instanceMethod yX5_isAhead, Cond.selects RX5 yX5_isAhead yX5_isAhead, Cond.code yX5_isAhead cX5_isAhead 3 (some .boolean), Cond.methodLink RX5 145 yX5_exchanges, Cond.instanceMethod yX5_exchanges, Cond.selects RX5 yX5_exchanges yX5_exchanges, Cond.code yX5_exchanges cX5_exchanges 4 none, Cond.methodLink RX5 138 yX5_others, Cond.instanceMethod yX5_others, Cond.selects RX5 yX5_others yX5_others, Cond.code yX5_others cX5_others 5 (some .int)]
def wsX5_turn : List Cond := .code yX5_turn cX5_turn 4 (some .int) :: ((wsX5_turn_r1 ++ (wsX5_turn_r2 ++ wsX5_turn_r3)) ++ wsX50)
def wsX5_swap_r1 : List Cond := [Cond.fieldLink RX5 77 "MajorityIndexModel" "thrown" "I", Cond.methodLink RX5 128 yX5_isPlace, Cond.instanceMethod yX5_isPlace, Cond.selects RX5 yX5_isPlace yX5_isPlace, Cond.initialized RX5, Cond.code yX5_isPlace cX5_isPlace 2 (some .boolean), Cond.fieldLink RX5 84 "MajorityIndexModel" "n" "I", Cond.methodLink RX5 80 yX5_within, Cond.static yX5_within, Cond.code yX5_within cX5_within 3 (some .boolean), Cond.methodLink RX5 135 yX5_keeps, Cond.instanceMethod yX5_keeps, Cond.selects RX5 yX5_keeps yX5_keeps, Cond.code yX5_keeps cX5_keeps 3 none, Cond.fieldLink RX5 13 "MajorityIndexModel" "slots" "I", Cond.fieldLink RX5 101 "MajorityIndexModel" "nodes" "I", Cond.fieldLink RX5 47 "MajorityIndexModel" "wasMany" "[I", Cond.fieldLink RX5 17 "MajorityIndexModel" "many" "[I", Cond.fieldLink RX5 50 "MajorityIndexModel" "wasLoss" "[I", Cond.fieldLink RX5 20 "MajorityIndexModel" "loss" "[I", Cond.fieldLink RX5 53 "MajorityIndexModel" "wasValue" "[I", Cond.fieldLink RX5 26 "MajorityIndexModel" "voteValue" "[I", Cond.fieldLink RX5 56 "MajorityIndexModel" "wasNumber" "[I", Cond.fieldLink RX5 29 "MajorityIndexModel" "voteNumber" "[I"]
def wsX5_swap_r2 : List Cond := [Cond.methodLink RX5 124 yX5_laysAll, Cond.instanceMethod yX5_laysAll, Cond.selects RX5 yX5_laysAll yX5_laysAll, Cond.code yX5_laysAll cX5_laysAll 2 none, Cond.methodLink RX5 107 yX5_lays, Cond.instanceMethod yX5_lays, Cond.selects RX5 yX5_lays yX5_lays, Cond.code yX5_lays cX5_lays 8 (some .int), Cond.fieldLink RX5 38 "MajorityIndexModel" "nodeL" "[I", Cond.fieldLink RX5 41 "MajorityIndexModel" "nodeR" "[I", Cond.fieldLink RX5 7 "MajorityIndexModel" "row" "[I", Cond.methodLink RX5 104 yX5_one, Cond.instanceMethod yX5_one, Cond.selects RX5 yX5_one yX5_one, Cond.code yX5_one cX5_one 3 none, Cond.fieldLink RX5 23 "MajorityIndexModel" "less" "[I", Cond.methodLink RX5 111 yX5_together, Cond.instanceMethod yX5_together, Cond.selects RX5 yX5_together yX5_together, Cond.code yX5_together cX5_together 9 none, Cond.fieldLink RX5 87 "MajorityIndexModel" "allMany" "I", Cond.fieldLink RX5 35 "MajorityIndexModel" "allNumber" "[I", Cond.fieldLink RX5 32 "MajorityIndexModel" "allValue" "[I", Cond.methodLink RX5 94 yX5_adds]
def wsX5_swap_r3 : List Cond := [Cond.instanceMethod yX5_adds, Cond.selects RX5 yX5_adds yX5_adds, Cond.code yX5_adds cX5_adds 4 none, Cond.methodLink RX5 98 yX5_sorts, Cond.instanceMethod yX5_sorts, Cond.selects RX5 yX5_sorts yX5_sorts, Cond.code yX5_sorts cX5_sorts 4 none, Cond.methodLink RX5 90 yX5_isAhead, Cond.instanceMethod yX5_isAhead, Cond.selects RX5 yX5_isAhead yX5_isAhead, Cond.code yX5_isAhead cX5_isAhead 3 (some .boolean), Cond.methodLink RX5 145 yX5_exchanges, Cond.instanceMethod yX5_exchanges, Cond.selects RX5 yX5_exchanges yX5_exchanges, Cond.code yX5_exchanges cX5_exchanges 4 none, Cond.methodLink RX5 138 yX5_others, Cond.instanceMethod yX5_others, Cond.selects RX5 yX5_others yX5_others, Cond.code yX5_others cX5_others 5 (some .int)]
def wsX5_swap : List Cond := .code yX5_swap cX5_swap 3 (some .int) :: ((wsX5_swap_r1 ++ (wsX5_swap_r2 ++ wsX5_swap_r3)) ++ wsX50)
theorem mi_wsX5_keeps_wsX5_keeps_r1 : ∀ w ∈ wsX5_keeps_r1, w ∈ wsX5_keeps := fun _ h => (List.mem_cons_of_mem _ (List.mem_append_left _ (List.mem_append_left _ h)))
theorem mi_wsX5_keeps_wsX5_keeps_r2 : ∀ w ∈ wsX5_keeps_r2, w ∈ wsX5_keeps := fun _ h => (List.mem_cons_of_mem _ (List.mem_append_left _ (List.mem_append_right _ h)))
theorem mi_wsX5_keeps_wsX50 : ∀ w ∈ wsX50, w ∈ wsX5_keeps := fun _ h => (List.mem_cons_of_mem _ (List.mem_append_right _ h))
set_option maxRecDepth 20000 in
theorem ggX5_keeps_X5_laysAll : GoodIn wsX5_keeps wsX5_laysAll := goodIn_m _ [(wsX5_keeps_r1, [false, false, false, false, false, false, false, false, false, false, false, false, false, false, true]), (wsX5_keeps_r1, [false, true, false, false, false, false, false, false, false, false, false, false, false, false, false, true, true, true, true]), (wsX5_keeps_r1, [false, false, false, false, false, false, false, false, false, false, false, false, false, true, false, false, false, false, false, true, true, true, true, true]), (wsX5_keeps_r2, [true, true, true]), (wsX5_keeps_r1, [false, false, false, true, false, true]), (wsX5_keeps_r2, [false, false, false, true]), (wsX5_keeps_r1, [false, false, false, false, false, false, false, true, false, true]), (wsX5_keeps_r2, [false, false, false, false, true, true, true, true, true, true, true, true, true, true, true, true, true, true, true, true, true, true, true]), (wsX50, [true, true, true, true, true, true, true, true, true, true, true, true, true, true, true, true, true, true, true, true, true, true, true, true, true, true, true, true, true, true])] (gm_c mi_wsX5_keeps_wsX5_keeps_r1 (gm_c mi_wsX5_keeps_wsX5_keeps_r1 (gm_c mi_wsX5_keeps_wsX5_keeps_r1 (gm_c mi_wsX5_keeps_wsX5_keeps_r2 (gm_c mi_wsX5_keeps_wsX5_keeps_r1 (gm_c mi_wsX5_keeps_wsX5_keeps_r2 (gm_c mi_wsX5_keeps_wsX5_keeps_r1 (gm_c mi_wsX5_keeps_wsX5_keeps_r2 (gm_c mi_wsX5_keeps_wsX50 gm_n))))))))) rfl (by decide +kernel)
set_option maxRecDepth 20000 in
theorem gX5_keeps_X5_laysAll : GoodIn wsX5_keeps (wsV RX5 124 RX5 yX5_laysAll wsX5_laysAll) := goodIn_app (goodIn_m _ [(wsX5_keeps_r1, [false, false, false, false, false, false, false, false, false, false, true, true, true, true])] (gm_c mi_wsX5_keeps_wsX5_keeps_r1 gm_n) rfl (by decide +kernel)) ggX5_keeps_X5_laysAll
def dt_cX5_keeps_0 : List (Nat × Nat × Nat × Nat) := [(0, 42, 0, 0), (1, 42, 0, 0), (2, 180, 2, 13), (5, 182, 2, 124), (8, 3, 0, 0), (9, 60, 0, 0), (10, 27, 0, 0), (11, 42, 0, 0), (12, 180, 2, 101), (15, 162, 2, 95), (18, 42, 0, 0), (19, 180, 2, 47), (22, 27, 0, 0), (23, 42, 0, 0), (24, 180, 2, 17), (27, 27, 0, 0), (28, 46, 0, 0), (29, 79, 0, 0), (30, 42, 0, 0), (31, 180, 2, 50)]
theorem da_cX5_keeps_0 : fw dt_cX5_keeps_0 0 cX5_keeps.data.toList = true := by decide +kernel
theorem dX5_keeps_0 : decode cX5_keeps 0 = .ok (.aload_n 0, 1) := fo_42 (fw_get da_cX5_keeps_0 0 rfl)
theorem dX5_keeps_1 : decode cX5_keeps 1 = .ok (.aload_n 0, 1) := fo_42 (fw_get da_cX5_keeps_0 1 rfl)
theorem dX5_keeps_2 : decode cX5_keeps 2 = .ok (.getfield 13, 3) := fo_180 (fw_get da_cX5_keeps_0 2 rfl)
theorem dX5_keeps_5 : decode cX5_keeps 5 = .ok (.invokevirtual 124, 3) := fo_182 (fw_get da_cX5_keeps_0 3 rfl)
theorem dX5_keeps_8 : decode cX5_keeps 8 = .ok (.iconst 0, 1) := fo_3 (fw_get da_cX5_keeps_0 4 rfl)
theorem dX5_keeps_9 : decode cX5_keeps 9 = .ok (.istore_n 1, 1) := fo_60 (fw_get da_cX5_keeps_0 5 rfl)
theorem dX5_keeps_10 : decode cX5_keeps 10 = .ok (.iload_n 1, 1) := fo_27 (fw_get da_cX5_keeps_0 6 rfl)
theorem dX5_keeps_11 : decode cX5_keeps 11 = .ok (.aload_n 0, 1) := fo_42 (fw_get da_cX5_keeps_0 7 rfl)
theorem dX5_keeps_12 : decode cX5_keeps 12 = .ok (.getfield 101, 3) := fo_180 (fw_get da_cX5_keeps_0 8 rfl)
theorem dX5_keeps_15 : decode cX5_keeps 15 = .ok (.if_icmp .ge 95, 3) := fo_162 (fw_get da_cX5_keeps_0 9 rfl) (by decide +kernel)
theorem dX5_keeps_18 : decode cX5_keeps 18 = .ok (.aload_n 0, 1) := fo_42 (fw_get da_cX5_keeps_0 10 rfl)
theorem dX5_keeps_19 : decode cX5_keeps 19 = .ok (.getfield 47, 3) := fo_180 (fw_get da_cX5_keeps_0 11 rfl)
theorem dX5_keeps_22 : decode cX5_keeps 22 = .ok (.iload_n 1, 1) := fo_27 (fw_get da_cX5_keeps_0 12 rfl)
theorem dX5_keeps_23 : decode cX5_keeps 23 = .ok (.aload_n 0, 1) := fo_42 (fw_get da_cX5_keeps_0 13 rfl)
theorem dX5_keeps_24 : decode cX5_keeps 24 = .ok (.getfield 17, 3) := fo_180 (fw_get da_cX5_keeps_0 14 rfl)
theorem dX5_keeps_27 : decode cX5_keeps 27 = .ok (.iload_n 1, 1) := fo_27 (fw_get da_cX5_keeps_0 15 rfl)
theorem dX5_keeps_28 : decode cX5_keeps 28 = .ok (.iaload, 1) := fo_46 (fw_get da_cX5_keeps_0 16 rfl)
theorem dX5_keeps_29 : decode cX5_keeps 29 = .ok (.iastore, 1) := fo_79 (fw_get da_cX5_keeps_0 17 rfl)
theorem dX5_keeps_30 : decode cX5_keeps 30 = .ok (.aload_n 0, 1) := fo_42 (fw_get da_cX5_keeps_0 18 rfl)
theorem dX5_keeps_31 : decode cX5_keeps 31 = .ok (.getfield 50, 3) := fo_180 (fw_get da_cX5_keeps_0 19 rfl)
def dt_cX5_keeps_1 : List (Nat × Nat × Nat × Nat) := [(34, 27, 0, 0), (35, 42, 0, 0), (36, 180, 2, 20), (39, 27, 0, 0), (40, 46, 0, 0), (41, 79, 0, 0), (42, 3, 0, 0), (43, 61, 0, 0), (44, 28, 0, 0), (45, 42, 0, 0), (46, 180, 2, 17), (49, 27, 0, 0), (50, 46, 0, 0), (51, 162, 2, 53), (54, 42, 0, 0), (55, 180, 2, 53), (58, 16, 1, 6), (60, 27, 0, 0), (61, 104, 0, 0), (62, 28, 0, 0)]
theorem da_cX5_keeps_1 : fw dt_cX5_keeps_1 0 cX5_keeps.data.toList = true := by decide +kernel
theorem dX5_keeps_34 : decode cX5_keeps 34 = .ok (.iload_n 1, 1) := fo_27 (fw_get da_cX5_keeps_1 0 rfl)
theorem dX5_keeps_35 : decode cX5_keeps 35 = .ok (.aload_n 0, 1) := fo_42 (fw_get da_cX5_keeps_1 1 rfl)
theorem dX5_keeps_36 : decode cX5_keeps 36 = .ok (.getfield 20, 3) := fo_180 (fw_get da_cX5_keeps_1 2 rfl)
theorem dX5_keeps_39 : decode cX5_keeps 39 = .ok (.iload_n 1, 1) := fo_27 (fw_get da_cX5_keeps_1 3 rfl)
theorem dX5_keeps_40 : decode cX5_keeps 40 = .ok (.iaload, 1) := fo_46 (fw_get da_cX5_keeps_1 4 rfl)
theorem dX5_keeps_41 : decode cX5_keeps 41 = .ok (.iastore, 1) := fo_79 (fw_get da_cX5_keeps_1 5 rfl)
theorem dX5_keeps_42 : decode cX5_keeps 42 = .ok (.iconst 0, 1) := fo_3 (fw_get da_cX5_keeps_1 6 rfl)
theorem dX5_keeps_43 : decode cX5_keeps 43 = .ok (.istore_n 2, 1) := fo_61 (fw_get da_cX5_keeps_1 7 rfl)
theorem dX5_keeps_44 : decode cX5_keeps 44 = .ok (.iload_n 2, 1) := fo_28 (fw_get da_cX5_keeps_1 8 rfl)
theorem dX5_keeps_45 : decode cX5_keeps 45 = .ok (.aload_n 0, 1) := fo_42 (fw_get da_cX5_keeps_1 9 rfl)
theorem dX5_keeps_46 : decode cX5_keeps 46 = .ok (.getfield 17, 3) := fo_180 (fw_get da_cX5_keeps_1 10 rfl)
theorem dX5_keeps_49 : decode cX5_keeps 49 = .ok (.iload_n 1, 1) := fo_27 (fw_get da_cX5_keeps_1 11 rfl)
theorem dX5_keeps_50 : decode cX5_keeps 50 = .ok (.iaload, 1) := fo_46 (fw_get da_cX5_keeps_1 12 rfl)
theorem dX5_keeps_51 : decode cX5_keeps 51 = .ok (.if_icmp .ge 53, 3) := fo_162 (fw_get da_cX5_keeps_1 13 rfl) (by decide +kernel)
theorem dX5_keeps_54 : decode cX5_keeps 54 = .ok (.aload_n 0, 1) := fo_42 (fw_get da_cX5_keeps_1 14 rfl)
theorem dX5_keeps_55 : decode cX5_keeps 55 = .ok (.getfield 53, 3) := fo_180 (fw_get da_cX5_keeps_1 15 rfl)
theorem dX5_keeps_58 : decode cX5_keeps 58 = .ok (.bipush 6, 2) := fo_16 (fw_get da_cX5_keeps_1 16 rfl) (by decide +kernel)
theorem dX5_keeps_60 : decode cX5_keeps 60 = .ok (.iload_n 1, 1) := fo_27 (fw_get da_cX5_keeps_1 17 rfl)
theorem dX5_keeps_61 : decode cX5_keeps 61 = .ok (.imul, 1) := fo_104 (fw_get da_cX5_keeps_1 18 rfl)
theorem dX5_keeps_62 : decode cX5_keeps 62 = .ok (.iload_n 2, 1) := fo_28 (fw_get da_cX5_keeps_1 19 rfl)
def dt_cX5_keeps_2 : List (Nat × Nat × Nat × Nat) := [(63, 96, 0, 0), (64, 42, 0, 0), (65, 180, 2, 26), (68, 16, 1, 6), (70, 27, 0, 0), (71, 104, 0, 0), (72, 28, 0, 0), (73, 96, 0, 0), (74, 46, 0, 0), (75, 79, 0, 0), (76, 42, 0, 0), (77, 180, 2, 56), (80, 16, 1, 6), (82, 27, 0, 0), (83, 104, 0, 0), (84, 28, 0, 0), (85, 96, 0, 0), (86, 42, 0, 0), (87, 180, 2, 29), (90, 16, 1, 6)]
theorem da_cX5_keeps_2 : fw dt_cX5_keeps_2 0 cX5_keeps.data.toList = true := by decide +kernel
theorem dX5_keeps_63 : decode cX5_keeps 63 = .ok (.iadd, 1) := fo_96 (fw_get da_cX5_keeps_2 0 rfl)
theorem dX5_keeps_64 : decode cX5_keeps 64 = .ok (.aload_n 0, 1) := fo_42 (fw_get da_cX5_keeps_2 1 rfl)
theorem dX5_keeps_65 : decode cX5_keeps 65 = .ok (.getfield 26, 3) := fo_180 (fw_get da_cX5_keeps_2 2 rfl)
theorem dX5_keeps_68 : decode cX5_keeps 68 = .ok (.bipush 6, 2) := fo_16 (fw_get da_cX5_keeps_2 3 rfl) (by decide +kernel)
theorem dX5_keeps_70 : decode cX5_keeps 70 = .ok (.iload_n 1, 1) := fo_27 (fw_get da_cX5_keeps_2 4 rfl)
theorem dX5_keeps_71 : decode cX5_keeps 71 = .ok (.imul, 1) := fo_104 (fw_get da_cX5_keeps_2 5 rfl)
theorem dX5_keeps_72 : decode cX5_keeps 72 = .ok (.iload_n 2, 1) := fo_28 (fw_get da_cX5_keeps_2 6 rfl)
theorem dX5_keeps_73 : decode cX5_keeps 73 = .ok (.iadd, 1) := fo_96 (fw_get da_cX5_keeps_2 7 rfl)
theorem dX5_keeps_74 : decode cX5_keeps 74 = .ok (.iaload, 1) := fo_46 (fw_get da_cX5_keeps_2 8 rfl)
theorem dX5_keeps_75 : decode cX5_keeps 75 = .ok (.iastore, 1) := fo_79 (fw_get da_cX5_keeps_2 9 rfl)
theorem dX5_keeps_76 : decode cX5_keeps 76 = .ok (.aload_n 0, 1) := fo_42 (fw_get da_cX5_keeps_2 10 rfl)
theorem dX5_keeps_77 : decode cX5_keeps 77 = .ok (.getfield 56, 3) := fo_180 (fw_get da_cX5_keeps_2 11 rfl)
theorem dX5_keeps_80 : decode cX5_keeps 80 = .ok (.bipush 6, 2) := fo_16 (fw_get da_cX5_keeps_2 12 rfl) (by decide +kernel)
theorem dX5_keeps_82 : decode cX5_keeps 82 = .ok (.iload_n 1, 1) := fo_27 (fw_get da_cX5_keeps_2 13 rfl)
theorem dX5_keeps_83 : decode cX5_keeps 83 = .ok (.imul, 1) := fo_104 (fw_get da_cX5_keeps_2 14 rfl)
theorem dX5_keeps_84 : decode cX5_keeps 84 = .ok (.iload_n 2, 1) := fo_28 (fw_get da_cX5_keeps_2 15 rfl)
theorem dX5_keeps_85 : decode cX5_keeps 85 = .ok (.iadd, 1) := fo_96 (fw_get da_cX5_keeps_2 16 rfl)
theorem dX5_keeps_86 : decode cX5_keeps 86 = .ok (.aload_n 0, 1) := fo_42 (fw_get da_cX5_keeps_2 17 rfl)
theorem dX5_keeps_87 : decode cX5_keeps 87 = .ok (.getfield 29, 3) := fo_180 (fw_get da_cX5_keeps_2 18 rfl)
theorem dX5_keeps_90 : decode cX5_keeps 90 = .ok (.bipush 6, 2) := fo_16 (fw_get da_cX5_keeps_2 19 rfl) (by decide +kernel)
def dt_cX5_keeps_3 : List (Nat × Nat × Nat × Nat) := [(92, 27, 0, 0), (93, 104, 0, 0), (94, 28, 0, 0), (95, 96, 0, 0), (96, 46, 0, 0), (97, 79, 0, 0), (98, 132, 2, 513), (101, 167, 2, 65479), (104, 132, 2, 257), (107, 167, 2, 65439), (110, 177, 0, 0)]
theorem da_cX5_keeps_3 : fw dt_cX5_keeps_3 0 cX5_keeps.data.toList = true := by decide +kernel
theorem dX5_keeps_92 : decode cX5_keeps 92 = .ok (.iload_n 1, 1) := fo_27 (fw_get da_cX5_keeps_3 0 rfl)
theorem dX5_keeps_93 : decode cX5_keeps 93 = .ok (.imul, 1) := fo_104 (fw_get da_cX5_keeps_3 1 rfl)
theorem dX5_keeps_94 : decode cX5_keeps 94 = .ok (.iload_n 2, 1) := fo_28 (fw_get da_cX5_keeps_3 2 rfl)
theorem dX5_keeps_95 : decode cX5_keeps 95 = .ok (.iadd, 1) := fo_96 (fw_get da_cX5_keeps_3 3 rfl)
theorem dX5_keeps_96 : decode cX5_keeps 96 = .ok (.iaload, 1) := fo_46 (fw_get da_cX5_keeps_3 4 rfl)
theorem dX5_keeps_97 : decode cX5_keeps 97 = .ok (.iastore, 1) := fo_79 (fw_get da_cX5_keeps_3 5 rfl)
theorem dX5_keeps_98 : decode cX5_keeps 98 = .ok (.iinc 2 1, 3) := fo_132 (fw_get da_cX5_keeps_3 6 rfl) rfl (by decide +kernel)
theorem dX5_keeps_101 : decode cX5_keeps 101 = .ok (.goto (-57), 3) := fo_167 (fw_get da_cX5_keeps_3 7 rfl) (by decide +kernel)
theorem dX5_keeps_104 : decode cX5_keeps 104 = .ok (.iinc 1 1, 3) := fo_132 (fw_get da_cX5_keeps_3 8 rfl) rfl (by decide +kernel)
theorem dX5_keeps_107 : decode cX5_keeps 107 = .ok (.goto (-97), 3) := fo_167 (fw_get da_cX5_keeps_3 9 rfl) (by decide +kernel)
theorem dX5_keeps_110 : decode cX5_keeps 110 = .ok (.return_, 1) := fo_177 (fw_get da_cX5_keeps_3 10 rfl)
theorem mi_wsX5_others_wsX5_others_r1 : ∀ w ∈ wsX5_others_r1, w ∈ wsX5_others := fun _ h => (List.mem_cons_of_mem _ (List.mem_append_left _ (List.mem_append_left _ h)))
theorem mi_wsX5_others_wsX5_others_r2 : ∀ w ∈ wsX5_others_r2, w ∈ wsX5_others := fun _ h => (List.mem_cons_of_mem _ (List.mem_append_left _ (List.mem_append_right _ h)))
theorem mi_wsX5_others_wsX50 : ∀ w ∈ wsX50, w ∈ wsX5_others := fun _ h => (List.mem_cons_of_mem _ (List.mem_append_right _ h))
set_option maxRecDepth 20000 in
theorem ggX5_others_X5_laysAll : GoodIn wsX5_others wsX5_laysAll := goodIn_m _ [(wsX5_others_r1, [false, false, false, false, false, false, false, false, false, false, false, false, false, false, true]), (wsX5_others_r1, [false, true, false, false, false, false, false, false, false, false, false, false, false, false, false, true, true, true, true]), (wsX5_others_r1, [false, false, false, false, false, false, false, false, false, false, false, false, false, true, false, false, false, false, false, true, true, true, true, true]), (wsX5_others_r2, [true, true, true]), (wsX5_others_r1, [false, false, true, false, true]), (wsX5_others_r2, [false, false, false, true]), (wsX5_others_r1, [false, false, false, false, false, false, true, false, true]), (wsX5_others_r2, [false, false, false, false, true, true, true, true, true, true, true, true, true, true, true, true, true, true, true, true, true, true, true]), (wsX50, [true, true, true, true, true, true, true, true, true, true, true, true, true, true, true, true, true, true, true, true, true, true, true, true, true, true, true, true, true, true])] (gm_c mi_wsX5_others_wsX5_others_r1 (gm_c mi_wsX5_others_wsX5_others_r1 (gm_c mi_wsX5_others_wsX5_others_r1 (gm_c mi_wsX5_others_wsX5_others_r2 (gm_c mi_wsX5_others_wsX5_others_r1 (gm_c mi_wsX5_others_wsX5_others_r2 (gm_c mi_wsX5_others_wsX5_others_r1 (gm_c mi_wsX5_others_wsX5_others_r2 (gm_c mi_wsX5_others_wsX50 gm_n))))))))) rfl (by decide +kernel)
set_option maxRecDepth 20000 in
theorem gX5_others_X5_laysAll : GoodIn wsX5_others (wsV RX5 124 RX5 yX5_laysAll wsX5_laysAll) := goodIn_app (goodIn_m _ [(wsX5_others_r1, [false, false, false, false, false, false, false, false, false, false, true, true, true, true])] (gm_c mi_wsX5_others_wsX5_others_r1 gm_n) rfl (by decide +kernel)) ggX5_others_X5_laysAll
def dt_cX5_others_0 : List (Nat × Nat × Nat × Nat) := [(0, 42, 0, 0), (1, 42, 0, 0), (2, 180, 2, 13), (5, 182, 2, 124), (8, 3, 0, 0), (9, 60, 0, 0), (10, 3, 0, 0), (11, 61, 0, 0), (12, 28, 0, 0), (13, 42, 0, 0), (14, 180, 2, 101), (17, 162, 2, 141), (20, 42, 0, 0), (21, 180, 2, 17), (24, 28, 0, 0), (25, 46, 0, 0), (26, 42, 0, 0), (27, 180, 2, 47), (30, 28, 0, 0), (31, 46, 0, 0)]
theorem da_cX5_others_0 : fw dt_cX5_others_0 0 cX5_others.data.toList = true := by decide +kernel
theorem dX5_others_0 : decode cX5_others 0 = .ok (.aload_n 0, 1) := fo_42 (fw_get da_cX5_others_0 0 rfl)
theorem dX5_others_1 : decode cX5_others 1 = .ok (.aload_n 0, 1) := fo_42 (fw_get da_cX5_others_0 1 rfl)
theorem dX5_others_2 : decode cX5_others 2 = .ok (.getfield 13, 3) := fo_180 (fw_get da_cX5_others_0 2 rfl)
theorem dX5_others_5 : decode cX5_others 5 = .ok (.invokevirtual 124, 3) := fo_182 (fw_get da_cX5_others_0 3 rfl)
theorem dX5_others_8 : decode cX5_others 8 = .ok (.iconst 0, 1) := fo_3 (fw_get da_cX5_others_0 4 rfl)
theorem dX5_others_9 : decode cX5_others 9 = .ok (.istore_n 1, 1) := fo_60 (fw_get da_cX5_others_0 5 rfl)
theorem dX5_others_10 : decode cX5_others 10 = .ok (.iconst 0, 1) := fo_3 (fw_get da_cX5_others_0 6 rfl)
theorem dX5_others_11 : decode cX5_others 11 = .ok (.istore_n 2, 1) := fo_61 (fw_get da_cX5_others_0 7 rfl)
theorem dX5_others_12 : decode cX5_others 12 = .ok (.iload_n 2, 1) := fo_28 (fw_get da_cX5_others_0 8 rfl)
theorem dX5_others_13 : decode cX5_others 13 = .ok (.aload_n 0, 1) := fo_42 (fw_get da_cX5_others_0 9 rfl)
theorem dX5_others_14 : decode cX5_others 14 = .ok (.getfield 101, 3) := fo_180 (fw_get da_cX5_others_0 10 rfl)
theorem dX5_others_17 : decode cX5_others 17 = .ok (.if_icmp .ge 141, 3) := fo_162 (fw_get da_cX5_others_0 11 rfl) (by decide +kernel)
theorem dX5_others_20 : decode cX5_others 20 = .ok (.aload_n 0, 1) := fo_42 (fw_get da_cX5_others_0 12 rfl)
theorem dX5_others_21 : decode cX5_others 21 = .ok (.getfield 17, 3) := fo_180 (fw_get da_cX5_others_0 13 rfl)
theorem dX5_others_24 : decode cX5_others 24 = .ok (.iload_n 2, 1) := fo_28 (fw_get da_cX5_others_0 14 rfl)
theorem dX5_others_25 : decode cX5_others 25 = .ok (.iaload, 1) := fo_46 (fw_get da_cX5_others_0 15 rfl)
theorem dX5_others_26 : decode cX5_others 26 = .ok (.aload_n 0, 1) := fo_42 (fw_get da_cX5_others_0 16 rfl)
theorem dX5_others_27 : decode cX5_others 27 = .ok (.getfield 47, 3) := fo_180 (fw_get da_cX5_others_0 17 rfl)
theorem dX5_others_30 : decode cX5_others 30 = .ok (.iload_n 2, 1) := fo_28 (fw_get da_cX5_others_0 18 rfl)
theorem dX5_others_31 : decode cX5_others 31 = .ok (.iaload, 1) := fo_46 (fw_get da_cX5_others_0 19 rfl)
def dt_cX5_others_1 : List (Nat × Nat × Nat × Nat) := [(32, 160, 2, 22), (35, 42, 0, 0), (36, 180, 2, 20), (39, 28, 0, 0), (40, 46, 0, 0), (41, 42, 0, 0), (42, 180, 2, 50), (45, 28, 0, 0), (46, 46, 0, 0), (47, 160, 2, 7), (50, 4, 0, 0), (51, 167, 2, 4), (54, 3, 0, 0), (55, 62, 0, 0), (56, 3, 0, 0), (57, 54, 1, 4), (59, 21, 1, 4), (61, 42, 0, 0), (62, 180, 2, 17), (65, 28, 0, 0)]
theorem da_cX5_others_1 : fw dt_cX5_others_1 0 cX5_others.data.toList = true := by decide +kernel
theorem dX5_others_32 : decode cX5_others 32 = .ok (.if_icmp .ne 22, 3) := fo_160 (fw_get da_cX5_others_1 0 rfl) (by decide +kernel)
theorem dX5_others_35 : decode cX5_others 35 = .ok (.aload_n 0, 1) := fo_42 (fw_get da_cX5_others_1 1 rfl)
theorem dX5_others_36 : decode cX5_others 36 = .ok (.getfield 20, 3) := fo_180 (fw_get da_cX5_others_1 2 rfl)
theorem dX5_others_39 : decode cX5_others 39 = .ok (.iload_n 2, 1) := fo_28 (fw_get da_cX5_others_1 3 rfl)
theorem dX5_others_40 : decode cX5_others 40 = .ok (.iaload, 1) := fo_46 (fw_get da_cX5_others_1 4 rfl)
theorem dX5_others_41 : decode cX5_others 41 = .ok (.aload_n 0, 1) := fo_42 (fw_get da_cX5_others_1 5 rfl)
theorem dX5_others_42 : decode cX5_others 42 = .ok (.getfield 50, 3) := fo_180 (fw_get da_cX5_others_1 6 rfl)
theorem dX5_others_45 : decode cX5_others 45 = .ok (.iload_n 2, 1) := fo_28 (fw_get da_cX5_others_1 7 rfl)
theorem dX5_others_46 : decode cX5_others 46 = .ok (.iaload, 1) := fo_46 (fw_get da_cX5_others_1 8 rfl)
theorem dX5_others_47 : decode cX5_others 47 = .ok (.if_icmp .ne 7, 3) := fo_160 (fw_get da_cX5_others_1 9 rfl) (by decide +kernel)
theorem dX5_others_50 : decode cX5_others 50 = .ok (.iconst 1, 1) := fo_4 (fw_get da_cX5_others_1 10 rfl)
theorem dX5_others_51 : decode cX5_others 51 = .ok (.goto 4, 3) := fo_167 (fw_get da_cX5_others_1 11 rfl) (by decide +kernel)
theorem dX5_others_54 : decode cX5_others 54 = .ok (.iconst 0, 1) := fo_3 (fw_get da_cX5_others_1 12 rfl)
theorem dX5_others_55 : decode cX5_others 55 = .ok (.istore_n 3, 1) := fo_62 (fw_get da_cX5_others_1 13 rfl)
theorem dX5_others_56 : decode cX5_others 56 = .ok (.iconst 0, 1) := fo_3 (fw_get da_cX5_others_1 14 rfl)
theorem dX5_others_57 : decode cX5_others 57 = .ok (.istore 4, 2) := fo_54 (fw_get da_cX5_others_1 15 rfl)
theorem dX5_others_59 : decode cX5_others 59 = .ok (.iload 4, 2) := fo_21 (fw_get da_cX5_others_1 16 rfl)
theorem dX5_others_61 : decode cX5_others 61 = .ok (.aload_n 0, 1) := fo_42 (fw_get da_cX5_others_1 17 rfl)
theorem dX5_others_62 : decode cX5_others 62 = .ok (.getfield 17, 3) := fo_180 (fw_get da_cX5_others_1 18 rfl)
theorem dX5_others_65 : decode cX5_others 65 = .ok (.iload_n 2, 1) := fo_28 (fw_get da_cX5_others_1 19 rfl)
def dt_cX5_others_2 : List (Nat × Nat × Nat × Nat) := [(66, 46, 0, 0), (67, 162, 2, 73), (70, 29, 0, 0), (71, 153, 2, 69), (74, 42, 0, 0), (75, 180, 2, 26), (78, 16, 1, 6), (80, 28, 0, 0), (81, 104, 0, 0), (82, 21, 1, 4), (84, 96, 0, 0), (85, 46, 0, 0), (86, 42, 0, 0), (87, 180, 2, 53), (90, 16, 1, 6), (92, 28, 0, 0), (93, 104, 0, 0), (94, 21, 1, 4), (96, 96, 0, 0), (97, 46, 0, 0)]
theorem da_cX5_others_2 : fw dt_cX5_others_2 0 cX5_others.data.toList = true := by decide +kernel
theorem dX5_others_66 : decode cX5_others 66 = .ok (.iaload, 1) := fo_46 (fw_get da_cX5_others_2 0 rfl)
theorem dX5_others_67 : decode cX5_others 67 = .ok (.if_icmp .ge 73, 3) := fo_162 (fw_get da_cX5_others_2 1 rfl) (by decide +kernel)
theorem dX5_others_70 : decode cX5_others 70 = .ok (.iload_n 3, 1) := fo_29 (fw_get da_cX5_others_2 2 rfl)
theorem dX5_others_71 : decode cX5_others 71 = .ok (.ifCond .eq 69, 3) := fo_153 (fw_get da_cX5_others_2 3 rfl) (by decide +kernel)
theorem dX5_others_74 : decode cX5_others 74 = .ok (.aload_n 0, 1) := fo_42 (fw_get da_cX5_others_2 4 rfl)
theorem dX5_others_75 : decode cX5_others 75 = .ok (.getfield 26, 3) := fo_180 (fw_get da_cX5_others_2 5 rfl)
theorem dX5_others_78 : decode cX5_others 78 = .ok (.bipush 6, 2) := fo_16 (fw_get da_cX5_others_2 6 rfl) (by decide +kernel)
theorem dX5_others_80 : decode cX5_others 80 = .ok (.iload_n 2, 1) := fo_28 (fw_get da_cX5_others_2 7 rfl)
theorem dX5_others_81 : decode cX5_others 81 = .ok (.imul, 1) := fo_104 (fw_get da_cX5_others_2 8 rfl)
theorem dX5_others_82 : decode cX5_others 82 = .ok (.iload 4, 2) := fo_21 (fw_get da_cX5_others_2 9 rfl)
theorem dX5_others_84 : decode cX5_others 84 = .ok (.iadd, 1) := fo_96 (fw_get da_cX5_others_2 10 rfl)
theorem dX5_others_85 : decode cX5_others 85 = .ok (.iaload, 1) := fo_46 (fw_get da_cX5_others_2 11 rfl)
theorem dX5_others_86 : decode cX5_others 86 = .ok (.aload_n 0, 1) := fo_42 (fw_get da_cX5_others_2 12 rfl)
theorem dX5_others_87 : decode cX5_others 87 = .ok (.getfield 53, 3) := fo_180 (fw_get da_cX5_others_2 13 rfl)
theorem dX5_others_90 : decode cX5_others 90 = .ok (.bipush 6, 2) := fo_16 (fw_get da_cX5_others_2 14 rfl) (by decide +kernel)
theorem dX5_others_92 : decode cX5_others 92 = .ok (.iload_n 2, 1) := fo_28 (fw_get da_cX5_others_2 15 rfl)
theorem dX5_others_93 : decode cX5_others 93 = .ok (.imul, 1) := fo_104 (fw_get da_cX5_others_2 16 rfl)
theorem dX5_others_94 : decode cX5_others 94 = .ok (.iload 4, 2) := fo_21 (fw_get da_cX5_others_2 17 rfl)
theorem dX5_others_96 : decode cX5_others 96 = .ok (.iadd, 1) := fo_96 (fw_get da_cX5_others_2 18 rfl)
theorem dX5_others_97 : decode cX5_others 97 = .ok (.iaload, 1) := fo_46 (fw_get da_cX5_others_2 19 rfl)
def dt_cX5_others_3 : List (Nat × Nat × Nat × Nat) := [(98, 160, 2, 34), (101, 42, 0, 0), (102, 180, 2, 29), (105, 16, 1, 6), (107, 28, 0, 0), (108, 104, 0, 0), (109, 21, 1, 4), (111, 96, 0, 0), (112, 46, 0, 0), (113, 42, 0, 0), (114, 180, 2, 56), (117, 16, 1, 6), (119, 28, 0, 0), (120, 104, 0, 0), (121, 21, 1, 4), (123, 96, 0, 0), (124, 46, 0, 0), (125, 160, 2, 7), (128, 4, 0, 0), (129, 167, 2, 4)]
theorem da_cX5_others_3 : fw dt_cX5_others_3 0 cX5_others.data.toList = true := by decide +kernel
theorem dX5_others_98 : decode cX5_others 98 = .ok (.if_icmp .ne 34, 3) := fo_160 (fw_get da_cX5_others_3 0 rfl) (by decide +kernel)
theorem dX5_others_101 : decode cX5_others 101 = .ok (.aload_n 0, 1) := fo_42 (fw_get da_cX5_others_3 1 rfl)
theorem dX5_others_102 : decode cX5_others 102 = .ok (.getfield 29, 3) := fo_180 (fw_get da_cX5_others_3 2 rfl)
theorem dX5_others_105 : decode cX5_others 105 = .ok (.bipush 6, 2) := fo_16 (fw_get da_cX5_others_3 3 rfl) (by decide +kernel)
theorem dX5_others_107 : decode cX5_others 107 = .ok (.iload_n 2, 1) := fo_28 (fw_get da_cX5_others_3 4 rfl)
theorem dX5_others_108 : decode cX5_others 108 = .ok (.imul, 1) := fo_104 (fw_get da_cX5_others_3 5 rfl)
theorem dX5_others_109 : decode cX5_others 109 = .ok (.iload 4, 2) := fo_21 (fw_get da_cX5_others_3 6 rfl)
theorem dX5_others_111 : decode cX5_others 111 = .ok (.iadd, 1) := fo_96 (fw_get da_cX5_others_3 7 rfl)
theorem dX5_others_112 : decode cX5_others 112 = .ok (.iaload, 1) := fo_46 (fw_get da_cX5_others_3 8 rfl)
theorem dX5_others_113 : decode cX5_others 113 = .ok (.aload_n 0, 1) := fo_42 (fw_get da_cX5_others_3 9 rfl)
theorem dX5_others_114 : decode cX5_others 114 = .ok (.getfield 56, 3) := fo_180 (fw_get da_cX5_others_3 10 rfl)
theorem dX5_others_117 : decode cX5_others 117 = .ok (.bipush 6, 2) := fo_16 (fw_get da_cX5_others_3 11 rfl) (by decide +kernel)
theorem dX5_others_119 : decode cX5_others 119 = .ok (.iload_n 2, 1) := fo_28 (fw_get da_cX5_others_3 12 rfl)
theorem dX5_others_120 : decode cX5_others 120 = .ok (.imul, 1) := fo_104 (fw_get da_cX5_others_3 13 rfl)
theorem dX5_others_121 : decode cX5_others 121 = .ok (.iload 4, 2) := fo_21 (fw_get da_cX5_others_3 14 rfl)
theorem dX5_others_123 : decode cX5_others 123 = .ok (.iadd, 1) := fo_96 (fw_get da_cX5_others_3 15 rfl)
theorem dX5_others_124 : decode cX5_others 124 = .ok (.iaload, 1) := fo_46 (fw_get da_cX5_others_3 16 rfl)
theorem dX5_others_125 : decode cX5_others 125 = .ok (.if_icmp .ne 7, 3) := fo_160 (fw_get da_cX5_others_3 17 rfl) (by decide +kernel)
theorem dX5_others_128 : decode cX5_others 128 = .ok (.iconst 1, 1) := fo_4 (fw_get da_cX5_others_3 18 rfl)
theorem dX5_others_129 : decode cX5_others 129 = .ok (.goto 4, 3) := fo_167 (fw_get da_cX5_others_3 19 rfl) (by decide +kernel)
def dt_cX5_others_4 : List (Nat × Nat × Nat × Nat) := [(132, 3, 0, 0), (133, 62, 0, 0), (134, 132, 2, 1025), (137, 167, 2, 65458), (140, 27, 0, 0), (141, 29, 0, 0), (142, 153, 2, 7), (145, 3, 0, 0), (146, 167, 2, 4), (149, 4, 0, 0), (150, 96, 0, 0), (151, 60, 0, 0), (152, 132, 2, 513), (155, 167, 2, 65393), (158, 27, 0, 0), (159, 172, 0, 0)]
theorem da_cX5_others_4 : fw dt_cX5_others_4 0 cX5_others.data.toList = true := by decide +kernel
theorem dX5_others_132 : decode cX5_others 132 = .ok (.iconst 0, 1) := fo_3 (fw_get da_cX5_others_4 0 rfl)
theorem dX5_others_133 : decode cX5_others 133 = .ok (.istore_n 3, 1) := fo_62 (fw_get da_cX5_others_4 1 rfl)
theorem dX5_others_134 : decode cX5_others 134 = .ok (.iinc 4 1, 3) := fo_132 (fw_get da_cX5_others_4 2 rfl) rfl (by decide +kernel)
theorem dX5_others_137 : decode cX5_others 137 = .ok (.goto (-78), 3) := fo_167 (fw_get da_cX5_others_4 3 rfl) (by decide +kernel)
theorem dX5_others_140 : decode cX5_others 140 = .ok (.iload_n 1, 1) := fo_27 (fw_get da_cX5_others_4 4 rfl)
theorem dX5_others_141 : decode cX5_others 141 = .ok (.iload_n 3, 1) := fo_29 (fw_get da_cX5_others_4 5 rfl)
theorem dX5_others_142 : decode cX5_others 142 = .ok (.ifCond .eq 7, 3) := fo_153 (fw_get da_cX5_others_4 6 rfl) (by decide +kernel)
theorem dX5_others_145 : decode cX5_others 145 = .ok (.iconst 0, 1) := fo_3 (fw_get da_cX5_others_4 7 rfl)
theorem dX5_others_146 : decode cX5_others 146 = .ok (.goto 4, 3) := fo_167 (fw_get da_cX5_others_4 8 rfl) (by decide +kernel)
theorem dX5_others_149 : decode cX5_others 149 = .ok (.iconst 1, 1) := fo_4 (fw_get da_cX5_others_4 9 rfl)
theorem dX5_others_150 : decode cX5_others 150 = .ok (.iadd, 1) := fo_96 (fw_get da_cX5_others_4 10 rfl)
theorem dX5_others_151 : decode cX5_others 151 = .ok (.istore_n 1, 1) := fo_60 (fw_get da_cX5_others_4 11 rfl)
theorem dX5_others_152 : decode cX5_others 152 = .ok (.iinc 2 1, 3) := fo_132 (fw_get da_cX5_others_4 12 rfl) rfl (by decide +kernel)
theorem dX5_others_155 : decode cX5_others 155 = .ok (.goto (-143), 3) := fo_167 (fw_get da_cX5_others_4 13 rfl) (by decide +kernel)
theorem dX5_others_158 : decode cX5_others 158 = .ok (.iload_n 1, 1) := fo_27 (fw_get da_cX5_others_4 14 rfl)
theorem dX5_others_159 : decode cX5_others 159 = .ok (.ireturn, 1) := fo_172 (fw_get da_cX5_others_4 15 rfl)
theorem mi_wsX5_set_wsX5_set_r1 : ∀ w ∈ wsX5_set_r1, w ∈ wsX5_set := fun _ h => (List.mem_cons_of_mem _ (List.mem_append_left _ (List.mem_append_left _ h)))
theorem mi_wsX5_set_wsX50 : ∀ w ∈ wsX50, w ∈ wsX5_set := fun _ h => (List.mem_cons_of_mem _ (List.mem_append_right _ h))
set_option maxRecDepth 20000 in
theorem ggX5_set_X5_isPlace : GoodIn wsX5_set wsX5_isPlace := goodIn_m _ [(wsX5_set_r1, [false, false, false, false, false, false, true, true, true, true]), (wsX5_set_r1, [false, false, false, false, false, true, false, false, false, false, true]), (wsX50, [true, true, true, true, true, true, true, true, true, true, true, true, true, true, true, true, true, true, true, true, true, true, true, true, true, true, true, true, true, true])] (gm_c mi_wsX5_set_wsX5_set_r1 (gm_c mi_wsX5_set_wsX5_set_r1 (gm_c mi_wsX5_set_wsX50 gm_n))) rfl (by decide +kernel)
set_option maxRecDepth 20000 in
theorem gX5_set_X5_isPlace : GoodIn wsX5_set (wsV RX5 128 RX5 yX5_isPlace wsX5_isPlace) := goodIn_app (goodIn_m _ [(wsX5_set_r1, [false, false, true, true, true, true])] (gm_c mi_wsX5_set_wsX5_set_r1 gm_n) rfl (by decide +kernel)) ggX5_set_X5_isPlace
set_option maxRecDepth 20000 in
theorem ggX5_set_X5_isValue : GoodIn wsX5_set wsX5_isValue := goodIn_m _ [(wsX5_set_r1, [false, false, false, false, false, false, false, false, false, false, false, false, false, true]), (wsX5_set_r1, [false, false, false, false, false, false, false, false, true, true]), (wsX5_set_r1, [false, false, false, false, false, true, false, false, false, false, true])] (gm_c mi_wsX5_set_wsX5_set_r1 (gm_c mi_wsX5_set_wsX5_set_r1 (gm_c mi_wsX5_set_wsX5_set_r1 gm_n))) rfl (by decide +kernel)
set_option maxRecDepth 20000 in
theorem gX5_set_X5_isValue : GoodIn wsX5_set (va_wsS RX5 132 yX5_isValue wsX5_isValue) := goodIn_app (goodIn_m _ [(wsX5_set_r1, [false, false, false, false, false, false, false, false, false, false, false, true, true]), (wsX5_set_r1, [false, false, false, false, false, true])] (gm_c mi_wsX5_set_wsX5_set_r1 (gm_c mi_wsX5_set_wsX5_set_r1 gm_n)) rfl (by decide +kernel)) ggX5_set_X5_isValue
theorem mi_wsX5_set_wsX5_set_r2 : ∀ w ∈ wsX5_set_r2, w ∈ wsX5_set := fun _ h => (List.mem_cons_of_mem _ (List.mem_append_left _ (List.mem_append_right _ (List.mem_append_left _ h))))
theorem mi_wsX5_set_wsX5_set_r3 : ∀ w ∈ wsX5_set_r3, w ∈ wsX5_set := fun _ h => (List.mem_cons_of_mem _ (List.mem_append_left _ (List.mem_append_right _ (List.mem_append_right _ h))))
set_option maxRecDepth 20000 in
theorem ggX5_set_X5_keeps : GoodIn wsX5_set wsX5_keeps := goodIn_m _ [(wsX5_set_r1, [false, false, false, false, false, false, false, false, false, false, false, false, false, false, false, false, false, true, true, true, true, true, true, true]), (wsX5_set_r2, [true, true, true, true, true, true, true]), (wsX5_set_r1, [false, false, false, false, false, true]), (wsX5_set_r2, [false, false, false, false, false, false, false, true]), (wsX5_set_r1, [false, false, false, false, false, false, false, true]), (wsX5_set_r2, [false, false, false, false, false, false, false, false, true, true, true, true, true, true]), (wsX5_set_r1, [false, true]), (wsX5_set_r2, [false, false, false, false, false, false, false, false, false, false, false, false, false, false, true, true, true, true, true, true, true, true, true, true]), (wsX5_set_r3, [true, true, true, true, true, true, true, true, true, true, true, true, true, true]), (wsX50, [true, true, true, true, true, true, true, true, true, true, true, true, true, true, true, true, true, true, true, true, true, true, true, true, true, true, true, true, true, true])] (gm_c mi_wsX5_set_wsX5_set_r1 (gm_c mi_wsX5_set_wsX5_set_r2 (gm_c mi_wsX5_set_wsX5_set_r1 (gm_c mi_wsX5_set_wsX5_set_r2 (gm_c mi_wsX5_set_wsX5_set_r1 (gm_c mi_wsX5_set_wsX5_set_r2 (gm_c mi_wsX5_set_wsX5_set_r1 (gm_c mi_wsX5_set_wsX5_set_r2 (gm_c mi_wsX5_set_wsX5_set_r3 (gm_c mi_wsX5_set_wsX50 gm_n)))))))))) rfl (by decide +kernel)
set_option maxRecDepth 20000 in
theorem gX5_set_X5_keeps : GoodIn wsX5_set (wsV RX5 135 RX5 yX5_keeps wsX5_keeps) := goodIn_app (goodIn_m _ [(wsX5_set_r1, [false, false, false, false, false, false, false, false, false, false, false, false, false, false, true, true, true]), (wsX5_set_r1, [false, false, false, false, false, true])] (gm_c mi_wsX5_set_wsX5_set_r1 (gm_c mi_wsX5_set_wsX5_set_r1 gm_n)) rfl (by decide +kernel)) ggX5_set_X5_keeps
set_option maxRecDepth 20000 in
theorem ggX5_set_X5_others : GoodIn wsX5_set wsX5_others := goodIn_m _ [(wsX5_set_r3, [false, false, false, false, false, false, false, false, false, false, false, false, false, false, false, false, false, true]), (wsX5_set_r1, [false, false, false, false, false, false, false, false, false, false, false, false, false, false, false, false, false, false, true, true, false, true]), (wsX5_set_r1, [false, false, false, false, false, false, false, false, false, false, false, false, false, false, false, false, false, false, false, false, true, false, false, true]), (wsX5_set_r1, [false, false, false, false, false, false, false, false, false, false, false, false, false, false, false, false, false, false, false, false, false, false, true]), (wsX5_set_r2, [false, true]), (wsX5_set_r2, [true, false, false, true]), (wsX5_set_r2, [false, false, true, false, true, true, true]), (wsX5_set_r1, [false, false, false, false, false, true]), (wsX5_set_r2, [false, false, false, false, false, false, false, true]), (wsX5_set_r1, [false, false, false, false, false, false, false, true]), (wsX5_set_r2, [false, false, false, false, false, false, false, false, true, true, true, true, true, true]), (wsX5_set_r1, [false, true]), (wsX5_set_r2, [false, false, false, false, false, false, false, false, false, false, false, false, false, false, true, true, true, true, true, true, true, true, true, true]), (wsX5_set_r3, [true, true, true, true, true, true, true, true, true, true, true, true, true, true]), (wsX50, [true, true, true, true, true, true, true, true, true, true, true, true, true, true, true, true, true, true, true, true, true, true, true, true, true, true, true, true, true, true])] (gm_c mi_wsX5_set_wsX5_set_r3 (gm_c mi_wsX5_set_wsX5_set_r1 (gm_c mi_wsX5_set_wsX5_set_r1 (gm_c mi_wsX5_set_wsX5_set_r1 (gm_c mi_wsX5_set_wsX5_set_r2 (gm_c mi_wsX5_set_wsX5_set_r2 (gm_c mi_wsX5_set_wsX5_set_r2 (gm_c mi_wsX5_set_wsX5_set_r1 (gm_c mi_wsX5_set_wsX5_set_r2 (gm_c mi_wsX5_set_wsX5_set_r1 (gm_c mi_wsX5_set_wsX5_set_r2 (gm_c mi_wsX5_set_wsX5_set_r1 (gm_c mi_wsX5_set_wsX5_set_r2 (gm_c mi_wsX5_set_wsX5_set_r3 (gm_c mi_wsX5_set_wsX50 gm_n))))))))))))))) rfl (by decide +kernel)
set_option maxRecDepth 20000 in
theorem gX5_set_X5_others : GoodIn wsX5_set (wsV RX5 138 RX5 yX5_others wsX5_others) := goodIn_app (goodIn_m _ [(wsX5_set_r3, [false, false, false, false, false, false, false, false, false, false, false, false, false, false, true, true, true]), (wsX5_set_r1, [false, false, false, false, false, true])] (gm_c mi_wsX5_set_wsX5_set_r3 (gm_c mi_wsX5_set_wsX5_set_r1 gm_n)) rfl (by decide +kernel)) ggX5_set_X5_others
def dt_cX5_set_0 : List (Nat × Nat × Nat × Nat) := [(0, 42, 0, 0), (1, 3, 0, 0), (2, 181, 2, 77), (5, 42, 0, 0), (6, 27, 0, 0), (7, 182, 2, 128), (10, 153, 2, 10), (13, 28, 0, 0), (14, 184, 2, 132), (17, 154, 2, 5), (20, 2, 0, 0), (21, 172, 0, 0), (22, 42, 0, 0), (23, 182, 2, 135), (26, 42, 0, 0), (27, 180, 2, 7), (30, 27, 0, 0), (31, 28, 0, 0), (32, 79, 0, 0), (33, 42, 0, 0)]
theorem da_cX5_set_0 : fw dt_cX5_set_0 0 cX5_set.data.toList = true := by decide +kernel
theorem dX5_set_0 : decode cX5_set 0 = .ok (.aload_n 0, 1) := fo_42 (fw_get da_cX5_set_0 0 rfl)
theorem dX5_set_1 : decode cX5_set 1 = .ok (.iconst 0, 1) := fo_3 (fw_get da_cX5_set_0 1 rfl)
theorem dX5_set_2 : decode cX5_set 2 = .ok (.putfield 77, 3) := fo_181 (fw_get da_cX5_set_0 2 rfl)
theorem dX5_set_5 : decode cX5_set 5 = .ok (.aload_n 0, 1) := fo_42 (fw_get da_cX5_set_0 3 rfl)
theorem dX5_set_6 : decode cX5_set 6 = .ok (.iload_n 1, 1) := fo_27 (fw_get da_cX5_set_0 4 rfl)
theorem dX5_set_7 : decode cX5_set 7 = .ok (.invokevirtual 128, 3) := fo_182 (fw_get da_cX5_set_0 5 rfl)
theorem dX5_set_10 : decode cX5_set 10 = .ok (.ifCond .eq 10, 3) := fo_153 (fw_get da_cX5_set_0 6 rfl) (by decide +kernel)
theorem dX5_set_13 : decode cX5_set 13 = .ok (.iload_n 2, 1) := fo_28 (fw_get da_cX5_set_0 7 rfl)
theorem dX5_set_14 : decode cX5_set 14 = .ok (.invokestatic 132, 3) := fo_184 (fw_get da_cX5_set_0 8 rfl)
theorem dX5_set_17 : decode cX5_set 17 = .ok (.ifCond .ne 5, 3) := fo_154 (fw_get da_cX5_set_0 9 rfl) (by decide +kernel)
theorem dX5_set_20 : decode cX5_set 20 = .ok (.iconst (-1), 1) := fo_2 (fw_get da_cX5_set_0 10 rfl)
theorem dX5_set_21 : decode cX5_set 21 = .ok (.ireturn, 1) := fo_172 (fw_get da_cX5_set_0 11 rfl)
theorem dX5_set_22 : decode cX5_set 22 = .ok (.aload_n 0, 1) := fo_42 (fw_get da_cX5_set_0 12 rfl)
theorem dX5_set_23 : decode cX5_set 23 = .ok (.invokevirtual 135, 3) := fo_182 (fw_get da_cX5_set_0 13 rfl)
theorem dX5_set_26 : decode cX5_set 26 = .ok (.aload_n 0, 1) := fo_42 (fw_get da_cX5_set_0 14 rfl)
theorem dX5_set_27 : decode cX5_set 27 = .ok (.getfield 7, 3) := fo_180 (fw_get da_cX5_set_0 15 rfl)
theorem dX5_set_30 : decode cX5_set 30 = .ok (.iload_n 1, 1) := fo_27 (fw_get da_cX5_set_0 16 rfl)
theorem dX5_set_31 : decode cX5_set 31 = .ok (.iload_n 2, 1) := fo_28 (fw_get da_cX5_set_0 17 rfl)
theorem dX5_set_32 : decode cX5_set 32 = .ok (.iastore, 1) := fo_79 (fw_get da_cX5_set_0 18 rfl)
theorem dX5_set_33 : decode cX5_set 33 = .ok (.aload_n 0, 1) := fo_42 (fw_get da_cX5_set_0 19 rfl)
def dt_cX5_set_1 : List (Nat × Nat × Nat × Nat) := [(34, 182, 2, 138), (37, 172, 0, 0)]
theorem da_cX5_set_1 : fw dt_cX5_set_1 0 cX5_set.data.toList = true := by decide +kernel
theorem dX5_set_34 : decode cX5_set 34 = .ok (.invokevirtual 138, 3) := fo_182 (fw_get da_cX5_set_1 0 rfl)
theorem dX5_set_37 : decode cX5_set 37 = .ok (.ireturn, 1) := fo_172 (fw_get da_cX5_set_1 1 rfl)
theorem mi_wsX5_fill_wsX5_fill_r1 : ∀ w ∈ wsX5_fill_r1, w ∈ wsX5_fill := fun _ h => (List.mem_cons_of_mem _ (List.mem_append_left _ (List.mem_append_left _ h)))
theorem mi_wsX5_fill_wsX50 : ∀ w ∈ wsX50, w ∈ wsX5_fill := fun _ h => (List.mem_cons_of_mem _ (List.mem_append_right _ h))
set_option maxRecDepth 20000 in
theorem ggX5_fill_X5_isRange : GoodIn wsX5_fill wsX5_isRange := goodIn_m _ [(wsX5_fill_r1, [false, false, false, false, false, false, true, true]), (wsX50, [true, true, true, true, true, true, true, true, true, true, true, true, true, true, true, true, true, true, true, true, true, true, true, true, true, true, true, true, true, true])] (gm_c mi_wsX5_fill_wsX5_fill_r1 (gm_c mi_wsX5_fill_wsX50 gm_n)) rfl (by decide +kernel)
set_option maxRecDepth 20000 in
theorem gX5_fill_X5_isRange : GoodIn wsX5_fill (wsV RX5 142 RX5 yX5_isRange wsX5_isRange) := goodIn_app (goodIn_m _ [(wsX5_fill_r1, [false, false, true, true, true, true])] (gm_c mi_wsX5_fill_wsX5_fill_r1 gm_n) rfl (by decide +kernel)) ggX5_fill_X5_isRange
set_option maxRecDepth 20000 in
theorem ggX5_fill_X5_isValue : GoodIn wsX5_fill wsX5_isValue := goodIn_m _ [(wsX5_fill_r1, [false, false, false, false, false, false, false, false, false, false, true, true, true]), (wsX5_fill_r1, [false, false, false, false, false, true, false, false, false, false, false, false, false, true])] (gm_c mi_wsX5_fill_wsX5_fill_r1 (gm_c mi_wsX5_fill_wsX5_fill_r1 gm_n)) rfl (by decide +kernel)
set_option maxRecDepth 20000 in
theorem gX5_fill_X5_isValue : GoodIn wsX5_fill (va_wsS RX5 132 yX5_isValue wsX5_isValue) := goodIn_app (goodIn_m _ [(wsX5_fill_r1, [false, false, false, false, false, false, false, false, true, true]), (wsX5_fill_r1, [false, false, false, false, false, true])] (gm_c mi_wsX5_fill_wsX5_fill_r1 (gm_c mi_wsX5_fill_wsX5_fill_r1 gm_n)) rfl (by decide +kernel)) ggX5_fill_X5_isValue
theorem mi_wsX5_fill_wsX5_fill_r2 : ∀ w ∈ wsX5_fill_r2, w ∈ wsX5_fill := fun _ h => (List.mem_cons_of_mem _ (List.mem_append_left _ (List.mem_append_right _ (List.mem_append_left _ h))))
theorem mi_wsX5_fill_wsX5_fill_r3 : ∀ w ∈ wsX5_fill_r3, w ∈ wsX5_fill := fun _ h => (List.mem_cons_of_mem _ (List.mem_append_left _ (List.mem_append_right _ (List.mem_append_right _ h))))
set_option maxRecDepth 20000 in
theorem ggX5_fill_X5_keeps : GoodIn wsX5_fill wsX5_keeps := goodIn_m _ [(wsX5_fill_r1, [false, false, false, false, false, false, false, false, false, false, false, false, false, false, false, false, false, true, true, true, true, true, true, true]), (wsX5_fill_r2, [true, true, true, true, true, true, true]), (wsX5_fill_r1, [false, false, false, false, false, true]), (wsX5_fill_r2, [false, false, false, false, false, false, false, true]), (wsX5_fill_r1, [false, false, false, false, false, false, false, true]), (wsX5_fill_r2, [false, false, false, false, false, false, false, false, true, true, true, true, true, true]), (wsX5_fill_r1, [false, true]), (wsX5_fill_r2, [false, false, false, false, false, false, false, false, false, false, false, false, false, false, true, true, true, true, true, true, true, true, true, true]), (wsX5_fill_r3, [true, true, true, true, true, true, true, true, true, true, true, true, true, true]), (wsX50, [true, true, true, true, true, true, true, true, true, true, true, true, true, true, true, true, true, true, true, true, true, true, true, true, true, true, true, true, true, true])] (gm_c mi_wsX5_fill_wsX5_fill_r1 (gm_c mi_wsX5_fill_wsX5_fill_r2 (gm_c mi_wsX5_fill_wsX5_fill_r1 (gm_c mi_wsX5_fill_wsX5_fill_r2 (gm_c mi_wsX5_fill_wsX5_fill_r1 (gm_c mi_wsX5_fill_wsX5_fill_r2 (gm_c mi_wsX5_fill_wsX5_fill_r1 (gm_c mi_wsX5_fill_wsX5_fill_r2 (gm_c mi_wsX5_fill_wsX5_fill_r3 (gm_c mi_wsX5_fill_wsX50 gm_n)))))))))) rfl (by decide +kernel)
set_option maxRecDepth 20000 in
theorem gX5_fill_X5_keeps : GoodIn wsX5_fill (wsV RX5 135 RX5 yX5_keeps wsX5_keeps) := goodIn_app (goodIn_m _ [(wsX5_fill_r1, [false, false, false, false, false, false, false, false, false, false, false, false, false, false, true, true, true]), (wsX5_fill_r1, [false, false, false, false, false, true])] (gm_c mi_wsX5_fill_wsX5_fill_r1 (gm_c mi_wsX5_fill_wsX5_fill_r1 gm_n)) rfl (by decide +kernel)) ggX5_fill_X5_keeps
set_option maxRecDepth 20000 in
theorem ggX5_fill_X5_others : GoodIn wsX5_fill wsX5_others := goodIn_m _ [(wsX5_fill_r3, [false, false, false, false, false, false, false, false, false, false, false, false, false, false, false, false, false, true]), (wsX5_fill_r1, [false, false, false, false, false, false, false, false, false, false, false, false, false, false, false, false, false, false, true, true, false, true]), (wsX5_fill_r1, [false, false, false, false, false, false, false, false, false, false, false, false, false, false, false, false, false, false, false, false, true, false, false, true]), (wsX5_fill_r1, [false, false, false, false, false, false, false, false, false, false, false, false, false, false, false, false, false, false, false, false, false, false, true]), (wsX5_fill_r2, [false, true]), (wsX5_fill_r2, [true, false, false, true]), (wsX5_fill_r2, [false, false, true, false, true, true, true]), (wsX5_fill_r1, [false, false, false, false, false, true]), (wsX5_fill_r2, [false, false, false, false, false, false, false, true]), (wsX5_fill_r1, [false, false, false, false, false, false, false, true]), (wsX5_fill_r2, [false, false, false, false, false, false, false, false, true, true, true, true, true, true]), (wsX5_fill_r1, [false, true]), (wsX5_fill_r2, [false, false, false, false, false, false, false, false, false, false, false, false, false, false, true, true, true, true, true, true, true, true, true, true]), (wsX5_fill_r3, [true, true, true, true, true, true, true, true, true, true, true, true, true, true]), (wsX50, [true, true, true, true, true, true, true, true, true, true, true, true, true, true, true, true, true, true, true, true, true, true, true, true, true, true, true, true, true, true])] (gm_c mi_wsX5_fill_wsX5_fill_r3 (gm_c mi_wsX5_fill_wsX5_fill_r1 (gm_c mi_wsX5_fill_wsX5_fill_r1 (gm_c mi_wsX5_fill_wsX5_fill_r1 (gm_c mi_wsX5_fill_wsX5_fill_r2 (gm_c mi_wsX5_fill_wsX5_fill_r2 (gm_c mi_wsX5_fill_wsX5_fill_r2 (gm_c mi_wsX5_fill_wsX5_fill_r1 (gm_c mi_wsX5_fill_wsX5_fill_r2 (gm_c mi_wsX5_fill_wsX5_fill_r1 (gm_c mi_wsX5_fill_wsX5_fill_r2 (gm_c mi_wsX5_fill_wsX5_fill_r1 (gm_c mi_wsX5_fill_wsX5_fill_r2 (gm_c mi_wsX5_fill_wsX5_fill_r3 (gm_c mi_wsX5_fill_wsX50 gm_n))))))))))))))) rfl (by decide +kernel)
set_option maxRecDepth 20000 in
theorem gX5_fill_X5_others : GoodIn wsX5_fill (wsV RX5 138 RX5 yX5_others wsX5_others) := goodIn_app (goodIn_m _ [(wsX5_fill_r3, [false, false, false, false, false, false, false, false, false, false, false, false, false, false, true, true, true]), (wsX5_fill_r1, [false, false, false, false, false, true])] (gm_c mi_wsX5_fill_wsX5_fill_r3 (gm_c mi_wsX5_fill_wsX5_fill_r1 gm_n)) rfl (by decide +kernel)) ggX5_fill_X5_others
def dt_cX5_fill_0 : List (Nat × Nat × Nat × Nat) := [(0, 42, 0, 0), (1, 3, 0, 0), (2, 181, 2, 77), (5, 42, 0, 0), (6, 27, 0, 0), (7, 28, 0, 0), (8, 182, 2, 142), (11, 153, 2, 10), (14, 29, 0, 0), (15, 184, 2, 132), (18, 154, 2, 5), (21, 2, 0, 0), (22, 172, 0, 0), (23, 42, 0, 0), (24, 182, 2, 135), (27, 27, 0, 0), (28, 54, 1, 4), (30, 21, 1, 4), (32, 28, 0, 0), (33, 162, 2, 17)]
theorem da_cX5_fill_0 : fw dt_cX5_fill_0 0 cX5_fill.data.toList = true := by decide +kernel
theorem dX5_fill_0 : decode cX5_fill 0 = .ok (.aload_n 0, 1) := fo_42 (fw_get da_cX5_fill_0 0 rfl)
theorem dX5_fill_1 : decode cX5_fill 1 = .ok (.iconst 0, 1) := fo_3 (fw_get da_cX5_fill_0 1 rfl)
theorem dX5_fill_2 : decode cX5_fill 2 = .ok (.putfield 77, 3) := fo_181 (fw_get da_cX5_fill_0 2 rfl)
theorem dX5_fill_5 : decode cX5_fill 5 = .ok (.aload_n 0, 1) := fo_42 (fw_get da_cX5_fill_0 3 rfl)
theorem dX5_fill_6 : decode cX5_fill 6 = .ok (.iload_n 1, 1) := fo_27 (fw_get da_cX5_fill_0 4 rfl)
theorem dX5_fill_7 : decode cX5_fill 7 = .ok (.iload_n 2, 1) := fo_28 (fw_get da_cX5_fill_0 5 rfl)
theorem dX5_fill_8 : decode cX5_fill 8 = .ok (.invokevirtual 142, 3) := fo_182 (fw_get da_cX5_fill_0 6 rfl)
theorem dX5_fill_11 : decode cX5_fill 11 = .ok (.ifCond .eq 10, 3) := fo_153 (fw_get da_cX5_fill_0 7 rfl) (by decide +kernel)
theorem dX5_fill_14 : decode cX5_fill 14 = .ok (.iload_n 3, 1) := fo_29 (fw_get da_cX5_fill_0 8 rfl)
theorem dX5_fill_15 : decode cX5_fill 15 = .ok (.invokestatic 132, 3) := fo_184 (fw_get da_cX5_fill_0 9 rfl)
theorem dX5_fill_18 : decode cX5_fill 18 = .ok (.ifCond .ne 5, 3) := fo_154 (fw_get da_cX5_fill_0 10 rfl) (by decide +kernel)
theorem dX5_fill_21 : decode cX5_fill 21 = .ok (.iconst (-1), 1) := fo_2 (fw_get da_cX5_fill_0 11 rfl)
theorem dX5_fill_22 : decode cX5_fill 22 = .ok (.ireturn, 1) := fo_172 (fw_get da_cX5_fill_0 12 rfl)
theorem dX5_fill_23 : decode cX5_fill 23 = .ok (.aload_n 0, 1) := fo_42 (fw_get da_cX5_fill_0 13 rfl)
theorem dX5_fill_24 : decode cX5_fill 24 = .ok (.invokevirtual 135, 3) := fo_182 (fw_get da_cX5_fill_0 14 rfl)
theorem dX5_fill_27 : decode cX5_fill 27 = .ok (.iload_n 1, 1) := fo_27 (fw_get da_cX5_fill_0 15 rfl)
theorem dX5_fill_28 : decode cX5_fill 28 = .ok (.istore 4, 2) := fo_54 (fw_get da_cX5_fill_0 16 rfl)
theorem dX5_fill_30 : decode cX5_fill 30 = .ok (.iload 4, 2) := fo_21 (fw_get da_cX5_fill_0 17 rfl)
theorem dX5_fill_32 : decode cX5_fill 32 = .ok (.iload_n 2, 1) := fo_28 (fw_get da_cX5_fill_0 18 rfl)
theorem dX5_fill_33 : decode cX5_fill 33 = .ok (.if_icmp .ge 17, 3) := fo_162 (fw_get da_cX5_fill_0 19 rfl) (by decide +kernel)
def dt_cX5_fill_1 : List (Nat × Nat × Nat × Nat) := [(36, 42, 0, 0), (37, 180, 2, 7), (40, 21, 1, 4), (42, 29, 0, 0), (43, 79, 0, 0), (44, 132, 2, 1025), (47, 167, 2, 65519), (50, 42, 0, 0), (51, 182, 2, 138), (54, 172, 0, 0)]
theorem da_cX5_fill_1 : fw dt_cX5_fill_1 0 cX5_fill.data.toList = true := by decide +kernel
theorem dX5_fill_36 : decode cX5_fill 36 = .ok (.aload_n 0, 1) := fo_42 (fw_get da_cX5_fill_1 0 rfl)
theorem dX5_fill_37 : decode cX5_fill 37 = .ok (.getfield 7, 3) := fo_180 (fw_get da_cX5_fill_1 1 rfl)
theorem dX5_fill_40 : decode cX5_fill 40 = .ok (.iload 4, 2) := fo_21 (fw_get da_cX5_fill_1 2 rfl)
theorem dX5_fill_42 : decode cX5_fill 42 = .ok (.iload_n 3, 1) := fo_29 (fw_get da_cX5_fill_1 3 rfl)
theorem dX5_fill_43 : decode cX5_fill 43 = .ok (.iastore, 1) := fo_79 (fw_get da_cX5_fill_1 4 rfl)
theorem dX5_fill_44 : decode cX5_fill 44 = .ok (.iinc 4 1, 3) := fo_132 (fw_get da_cX5_fill_1 5 rfl) rfl (by decide +kernel)
theorem dX5_fill_47 : decode cX5_fill 47 = .ok (.goto (-17), 3) := fo_167 (fw_get da_cX5_fill_1 6 rfl) (by decide +kernel)
theorem dX5_fill_50 : decode cX5_fill 50 = .ok (.aload_n 0, 1) := fo_42 (fw_get da_cX5_fill_1 7 rfl)
theorem dX5_fill_51 : decode cX5_fill 51 = .ok (.invokevirtual 138, 3) := fo_182 (fw_get da_cX5_fill_1 8 rfl)
theorem dX5_fill_54 : decode cX5_fill 54 = .ok (.ireturn, 1) := fo_172 (fw_get da_cX5_fill_1 9 rfl)
def dt_cX5_exchanges_0 : List (Nat × Nat × Nat × Nat) := [(0, 42, 0, 0), (1, 180, 2, 7), (4, 27, 0, 0), (5, 46, 0, 0), (6, 62, 0, 0), (7, 42, 0, 0), (8, 180, 2, 7), (11, 27, 0, 0), (12, 42, 0, 0), (13, 180, 2, 7), (16, 28, 0, 0), (17, 46, 0, 0), (18, 79, 0, 0), (19, 42, 0, 0), (20, 180, 2, 7), (23, 28, 0, 0), (24, 29, 0, 0), (25, 79, 0, 0), (26, 177, 0, 0)]
theorem da_cX5_exchanges_0 : fw dt_cX5_exchanges_0 0 cX5_exchanges.data.toList = true := by decide +kernel
theorem dX5_exchanges_0 : decode cX5_exchanges 0 = .ok (.aload_n 0, 1) := fo_42 (fw_get da_cX5_exchanges_0 0 rfl)
theorem dX5_exchanges_1 : decode cX5_exchanges 1 = .ok (.getfield 7, 3) := fo_180 (fw_get da_cX5_exchanges_0 1 rfl)
theorem dX5_exchanges_4 : decode cX5_exchanges 4 = .ok (.iload_n 1, 1) := fo_27 (fw_get da_cX5_exchanges_0 2 rfl)
theorem dX5_exchanges_5 : decode cX5_exchanges 5 = .ok (.iaload, 1) := fo_46 (fw_get da_cX5_exchanges_0 3 rfl)
theorem dX5_exchanges_6 : decode cX5_exchanges 6 = .ok (.istore_n 3, 1) := fo_62 (fw_get da_cX5_exchanges_0 4 rfl)
theorem dX5_exchanges_7 : decode cX5_exchanges 7 = .ok (.aload_n 0, 1) := fo_42 (fw_get da_cX5_exchanges_0 5 rfl)
theorem dX5_exchanges_8 : decode cX5_exchanges 8 = .ok (.getfield 7, 3) := fo_180 (fw_get da_cX5_exchanges_0 6 rfl)
theorem dX5_exchanges_11 : decode cX5_exchanges 11 = .ok (.iload_n 1, 1) := fo_27 (fw_get da_cX5_exchanges_0 7 rfl)
theorem dX5_exchanges_12 : decode cX5_exchanges 12 = .ok (.aload_n 0, 1) := fo_42 (fw_get da_cX5_exchanges_0 8 rfl)
theorem dX5_exchanges_13 : decode cX5_exchanges 13 = .ok (.getfield 7, 3) := fo_180 (fw_get da_cX5_exchanges_0 9 rfl)
theorem dX5_exchanges_16 : decode cX5_exchanges 16 = .ok (.iload_n 2, 1) := fo_28 (fw_get da_cX5_exchanges_0 10 rfl)
theorem dX5_exchanges_17 : decode cX5_exchanges 17 = .ok (.iaload, 1) := fo_46 (fw_get da_cX5_exchanges_0 11 rfl)
theorem dX5_exchanges_18 : decode cX5_exchanges 18 = .ok (.iastore, 1) := fo_79 (fw_get da_cX5_exchanges_0 12 rfl)
theorem dX5_exchanges_19 : decode cX5_exchanges 19 = .ok (.aload_n 0, 1) := fo_42 (fw_get da_cX5_exchanges_0 13 rfl)
theorem dX5_exchanges_20 : decode cX5_exchanges 20 = .ok (.getfield 7, 3) := fo_180 (fw_get da_cX5_exchanges_0 14 rfl)
theorem dX5_exchanges_23 : decode cX5_exchanges 23 = .ok (.iload_n 2, 1) := fo_28 (fw_get da_cX5_exchanges_0 15 rfl)
theorem dX5_exchanges_24 : decode cX5_exchanges 24 = .ok (.iload_n 3, 1) := fo_29 (fw_get da_cX5_exchanges_0 16 rfl)
theorem dX5_exchanges_25 : decode cX5_exchanges 25 = .ok (.iastore, 1) := fo_79 (fw_get da_cX5_exchanges_0 17 rfl)
theorem dX5_exchanges_26 : decode cX5_exchanges 26 = .ok (.return_, 1) := fo_177 (fw_get da_cX5_exchanges_0 18 rfl)
theorem mi_wsX5_turn_wsX5_turn_r1 : ∀ w ∈ wsX5_turn_r1, w ∈ wsX5_turn := fun _ h => (List.mem_cons_of_mem _ (List.mem_append_left _ (List.mem_append_left _ h)))
theorem mi_wsX5_turn_wsX50 : ∀ w ∈ wsX50, w ∈ wsX5_turn := fun _ h => (List.mem_cons_of_mem _ (List.mem_append_right _ h))
set_option maxRecDepth 20000 in
theorem ggX5_turn_X5_isRange : GoodIn wsX5_turn wsX5_isRange := goodIn_m _ [(wsX5_turn_r1, [false, false, false, false, false, true, true]), (wsX50, [true, true, true, true, true, true, true, true, true, true, true, true, true, true, true, true, true, true, true, true, true, true, true, true, true, true, true, true, true, true])] (gm_c mi_wsX5_turn_wsX5_turn_r1 (gm_c mi_wsX5_turn_wsX50 gm_n)) rfl (by decide +kernel)
set_option maxRecDepth 20000 in
theorem gX5_turn_X5_isRange : GoodIn wsX5_turn (wsV RX5 142 RX5 yX5_isRange wsX5_isRange) := goodIn_app (goodIn_m _ [(wsX5_turn_r1, [false, true, true, true, true])] (gm_c mi_wsX5_turn_wsX5_turn_r1 gm_n) rfl (by decide +kernel)) ggX5_turn_X5_isRange
theorem mi_wsX5_turn_wsX5_turn_r2 : ∀ w ∈ wsX5_turn_r2, w ∈ wsX5_turn := fun _ h => (List.mem_cons_of_mem _ (List.mem_append_left _ (List.mem_append_right _ (List.mem_append_left _ h))))
theorem mi_wsX5_turn_wsX5_turn_r3 : ∀ w ∈ wsX5_turn_r3, w ∈ wsX5_turn := fun _ h => (List.mem_cons_of_mem _ (List.mem_append_left _ (List.mem_append_right _ (List.mem_append_right _ h))))
set_option maxRecDepth 20000 in
theorem ggX5_turn_X5_keeps : GoodIn wsX5_turn wsX5_keeps := goodIn_m _ [(wsX5_turn_r1, [false, false, false, false, false, false, false, false, false, false, true, true, true, true, true, true, true, true, true, true, true, true, true, true]), (wsX5_turn_r1, [false, false, false, false, true]), (wsX5_turn_r2, [true]), (wsX5_turn_r1, [false, false, false, false, false, false, true]), (wsX5_turn_r2, [false, true, true, true, true, true, true, true, true, true, true, true, true, true, true, true, true, true, true, true, true, true, true, true]), (wsX5_turn_r3, [true, true, true, true, true, true, true, true]), (wsX50, [true, true, true, true, true, true, true, true, true, true, true, true, true, true, true, true, true, true, true, true, true, true, true, true, true, true, true, true, true, true])] (gm_c mi_wsX5_turn_wsX5_turn_r1 (gm_c mi_wsX5_turn_wsX5_turn_r1 (gm_c mi_wsX5_turn_wsX5_turn_r2 (gm_c mi_wsX5_turn_wsX5_turn_r1 (gm_c mi_wsX5_turn_wsX5_turn_r2 (gm_c mi_wsX5_turn_wsX5_turn_r3 (gm_c mi_wsX5_turn_wsX50 gm_n))))))) rfl (by decide +kernel)
set_option maxRecDepth 20000 in
theorem gX5_turn_X5_keeps : GoodIn wsX5_turn (wsV RX5 135 RX5 yX5_keeps wsX5_keeps) := goodIn_app (goodIn_m _ [(wsX5_turn_r1, [false, false, false, false, false, false, false, true, true, true]), (wsX5_turn_r1, [false, false, false, false, true])] (gm_c mi_wsX5_turn_wsX5_turn_r1 (gm_c mi_wsX5_turn_wsX5_turn_r1 gm_n)) rfl (by decide +kernel)) ggX5_turn_X5_keeps
set_option maxRecDepth 20000 in
theorem ggX5_turn_X5_exchanges : GoodIn wsX5_turn wsX5_exchanges := goodIn_m _ [(wsX5_turn_r3, [false, false, false, false, false, false, false, false, false, false, false, true]), (wsX5_turn_r2, [false, false, false, false, false, false, false, true]), (wsX50, [true, true, true, true, true, true, true, true, true, true, true, true, true, true, true, true, true, true, true, true, true, true, true, true, true, true, true, true, true, true])] (gm_c mi_wsX5_turn_wsX5_turn_r3 (gm_c mi_wsX5_turn_wsX5_turn_r2 (gm_c mi_wsX5_turn_wsX50 gm_n))) rfl (by decide +kernel)
set_option maxRecDepth 20000 in
theorem gX5_turn_X5_exchanges : GoodIn wsX5_turn (wsV RX5 145 RX5 yX5_exchanges wsX5_exchanges) := goodIn_app (goodIn_m _ [(wsX5_turn_r3, [false, false, false, false, false, false, false, false, true, true, true]), (wsX5_turn_r1, [false, false, false, false, true])] (gm_c mi_wsX5_turn_wsX5_turn_r3 (gm_c mi_wsX5_turn_wsX5_turn_r1 gm_n)) rfl (by decide +kernel)) ggX5_turn_X5_exchanges
set_option maxRecDepth 20000 in
theorem ggX5_turn_X5_others : GoodIn wsX5_turn wsX5_others := goodIn_m _ [(wsX5_turn_r3, [false, false, false, false, false, false, false, false, false, false, false, false, false, false, false, true]), (wsX5_turn_r1, [false, false, false, false, false, false, false, false, false, false, false, true, true, false, true]), (wsX5_turn_r1, [false, false, false, false, false, false, false, false, false, false, false, false, false, true, false, false, true]), (wsX5_turn_r1, [false, false, false, false, false, false, false, false, false, false, false, false, false, false, false, true, false, false, true]), (wsX5_turn_r1, [false, false, false, false, false, false, false, false, false, false, false, false, false, false, false, false, false, true, false, false, true]), (wsX5_turn_r1, [false, false, false, false, false, false, false, false, false, false, false, false, false, false, false, false, false, false, false, true, false, true, true, true]), (wsX5_turn_r1, [false, false, false, false, true]), (wsX5_turn_r2, [true]), (wsX5_turn_r1, [false, false, false, false, false, false, true]), (wsX5_turn_r2, [false, true, true, true, true, true, true, true, true, true, true, true, true, true, true, true, true, true, true, true, true, true, true, true]), (wsX5_turn_r3, [true, true, true, true, true, true, true, true]), (wsX50, [true, true, true, true, true, true, true, true, true, true, true, true, true, true, true, true, true, true, true, true, true, true, true, true, true, true, true, true, true, true])] (gm_c mi_wsX5_turn_wsX5_turn_r3 (gm_c mi_wsX5_turn_wsX5_turn_r1 (gm_c mi_wsX5_turn_wsX5_turn_r1 (gm_c mi_wsX5_turn_wsX5_turn_r1 (gm_c mi_wsX5_turn_wsX5_turn_r1 (gm_c mi_wsX5_turn_wsX5_turn_r1 (gm_c mi_wsX5_turn_wsX5_turn_r1 (gm_c mi_wsX5_turn_wsX5_turn_r2 (gm_c mi_wsX5_turn_wsX5_turn_r1 (gm_c mi_wsX5_turn_wsX5_turn_r2 (gm_c mi_wsX5_turn_wsX5_turn_r3 (gm_c mi_wsX5_turn_wsX50 gm_n)))))))))))) rfl (by decide +kernel)
set_option maxRecDepth 20000 in
theorem gX5_turn_X5_others : GoodIn wsX5_turn (wsV RX5 138 RX5 yX5_others wsX5_others) := goodIn_app (goodIn_m _ [(wsX5_turn_r3, [false, false, false, false, false, false, false, false, false, false, false, false, true, true, true]), (wsX5_turn_r1, [false, false, false, false, true])] (gm_c mi_wsX5_turn_wsX5_turn_r3 (gm_c mi_wsX5_turn_wsX5_turn_r1 gm_n)) rfl (by decide +kernel)) ggX5_turn_X5_others
def dt_cX5_turn_0 : List (Nat × Nat × Nat × Nat) := [(0, 42, 0, 0), (1, 3, 0, 0), (2, 181, 2, 77), (5, 42, 0, 0), (6, 27, 0, 0), (7, 28, 0, 0), (8, 182, 2, 142), (11, 154, 2, 5), (14, 2, 0, 0), (15, 172, 0, 0), (16, 42, 0, 0), (17, 182, 2, 135), (20, 3, 0, 0), (21, 62, 0, 0), (22, 29, 0, 0), (23, 28, 0, 0), (24, 27, 0, 0), (25, 100, 0, 0), (26, 5, 0, 0), (27, 108, 0, 0)]
theorem da_cX5_turn_0 : fw dt_cX5_turn_0 0 cX5_turn.data.toList = true := by decide +kernel
theorem dX5_turn_0 : decode cX5_turn 0 = .ok (.aload_n 0, 1) := fo_42 (fw_get da_cX5_turn_0 0 rfl)
theorem dX5_turn_1 : decode cX5_turn 1 = .ok (.iconst 0, 1) := fo_3 (fw_get da_cX5_turn_0 1 rfl)
theorem dX5_turn_2 : decode cX5_turn 2 = .ok (.putfield 77, 3) := fo_181 (fw_get da_cX5_turn_0 2 rfl)
theorem dX5_turn_5 : decode cX5_turn 5 = .ok (.aload_n 0, 1) := fo_42 (fw_get da_cX5_turn_0 3 rfl)
theorem dX5_turn_6 : decode cX5_turn 6 = .ok (.iload_n 1, 1) := fo_27 (fw_get da_cX5_turn_0 4 rfl)
theorem dX5_turn_7 : decode cX5_turn 7 = .ok (.iload_n 2, 1) := fo_28 (fw_get da_cX5_turn_0 5 rfl)
theorem dX5_turn_8 : decode cX5_turn 8 = .ok (.invokevirtual 142, 3) := fo_182 (fw_get da_cX5_turn_0 6 rfl)
theorem dX5_turn_11 : decode cX5_turn 11 = .ok (.ifCond .ne 5, 3) := fo_154 (fw_get da_cX5_turn_0 7 rfl) (by decide +kernel)
theorem dX5_turn_14 : decode cX5_turn 14 = .ok (.iconst (-1), 1) := fo_2 (fw_get da_cX5_turn_0 8 rfl)
theorem dX5_turn_15 : decode cX5_turn 15 = .ok (.ireturn, 1) := fo_172 (fw_get da_cX5_turn_0 9 rfl)
theorem dX5_turn_16 : decode cX5_turn 16 = .ok (.aload_n 0, 1) := fo_42 (fw_get da_cX5_turn_0 10 rfl)
theorem dX5_turn_17 : decode cX5_turn 17 = .ok (.invokevirtual 135, 3) := fo_182 (fw_get da_cX5_turn_0 11 rfl)
theorem dX5_turn_20 : decode cX5_turn 20 = .ok (.iconst 0, 1) := fo_3 (fw_get da_cX5_turn_0 12 rfl)
theorem dX5_turn_21 : decode cX5_turn 21 = .ok (.istore_n 3, 1) := fo_62 (fw_get da_cX5_turn_0 13 rfl)
theorem dX5_turn_22 : decode cX5_turn 22 = .ok (.iload_n 3, 1) := fo_29 (fw_get da_cX5_turn_0 14 rfl)
theorem dX5_turn_23 : decode cX5_turn 23 = .ok (.iload_n 2, 1) := fo_28 (fw_get da_cX5_turn_0 15 rfl)
theorem dX5_turn_24 : decode cX5_turn 24 = .ok (.iload_n 1, 1) := fo_27 (fw_get da_cX5_turn_0 16 rfl)
theorem dX5_turn_25 : decode cX5_turn 25 = .ok (.isub, 1) := fo_100 (fw_get da_cX5_turn_0 17 rfl)
theorem dX5_turn_26 : decode cX5_turn 26 = .ok (.iconst 2, 1) := fo_5 (fw_get da_cX5_turn_0 18 rfl)
theorem dX5_turn_27 : decode cX5_turn 27 = .ok (.idiv, 1) := fo_108 (fw_get da_cX5_turn_0 19 rfl)
def dt_cX5_turn_1 : List (Nat × Nat × Nat × Nat) := [(28, 162, 2, 21), (31, 42, 0, 0), (32, 27, 0, 0), (33, 29, 0, 0), (34, 96, 0, 0), (35, 28, 0, 0), (36, 4, 0, 0), (37, 100, 0, 0), (38, 29, 0, 0), (39, 100, 0, 0), (40, 182, 2, 145), (43, 132, 2, 769), (46, 167, 2, 65512), (49, 42, 0, 0), (50, 182, 2, 138), (53, 172, 0, 0)]
theorem da_cX5_turn_1 : fw dt_cX5_turn_1 0 cX5_turn.data.toList = true := by decide +kernel
theorem dX5_turn_28 : decode cX5_turn 28 = .ok (.if_icmp .ge 21, 3) := fo_162 (fw_get da_cX5_turn_1 0 rfl) (by decide +kernel)
theorem dX5_turn_31 : decode cX5_turn 31 = .ok (.aload_n 0, 1) := fo_42 (fw_get da_cX5_turn_1 1 rfl)
theorem dX5_turn_32 : decode cX5_turn 32 = .ok (.iload_n 1, 1) := fo_27 (fw_get da_cX5_turn_1 2 rfl)
theorem dX5_turn_33 : decode cX5_turn 33 = .ok (.iload_n 3, 1) := fo_29 (fw_get da_cX5_turn_1 3 rfl)
theorem dX5_turn_34 : decode cX5_turn 34 = .ok (.iadd, 1) := fo_96 (fw_get da_cX5_turn_1 4 rfl)
theorem dX5_turn_35 : decode cX5_turn 35 = .ok (.iload_n 2, 1) := fo_28 (fw_get da_cX5_turn_1 5 rfl)
theorem dX5_turn_36 : decode cX5_turn 36 = .ok (.iconst 1, 1) := fo_4 (fw_get da_cX5_turn_1 6 rfl)
theorem dX5_turn_37 : decode cX5_turn 37 = .ok (.isub, 1) := fo_100 (fw_get da_cX5_turn_1 7 rfl)
theorem dX5_turn_38 : decode cX5_turn 38 = .ok (.iload_n 3, 1) := fo_29 (fw_get da_cX5_turn_1 8 rfl)
theorem dX5_turn_39 : decode cX5_turn 39 = .ok (.isub, 1) := fo_100 (fw_get da_cX5_turn_1 9 rfl)
theorem dX5_turn_40 : decode cX5_turn 40 = .ok (.invokevirtual 145, 3) := fo_182 (fw_get da_cX5_turn_1 10 rfl)
theorem dX5_turn_43 : decode cX5_turn 43 = .ok (.iinc 3 1, 3) := fo_132 (fw_get da_cX5_turn_1 11 rfl) rfl (by decide +kernel)
theorem dX5_turn_46 : decode cX5_turn 46 = .ok (.goto (-24), 3) := fo_167 (fw_get da_cX5_turn_1 12 rfl) (by decide +kernel)
theorem dX5_turn_49 : decode cX5_turn 49 = .ok (.aload_n 0, 1) := fo_42 (fw_get da_cX5_turn_1 13 rfl)
theorem dX5_turn_50 : decode cX5_turn 50 = .ok (.invokevirtual 138, 3) := fo_182 (fw_get da_cX5_turn_1 14 rfl)
theorem dX5_turn_53 : decode cX5_turn 53 = .ok (.ireturn, 1) := fo_172 (fw_get da_cX5_turn_1 15 rfl)
theorem mi_wsX5_swap_wsX5_swap_r1 : ∀ w ∈ wsX5_swap_r1, w ∈ wsX5_swap := fun _ h => (List.mem_cons_of_mem _ (List.mem_append_left _ (List.mem_append_left _ h)))
theorem mi_wsX5_swap_wsX50 : ∀ w ∈ wsX50, w ∈ wsX5_swap := fun _ h => (List.mem_cons_of_mem _ (List.mem_append_right _ h))
set_option maxRecDepth 20000 in
theorem ggX5_swap_X5_isPlace : GoodIn wsX5_swap wsX5_isPlace := goodIn_m _ [(wsX5_swap_r1, [false, false, false, false, false, true, true, true, true]), (wsX5_swap_r1, [false, false, false, false, true, false, false, false, false, true]), (wsX50, [true, true, true, true, true, true, true, true, true, true, true, true, true, true, true, true, true, true, true, true, true, true, true, true, true, true, true, true, true, true])] (gm_c mi_wsX5_swap_wsX5_swap_r1 (gm_c mi_wsX5_swap_wsX5_swap_r1 (gm_c mi_wsX5_swap_wsX50 gm_n))) rfl (by decide +kernel)
set_option maxRecDepth 20000 in
theorem gX5_swap_X5_isPlace : GoodIn wsX5_swap (wsV RX5 128 RX5 yX5_isPlace wsX5_isPlace) := goodIn_app (goodIn_m _ [(wsX5_swap_r1, [false, true, true, true, true])] (gm_c mi_wsX5_swap_wsX5_swap_r1 gm_n) rfl (by decide +kernel)) ggX5_swap_X5_isPlace
theorem mi_wsX5_swap_wsX5_swap_r2 : ∀ w ∈ wsX5_swap_r2, w ∈ wsX5_swap := fun _ h => (List.mem_cons_of_mem _ (List.mem_append_left _ (List.mem_append_right _ (List.mem_append_left _ h))))
theorem mi_wsX5_swap_wsX5_swap_r3 : ∀ w ∈ wsX5_swap_r3, w ∈ wsX5_swap := fun _ h => (List.mem_cons_of_mem _ (List.mem_append_left _ (List.mem_append_right _ (List.mem_append_right _ h))))
set_option maxRecDepth 20000 in
theorem ggX5_swap_X5_keeps : GoodIn wsX5_swap wsX5_keeps := goodIn_m _ [(wsX5_swap_r1, [false, false, false, false, false, false, false, false, false, false, false, false, false, true, true, true, true, true, true, true, true, true, true, true]), (wsX5_swap_r2, [true, true, true]), (wsX5_swap_r1, [false, false, false, false, true]), (wsX5_swap_r2, [false, false, false, true]), (wsX5_swap_r1, [false, false, false, false, false, false, true]), (wsX5_swap_r2, [false, false, false, false, true, true, true, true, true, true, true, true, true, true, true, true, true, true, true, true, true, true, true, true]), (wsX5_swap_r3, [true, true, true, true, true, true, true, true, true, true, true]), (wsX50, [true, true, true, true, true, true, true, true, true, true, true, true, true, true, true, true, true, true, true, true, true, true, true, true, true, true, true, true, true, true])] (gm_c mi_wsX5_swap_wsX5_swap_r1 (gm_c mi_wsX5_swap_wsX5_swap_r2 (gm_c mi_wsX5_swap_wsX5_swap_r1 (gm_c mi_wsX5_swap_wsX5_swap_r2 (gm_c mi_wsX5_swap_wsX5_swap_r1 (gm_c mi_wsX5_swap_wsX5_swap_r2 (gm_c mi_wsX5_swap_wsX5_swap_r3 (gm_c mi_wsX5_swap_wsX50 gm_n)))))))) rfl (by decide +kernel)
set_option maxRecDepth 20000 in
theorem gX5_swap_X5_keeps : GoodIn wsX5_swap (wsV RX5 135 RX5 yX5_keeps wsX5_keeps) := goodIn_app (goodIn_m _ [(wsX5_swap_r1, [false, false, false, false, false, false, false, false, false, false, true, true, true]), (wsX5_swap_r1, [false, false, false, false, true])] (gm_c mi_wsX5_swap_wsX5_swap_r1 (gm_c mi_wsX5_swap_wsX5_swap_r1 gm_n)) rfl (by decide +kernel)) ggX5_swap_X5_keeps
set_option maxRecDepth 20000 in
theorem ggX5_swap_X5_exchanges : GoodIn wsX5_swap wsX5_exchanges := goodIn_m _ [(wsX5_swap_r3, [false, false, false, false, false, false, false, false, false, false, false, false, false, false, true]), (wsX5_swap_r2, [false, false, false, false, false, false, false, false, false, false, true]), (wsX50, [true, true, true, true, true, true, true, true, true, true, true, true, true, true, true, true, true, true, true, true, true, true, true, true, true, true, true, true, true, true])] (gm_c mi_wsX5_swap_wsX5_swap_r3 (gm_c mi_wsX5_swap_wsX5_swap_r2 (gm_c mi_wsX5_swap_wsX50 gm_n))) rfl (by decide +kernel)
set_option maxRecDepth 20000 in
theorem gX5_swap_X5_exchanges : GoodIn wsX5_swap (wsV RX5 145 RX5 yX5_exchanges wsX5_exchanges) := goodIn_app (goodIn_m _ [(wsX5_swap_r3, [false, false, false, false, false, false, false, false, false, false, false, true, true, true]), (wsX5_swap_r1, [false, false, false, false, true])] (gm_c mi_wsX5_swap_wsX5_swap_r3 (gm_c mi_wsX5_swap_wsX5_swap_r1 gm_n)) rfl (by decide +kernel)) ggX5_swap_X5_exchanges
set_option maxRecDepth 20000 in
theorem ggX5_swap_X5_others : GoodIn wsX5_swap wsX5_others := goodIn_m _ [(wsX5_swap_r3, [false, false, false, false, false, false, false, false, false, false, false, false, false, false, false, false, false, false, true]), (wsX5_swap_r1, [false, false, false, false, false, false, false, false, false, false, false, false, false, false, true, true, false, true]), (wsX5_swap_r1, [false, false, false, false, false, false, false, false, false, false, false, false, false, false, false, false, true, false, false, true]), (wsX5_swap_r1, [false, false, false, false, false, false, false, false, false, false, false, false, false, false, false, false, false, false, true, false, false, true]), (wsX5_swap_r1, [false, false, false, false, false, false, false, false, false, false, false, false, false, false, false, false, false, false, false, false, true, false, false, true]), (wsX5_swap_r1, [false, false, false, false, false, false, false, false, false, false, false, false, false, false, false, false, false, false, false, false, false, false, true]), (wsX5_swap_r2, [true, true, true]), (wsX5_swap_r1, [false, false, false, false, true]), (wsX5_swap_r2, [false, false, false, true]), (wsX5_swap_r1, [false, false, false, false, false, false, true]), (wsX5_swap_r2, [false, false, false, false, true, true, true, true, true, true, true, true, true, true, true, true, true, true, true, true, true, true, true, true]), (wsX5_swap_r3, [true, true, true, true, true, true, true, true, true, true, true]), (wsX50, [true, true, true, true, true, true, true, true, true, true, true, true, true, true, true, true, true, true, true, true, true, true, true, true, true, true, true, true, true, true])] (gm_c mi_wsX5_swap_wsX5_swap_r3 (gm_c mi_wsX5_swap_wsX5_swap_r1 (gm_c mi_wsX5_swap_wsX5_swap_r1 (gm_c mi_wsX5_swap_wsX5_swap_r1 (gm_c mi_wsX5_swap_wsX5_swap_r1 (gm_c mi_wsX5_swap_wsX5_swap_r1 (gm_c mi_wsX5_swap_wsX5_swap_r2 (gm_c mi_wsX5_swap_wsX5_swap_r1 (gm_c mi_wsX5_swap_wsX5_swap_r2 (gm_c mi_wsX5_swap_wsX5_swap_r1 (gm_c mi_wsX5_swap_wsX5_swap_r2 (gm_c mi_wsX5_swap_wsX5_swap_r3 (gm_c mi_wsX5_swap_wsX50 gm_n))))))))))))) rfl (by decide +kernel)
set_option maxRecDepth 20000 in
theorem gX5_swap_X5_others : GoodIn wsX5_swap (wsV RX5 138 RX5 yX5_others wsX5_others) := goodIn_app (goodIn_m _ [(wsX5_swap_r3, [false, false, false, false, false, false, false, false, false, false, false, false, false, false, false, true, true, true]), (wsX5_swap_r1, [false, false, false, false, true])] (gm_c mi_wsX5_swap_wsX5_swap_r3 (gm_c mi_wsX5_swap_wsX5_swap_r1 gm_n)) rfl (by decide +kernel)) ggX5_swap_X5_others
def dt_cX5_swap_0 : List (Nat × Nat × Nat × Nat) := [(0, 42, 0, 0), (1, 3, 0, 0), (2, 181, 2, 77), (5, 42, 0, 0), (6, 27, 0, 0), (7, 182, 2, 128), (10, 153, 2, 11), (13, 42, 0, 0), (14, 28, 0, 0), (15, 182, 2, 128), (18, 154, 2, 5), (21, 2, 0, 0), (22, 172, 0, 0), (23, 42, 0, 0), (24, 182, 2, 135), (27, 42, 0, 0), (28, 27, 0, 0), (29, 28, 0, 0), (30, 182, 2, 145), (33, 42, 0, 0)]
theorem da_cX5_swap_0 : fw dt_cX5_swap_0 0 cX5_swap.data.toList = true := by decide +kernel
theorem dX5_swap_0 : decode cX5_swap 0 = .ok (.aload_n 0, 1) := fo_42 (fw_get da_cX5_swap_0 0 rfl)
theorem dX5_swap_1 : decode cX5_swap 1 = .ok (.iconst 0, 1) := fo_3 (fw_get da_cX5_swap_0 1 rfl)
theorem dX5_swap_2 : decode cX5_swap 2 = .ok (.putfield 77, 3) := fo_181 (fw_get da_cX5_swap_0 2 rfl)
theorem dX5_swap_5 : decode cX5_swap 5 = .ok (.aload_n 0, 1) := fo_42 (fw_get da_cX5_swap_0 3 rfl)
theorem dX5_swap_6 : decode cX5_swap 6 = .ok (.iload_n 1, 1) := fo_27 (fw_get da_cX5_swap_0 4 rfl)
theorem dX5_swap_7 : decode cX5_swap 7 = .ok (.invokevirtual 128, 3) := fo_182 (fw_get da_cX5_swap_0 5 rfl)
theorem dX5_swap_10 : decode cX5_swap 10 = .ok (.ifCond .eq 11, 3) := fo_153 (fw_get da_cX5_swap_0 6 rfl) (by decide +kernel)
theorem dX5_swap_13 : decode cX5_swap 13 = .ok (.aload_n 0, 1) := fo_42 (fw_get da_cX5_swap_0 7 rfl)
theorem dX5_swap_14 : decode cX5_swap 14 = .ok (.iload_n 2, 1) := fo_28 (fw_get da_cX5_swap_0 8 rfl)
theorem dX5_swap_15 : decode cX5_swap 15 = .ok (.invokevirtual 128, 3) := fo_182 (fw_get da_cX5_swap_0 9 rfl)
theorem dX5_swap_18 : decode cX5_swap 18 = .ok (.ifCond .ne 5, 3) := fo_154 (fw_get da_cX5_swap_0 10 rfl) (by decide +kernel)
theorem dX5_swap_21 : decode cX5_swap 21 = .ok (.iconst (-1), 1) := fo_2 (fw_get da_cX5_swap_0 11 rfl)
theorem dX5_swap_22 : decode cX5_swap 22 = .ok (.ireturn, 1) := fo_172 (fw_get da_cX5_swap_0 12 rfl)
theorem dX5_swap_23 : decode cX5_swap 23 = .ok (.aload_n 0, 1) := fo_42 (fw_get da_cX5_swap_0 13 rfl)
theorem dX5_swap_24 : decode cX5_swap 24 = .ok (.invokevirtual 135, 3) := fo_182 (fw_get da_cX5_swap_0 14 rfl)
theorem dX5_swap_27 : decode cX5_swap 27 = .ok (.aload_n 0, 1) := fo_42 (fw_get da_cX5_swap_0 15 rfl)
theorem dX5_swap_28 : decode cX5_swap 28 = .ok (.iload_n 1, 1) := fo_27 (fw_get da_cX5_swap_0 16 rfl)
theorem dX5_swap_29 : decode cX5_swap 29 = .ok (.iload_n 2, 1) := fo_28 (fw_get da_cX5_swap_0 17 rfl)
theorem dX5_swap_30 : decode cX5_swap 30 = .ok (.invokevirtual 145, 3) := fo_182 (fw_get da_cX5_swap_0 18 rfl)
theorem dX5_swap_33 : decode cX5_swap 33 = .ok (.aload_n 0, 1) := fo_42 (fw_get da_cX5_swap_0 19 rfl)
def dt_cX5_swap_1 : List (Nat × Nat × Nat × Nat) := [(34, 182, 2, 138), (37, 172, 0, 0)]
theorem da_cX5_swap_1 : fw dt_cX5_swap_1 0 cX5_swap.data.toList = true := by decide +kernel
theorem dX5_swap_34 : decode cX5_swap 34 = .ok (.invokevirtual 138, 3) := fo_182 (fw_get da_cX5_swap_1 0 rfl)
theorem dX5_swap_37 : decode cX5_swap 37 = .ok (.ireturn, 1) := fo_172 (fw_get da_cX5_swap_1 1 rfl)

