abbrev cX5_windowsOf : ByteArray := prog_7_method_73_code
def yX5_windowsOf : MethodName := ⟨RX5, "windowsOf", "(IIII)I"⟩
abbrev cX5_anyWindows : ByteArray := prog_7_method_74_code
def yX5_anyWindows : MethodName := ⟨RX5, "anyWindows", "(III)I"⟩
abbrev cX5_windows : ByteArray := prog_7_method_75_code
def yX5_windows : MethodName := ⟨RX5, "windows", "(IIII)I"⟩
abbrev cX5_needs : ByteArray := prog_7_method_76_code
def yX5_needs : MethodName := ⟨RX5, "needs", "(IIIII)I"⟩
def wsX5_windowsOf : List Cond := .code yX5_windowsOf cX5_windowsOf 8 (some .int) :: ([.fieldLink RX5 84 "MajorityIndexModel" "n" "I", .fieldLink RX5 7 "MajorityIndexModel" "row" "[I", .methodLink RX5 149 yX5_times, .instanceMethod yX5_times, .selects RX5 yX5_times yX5_times, .initialized RX5, .code yX5_times cX5_times 6 (some .int)] ++ wsX50)
def wsX5_anyWindows : List Cond := .code yX5_anyWindows cX5_anyWindows 8 (some .int) :: ([.fieldLink RX5 84 "MajorityIndexModel" "n" "I", .fieldLink RX5 7 "MajorityIndexModel" "row" "[I", .methodLink RX5 149 yX5_times, .instanceMethod yX5_times, .selects RX5 yX5_times yX5_times, .initialized RX5, .code yX5_times cX5_times 6 (some .int)] ++ wsX50)
def wsX5_windows : List Cond := .code yX5_windows cX5_windows 9 (some .int) :: ([.fieldLink RX5 77 "MajorityIndexModel" "thrown" "I", .fieldLink RX5 84 "MajorityIndexModel" "n" "I", .constant RX5 148 (-40000), .fieldLink RX5 7 "MajorityIndexModel" "row" "[I", .methodLink RX5 80 yX5_within, .static yX5_within, .initialized RX5, .code yX5_within cX5_within 3 (some .boolean), .methodLink RX5 184 yX5_isShare, .static yX5_isShare, .code yX5_isShare cX5_isShare 2 (some .boolean), .methodLink RX5 213 yX5_anyWindows, .instanceMethod yX5_anyWindows, .selects RX5 yX5_anyWindows yX5_anyWindows, .code yX5_anyWindows cX5_anyWindows 8 (some .int), .methodLink RX5 149 yX5_times, .instanceMethod yX5_times, .selects RX5 yX5_times yX5_times, .code yX5_times cX5_times 6 (some .int), .methodLink RX5 216 yX5_windowsOf, .instanceMethod yX5_windowsOf, .selects RX5 yX5_windowsOf yX5_windowsOf, .code yX5_windowsOf cX5_windowsOf 8 (some .int)] ++ wsX50)
def wsX5_needs : List Cond := .code yX5_needs cX5_needs 8 (some .int) :: ([.fieldLink RX5 77 "MajorityIndexModel" "thrown" "I", .methodLink RX5 132 yX5_isValue, .static yX5_isValue, .initialized RX5, .code yX5_isValue cX5_isValue 1 (some .boolean), .methodLink RX5 80 yX5_within, .static yX5_within, .code yX5_within cX5_within 3 (some .boolean), .methodLink RX5 142 yX5_isRange, .instanceMethod yX5_isRange, .selects RX5 yX5_isRange yX5_isRange, .code yX5_isRange cX5_isRange 3 (some .boolean), .fieldLink RX5 84 "MajorityIndexModel" "n" "I", .methodLink RX5 184 yX5_isShare, .static yX5_isShare, .code yX5_isShare cX5_isShare 2 (some .boolean), .methodLink RX5 149 yX5_times, .instanceMethod yX5_times, .selects RX5 yX5_times yX5_times, .code yX5_times cX5_times 6 (some .int), .fieldLink RX5 7 "MajorityIndexModel" "row" "[I"] ++ wsX50)
set_option maxRecDepth 20000 in
theorem ggX5_windowsOf_X5_times : GoodIn wsX5_windowsOf wsX5_times := goodIn_r _ [7, 2, 8, 9, 10, 11, 12, 13, 14, 15, 16, 17, 18, 19, 20, 21, 22, 23, 24, 25, 26, 27, 28, 29, 30, 31, 32, 33, 34, 35, 36, 37] rfl (by decide +kernel)
set_option maxRecDepth 20000 in
theorem gX5_windowsOf_X5_times : GoodIn wsX5_windowsOf (wsV RX5 149 RX5 yX5_times wsX5_times) := goodIn_app (goodIn_r _ [3, 4, 5, 6] rfl (by decide +kernel)) ggX5_windowsOf_X5_times
def dt_cX5_windowsOf_0 : List (Nat × Nat × Nat × Nat) := [(0, 3, 0, 0), (1, 54, 1, 5), (3, 42, 0, 0), (4, 27, 0, 0), (5, 3, 0, 0), (6, 28, 0, 0), (7, 4, 0, 0), (8, 100, 0, 0), (9, 182, 2, 149), (12, 54, 1, 6), (14, 3, 0, 0), (15, 54, 1, 7), (17, 21, 1, 7), (19, 28, 0, 0), (20, 96, 0, 0), (21, 42, 0, 0), (22, 180, 2, 84), (25, 163, 2, 55), (28, 42, 0, 0), (29, 180, 2, 7)]
theorem da_cX5_windowsOf_0 : fw dt_cX5_windowsOf_0 0 cX5_windowsOf.data.toList = true := by decide +kernel
theorem dX5_windowsOf_0 : decode cX5_windowsOf 0 = .ok (.iconst 0, 1) := fo_3 (fw_get da_cX5_windowsOf_0 0 rfl)
theorem dX5_windowsOf_1 : decode cX5_windowsOf 1 = .ok (.istore 5, 2) := fo_54 (fw_get da_cX5_windowsOf_0 1 rfl)
theorem dX5_windowsOf_3 : decode cX5_windowsOf 3 = .ok (.aload_n 0, 1) := fo_42 (fw_get da_cX5_windowsOf_0 2 rfl)
theorem dX5_windowsOf_4 : decode cX5_windowsOf 4 = .ok (.iload_n 1, 1) := fo_27 (fw_get da_cX5_windowsOf_0 3 rfl)
theorem dX5_windowsOf_5 : decode cX5_windowsOf 5 = .ok (.iconst 0, 1) := fo_3 (fw_get da_cX5_windowsOf_0 4 rfl)
theorem dX5_windowsOf_6 : decode cX5_windowsOf 6 = .ok (.iload_n 2, 1) := fo_28 (fw_get da_cX5_windowsOf_0 5 rfl)
theorem dX5_windowsOf_7 : decode cX5_windowsOf 7 = .ok (.iconst 1, 1) := fo_4 (fw_get da_cX5_windowsOf_0 6 rfl)
theorem dX5_windowsOf_8 : decode cX5_windowsOf 8 = .ok (.isub, 1) := fo_100 (fw_get da_cX5_windowsOf_0 7 rfl)
theorem dX5_windowsOf_9 : decode cX5_windowsOf 9 = .ok (.invokevirtual 149, 3) := fo_182 (fw_get da_cX5_windowsOf_0 8 rfl)
theorem dX5_windowsOf_12 : decode cX5_windowsOf 12 = .ok (.istore 6, 2) := fo_54 (fw_get da_cX5_windowsOf_0 9 rfl)
theorem dX5_windowsOf_14 : decode cX5_windowsOf 14 = .ok (.iconst 0, 1) := fo_3 (fw_get da_cX5_windowsOf_0 10 rfl)
theorem dX5_windowsOf_15 : decode cX5_windowsOf 15 = .ok (.istore 7, 2) := fo_54 (fw_get da_cX5_windowsOf_0 11 rfl)
theorem dX5_windowsOf_17 : decode cX5_windowsOf 17 = .ok (.iload 7, 2) := fo_21 (fw_get da_cX5_windowsOf_0 12 rfl)
theorem dX5_windowsOf_19 : decode cX5_windowsOf 19 = .ok (.iload_n 2, 1) := fo_28 (fw_get da_cX5_windowsOf_0 13 rfl)
theorem dX5_windowsOf_20 : decode cX5_windowsOf 20 = .ok (.iadd, 1) := fo_96 (fw_get da_cX5_windowsOf_0 14 rfl)
theorem dX5_windowsOf_21 : decode cX5_windowsOf 21 = .ok (.aload_n 0, 1) := fo_42 (fw_get da_cX5_windowsOf_0 15 rfl)
theorem dX5_windowsOf_22 : decode cX5_windowsOf 22 = .ok (.getfield 84, 3) := fo_180 (fw_get da_cX5_windowsOf_0 16 rfl)
theorem dX5_windowsOf_25 : decode cX5_windowsOf 25 = .ok (.if_icmp .gt 55, 3) := fo_163 (fw_get da_cX5_windowsOf_0 17 rfl) (by decide +kernel)
theorem dX5_windowsOf_28 : decode cX5_windowsOf 28 = .ok (.aload_n 0, 1) := fo_42 (fw_get da_cX5_windowsOf_0 18 rfl)
theorem dX5_windowsOf_29 : decode cX5_windowsOf 29 = .ok (.getfield 7, 3) := fo_180 (fw_get da_cX5_windowsOf_0 19 rfl)
def dt_cX5_windowsOf_1 : List (Nat × Nat × Nat × Nat) := [(32, 21, 1, 7), (34, 28, 0, 0), (35, 96, 0, 0), (36, 4, 0, 0), (37, 100, 0, 0), (38, 46, 0, 0), (39, 27, 0, 0), (40, 160, 2, 6), (43, 132, 2, 1537), (46, 21, 1, 6), (48, 21, 1, 4), (50, 104, 0, 0), (51, 29, 0, 0), (52, 28, 0, 0), (53, 104, 0, 0), (54, 164, 2, 6), (57, 132, 2, 1281), (60, 42, 0, 0), (61, 180, 2, 7), (64, 21, 1, 7)]
theorem da_cX5_windowsOf_1 : fw dt_cX5_windowsOf_1 0 cX5_windowsOf.data.toList = true := by decide +kernel
theorem dX5_windowsOf_32 : decode cX5_windowsOf 32 = .ok (.iload 7, 2) := fo_21 (fw_get da_cX5_windowsOf_1 0 rfl)
theorem dX5_windowsOf_34 : decode cX5_windowsOf 34 = .ok (.iload_n 2, 1) := fo_28 (fw_get da_cX5_windowsOf_1 1 rfl)
theorem dX5_windowsOf_35 : decode cX5_windowsOf 35 = .ok (.iadd, 1) := fo_96 (fw_get da_cX5_windowsOf_1 2 rfl)
theorem dX5_windowsOf_36 : decode cX5_windowsOf 36 = .ok (.iconst 1, 1) := fo_4 (fw_get da_cX5_windowsOf_1 3 rfl)
theorem dX5_windowsOf_37 : decode cX5_windowsOf 37 = .ok (.isub, 1) := fo_100 (fw_get da_cX5_windowsOf_1 4 rfl)
theorem dX5_windowsOf_38 : decode cX5_windowsOf 38 = .ok (.iaload, 1) := fo_46 (fw_get da_cX5_windowsOf_1 5 rfl)
theorem dX5_windowsOf_39 : decode cX5_windowsOf 39 = .ok (.iload_n 1, 1) := fo_27 (fw_get da_cX5_windowsOf_1 6 rfl)
theorem dX5_windowsOf_40 : decode cX5_windowsOf 40 = .ok (.if_icmp .ne 6, 3) := fo_160 (fw_get da_cX5_windowsOf_1 7 rfl) (by decide +kernel)
theorem dX5_windowsOf_43 : decode cX5_windowsOf 43 = .ok (.iinc 6 1, 3) := fo_132 (fw_get da_cX5_windowsOf_1 8 rfl) rfl (by decide +kernel)
theorem dX5_windowsOf_46 : decode cX5_windowsOf 46 = .ok (.iload 6, 2) := fo_21 (fw_get da_cX5_windowsOf_1 9 rfl)
theorem dX5_windowsOf_48 : decode cX5_windowsOf 48 = .ok (.iload 4, 2) := fo_21 (fw_get da_cX5_windowsOf_1 10 rfl)
theorem dX5_windowsOf_50 : decode cX5_windowsOf 50 = .ok (.imul, 1) := fo_104 (fw_get da_cX5_windowsOf_1 11 rfl)
theorem dX5_windowsOf_51 : decode cX5_windowsOf 51 = .ok (.iload_n 3, 1) := fo_29 (fw_get da_cX5_windowsOf_1 12 rfl)
theorem dX5_windowsOf_52 : decode cX5_windowsOf 52 = .ok (.iload_n 2, 1) := fo_28 (fw_get da_cX5_windowsOf_1 13 rfl)
theorem dX5_windowsOf_53 : decode cX5_windowsOf 53 = .ok (.imul, 1) := fo_104 (fw_get da_cX5_windowsOf_1 14 rfl)
theorem dX5_windowsOf_54 : decode cX5_windowsOf 54 = .ok (.if_icmp .le 6, 3) := fo_164 (fw_get da_cX5_windowsOf_1 15 rfl) (by decide +kernel)
theorem dX5_windowsOf_57 : decode cX5_windowsOf 57 = .ok (.iinc 5 1, 3) := fo_132 (fw_get da_cX5_windowsOf_1 16 rfl) rfl (by decide +kernel)
theorem dX5_windowsOf_60 : decode cX5_windowsOf 60 = .ok (.aload_n 0, 1) := fo_42 (fw_get da_cX5_windowsOf_1 17 rfl)
theorem dX5_windowsOf_61 : decode cX5_windowsOf 61 = .ok (.getfield 7, 3) := fo_180 (fw_get da_cX5_windowsOf_1 18 rfl)
theorem dX5_windowsOf_64 : decode cX5_windowsOf 64 = .ok (.iload 7, 2) := fo_21 (fw_get da_cX5_windowsOf_1 19 rfl)
def dt_cX5_windowsOf_2 : List (Nat × Nat × Nat × Nat) := [(66, 46, 0, 0), (67, 27, 0, 0), (68, 160, 2, 6), (71, 132, 2, 1791), (74, 132, 2, 1793), (77, 167, 2, 65476), (80, 21, 1, 5), (82, 172, 0, 0)]
theorem da_cX5_windowsOf_2 : fw dt_cX5_windowsOf_2 0 cX5_windowsOf.data.toList = true := by decide +kernel
theorem dX5_windowsOf_66 : decode cX5_windowsOf 66 = .ok (.iaload, 1) := fo_46 (fw_get da_cX5_windowsOf_2 0 rfl)
theorem dX5_windowsOf_67 : decode cX5_windowsOf 67 = .ok (.iload_n 1, 1) := fo_27 (fw_get da_cX5_windowsOf_2 1 rfl)
theorem dX5_windowsOf_68 : decode cX5_windowsOf 68 = .ok (.if_icmp .ne 6, 3) := fo_160 (fw_get da_cX5_windowsOf_2 2 rfl) (by decide +kernel)
theorem dX5_windowsOf_71 : decode cX5_windowsOf 71 = .ok (.iinc 6 (-1), 3) := fo_132 (fw_get da_cX5_windowsOf_2 3 rfl) rfl (by decide +kernel)
theorem dX5_windowsOf_74 : decode cX5_windowsOf 74 = .ok (.iinc 7 1, 3) := fo_132 (fw_get da_cX5_windowsOf_2 4 rfl) rfl (by decide +kernel)
theorem dX5_windowsOf_77 : decode cX5_windowsOf 77 = .ok (.goto (-60), 3) := fo_167 (fw_get da_cX5_windowsOf_2 5 rfl) (by decide +kernel)
theorem dX5_windowsOf_80 : decode cX5_windowsOf 80 = .ok (.iload 5, 2) := fo_21 (fw_get da_cX5_windowsOf_2 6 rfl)
theorem dX5_windowsOf_82 : decode cX5_windowsOf 82 = .ok (.ireturn, 1) := fo_172 (fw_get da_cX5_windowsOf_2 7 rfl)
set_option maxRecDepth 20000 in
theorem ggX5_anyWindows_X5_times : GoodIn wsX5_anyWindows wsX5_times := goodIn_r _ [7, 2, 8, 9, 10, 11, 12, 13, 14, 15, 16, 17, 18, 19, 20, 21, 22, 23, 24, 25, 26, 27, 28, 29, 30, 31, 32, 33, 34, 35, 36, 37] rfl (by decide +kernel)
set_option maxRecDepth 20000 in
theorem gX5_anyWindows_X5_times : GoodIn wsX5_anyWindows (wsV RX5 149 RX5 yX5_times wsX5_times) := goodIn_app (goodIn_r _ [3, 4, 5, 6] rfl (by decide +kernel)) ggX5_anyWindows_X5_times
def dt_cX5_anyWindows_0 : List (Nat × Nat × Nat × Nat) := [(0, 3, 0, 0), (1, 54, 1, 4), (3, 3, 0, 0), (4, 54, 1, 5), (6, 21, 1, 5), (8, 27, 0, 0), (9, 96, 0, 0), (10, 42, 0, 0), (11, 180, 2, 84), (14, 163, 2, 76), (17, 3, 0, 0), (18, 54, 1, 6), (20, 21, 1, 5), (22, 54, 1, 7), (24, 21, 1, 7), (26, 21, 1, 5), (28, 27, 0, 0), (29, 96, 0, 0), (30, 162, 2, 46), (33, 21, 1, 6)]
theorem da_cX5_anyWindows_0 : fw dt_cX5_anyWindows_0 0 cX5_anyWindows.data.toList = true := by decide +kernel
theorem dX5_anyWindows_0 : decode cX5_anyWindows 0 = .ok (.iconst 0, 1) := fo_3 (fw_get da_cX5_anyWindows_0 0 rfl)
theorem dX5_anyWindows_1 : decode cX5_anyWindows 1 = .ok (.istore 4, 2) := fo_54 (fw_get da_cX5_anyWindows_0 1 rfl)
theorem dX5_anyWindows_3 : decode cX5_anyWindows 3 = .ok (.iconst 0, 1) := fo_3 (fw_get da_cX5_anyWindows_0 2 rfl)
theorem dX5_anyWindows_4 : decode cX5_anyWindows 4 = .ok (.istore 5, 2) := fo_54 (fw_get da_cX5_anyWindows_0 3 rfl)
theorem dX5_anyWindows_6 : decode cX5_anyWindows 6 = .ok (.iload 5, 2) := fo_21 (fw_get da_cX5_anyWindows_0 4 rfl)
theorem dX5_anyWindows_8 : decode cX5_anyWindows 8 = .ok (.iload_n 1, 1) := fo_27 (fw_get da_cX5_anyWindows_0 5 rfl)
theorem dX5_anyWindows_9 : decode cX5_anyWindows 9 = .ok (.iadd, 1) := fo_96 (fw_get da_cX5_anyWindows_0 6 rfl)
theorem dX5_anyWindows_10 : decode cX5_anyWindows 10 = .ok (.aload_n 0, 1) := fo_42 (fw_get da_cX5_anyWindows_0 7 rfl)
theorem dX5_anyWindows_11 : decode cX5_anyWindows 11 = .ok (.getfield 84, 3) := fo_180 (fw_get da_cX5_anyWindows_0 8 rfl)
theorem dX5_anyWindows_14 : decode cX5_anyWindows 14 = .ok (.if_icmp .gt 76, 3) := fo_163 (fw_get da_cX5_anyWindows_0 9 rfl) (by decide +kernel)
theorem dX5_anyWindows_17 : decode cX5_anyWindows 17 = .ok (.iconst 0, 1) := fo_3 (fw_get da_cX5_anyWindows_0 10 rfl)
theorem dX5_anyWindows_18 : decode cX5_anyWindows 18 = .ok (.istore 6, 2) := fo_54 (fw_get da_cX5_anyWindows_0 11 rfl)
theorem dX5_anyWindows_20 : decode cX5_anyWindows 20 = .ok (.iload 5, 2) := fo_21 (fw_get da_cX5_anyWindows_0 12 rfl)
theorem dX5_anyWindows_22 : decode cX5_anyWindows 22 = .ok (.istore 7, 2) := fo_54 (fw_get da_cX5_anyWindows_0 13 rfl)
theorem dX5_anyWindows_24 : decode cX5_anyWindows 24 = .ok (.iload 7, 2) := fo_21 (fw_get da_cX5_anyWindows_0 14 rfl)
theorem dX5_anyWindows_26 : decode cX5_anyWindows 26 = .ok (.iload 5, 2) := fo_21 (fw_get da_cX5_anyWindows_0 15 rfl)
theorem dX5_anyWindows_28 : decode cX5_anyWindows 28 = .ok (.iload_n 1, 1) := fo_27 (fw_get da_cX5_anyWindows_0 16 rfl)
theorem dX5_anyWindows_29 : decode cX5_anyWindows 29 = .ok (.iadd, 1) := fo_96 (fw_get da_cX5_anyWindows_0 17 rfl)
theorem dX5_anyWindows_30 : decode cX5_anyWindows 30 = .ok (.if_icmp .ge 46, 3) := fo_162 (fw_get da_cX5_anyWindows_0 18 rfl) (by decide +kernel)
theorem dX5_anyWindows_33 : decode cX5_anyWindows 33 = .ok (.iload 6, 2) := fo_21 (fw_get da_cX5_anyWindows_0 19 rfl)
def dt_cX5_anyWindows_1 : List (Nat × Nat × Nat × Nat) := [(35, 154, 2, 41), (38, 42, 0, 0), (39, 42, 0, 0), (40, 180, 2, 7), (43, 21, 1, 7), (45, 46, 0, 0), (46, 21, 1, 5), (48, 21, 1, 5), (50, 27, 0, 0), (51, 96, 0, 0), (52, 182, 2, 149), (55, 29, 0, 0), (56, 104, 0, 0), (57, 28, 0, 0), (58, 27, 0, 0), (59, 104, 0, 0), (60, 164, 2, 7), (63, 4, 0, 0), (64, 167, 2, 4), (67, 3, 0, 0)]
theorem da_cX5_anyWindows_1 : fw dt_cX5_anyWindows_1 0 cX5_anyWindows.data.toList = true := by decide +kernel
theorem dX5_anyWindows_35 : decode cX5_anyWindows 35 = .ok (.ifCond .ne 41, 3) := fo_154 (fw_get da_cX5_anyWindows_1 0 rfl) (by decide +kernel)
theorem dX5_anyWindows_38 : decode cX5_anyWindows 38 = .ok (.aload_n 0, 1) := fo_42 (fw_get da_cX5_anyWindows_1 1 rfl)
theorem dX5_anyWindows_39 : decode cX5_anyWindows 39 = .ok (.aload_n 0, 1) := fo_42 (fw_get da_cX5_anyWindows_1 2 rfl)
theorem dX5_anyWindows_40 : decode cX5_anyWindows 40 = .ok (.getfield 7, 3) := fo_180 (fw_get da_cX5_anyWindows_1 3 rfl)
theorem dX5_anyWindows_43 : decode cX5_anyWindows 43 = .ok (.iload 7, 2) := fo_21 (fw_get da_cX5_anyWindows_1 4 rfl)
theorem dX5_anyWindows_45 : decode cX5_anyWindows 45 = .ok (.iaload, 1) := fo_46 (fw_get da_cX5_anyWindows_1 5 rfl)
theorem dX5_anyWindows_46 : decode cX5_anyWindows 46 = .ok (.iload 5, 2) := fo_21 (fw_get da_cX5_anyWindows_1 6 rfl)
theorem dX5_anyWindows_48 : decode cX5_anyWindows 48 = .ok (.iload 5, 2) := fo_21 (fw_get da_cX5_anyWindows_1 7 rfl)
theorem dX5_anyWindows_50 : decode cX5_anyWindows 50 = .ok (.iload_n 1, 1) := fo_27 (fw_get da_cX5_anyWindows_1 8 rfl)
theorem dX5_anyWindows_51 : decode cX5_anyWindows 51 = .ok (.iadd, 1) := fo_96 (fw_get da_cX5_anyWindows_1 9 rfl)
theorem dX5_anyWindows_52 : decode cX5_anyWindows 52 = .ok (.invokevirtual 149, 3) := fo_182 (fw_get da_cX5_anyWindows_1 10 rfl)
theorem dX5_anyWindows_55 : decode cX5_anyWindows 55 = .ok (.iload_n 3, 1) := fo_29 (fw_get da_cX5_anyWindows_1 11 rfl)
theorem dX5_anyWindows_56 : decode cX5_anyWindows 56 = .ok (.imul, 1) := fo_104 (fw_get da_cX5_anyWindows_1 12 rfl)
theorem dX5_anyWindows_57 : decode cX5_anyWindows 57 = .ok (.iload_n 2, 1) := fo_28 (fw_get da_cX5_anyWindows_1 13 rfl)
theorem dX5_anyWindows_58 : decode cX5_anyWindows 58 = .ok (.iload_n 1, 1) := fo_27 (fw_get da_cX5_anyWindows_1 14 rfl)
theorem dX5_anyWindows_59 : decode cX5_anyWindows 59 = .ok (.imul, 1) := fo_104 (fw_get da_cX5_anyWindows_1 15 rfl)
theorem dX5_anyWindows_60 : decode cX5_anyWindows 60 = .ok (.if_icmp .le 7, 3) := fo_164 (fw_get da_cX5_anyWindows_1 16 rfl) (by decide +kernel)
theorem dX5_anyWindows_63 : decode cX5_anyWindows 63 = .ok (.iconst 1, 1) := fo_4 (fw_get da_cX5_anyWindows_1 17 rfl)
theorem dX5_anyWindows_64 : decode cX5_anyWindows 64 = .ok (.goto 4, 3) := fo_167 (fw_get da_cX5_anyWindows_1 18 rfl) (by decide +kernel)
theorem dX5_anyWindows_67 : decode cX5_anyWindows 67 = .ok (.iconst 0, 1) := fo_3 (fw_get da_cX5_anyWindows_1 19 rfl)
def dt_cX5_anyWindows_2 : List (Nat × Nat × Nat × Nat) := [(68, 54, 1, 6), (70, 132, 2, 1793), (73, 167, 2, 65487), (76, 21, 1, 6), (78, 153, 2, 6), (81, 132, 2, 1025), (84, 132, 2, 1281), (87, 167, 2, 65455), (90, 21, 1, 4), (92, 172, 0, 0)]
theorem da_cX5_anyWindows_2 : fw dt_cX5_anyWindows_2 0 cX5_anyWindows.data.toList = true := by decide +kernel
theorem dX5_anyWindows_68 : decode cX5_anyWindows 68 = .ok (.istore 6, 2) := fo_54 (fw_get da_cX5_anyWindows_2 0 rfl)
theorem dX5_anyWindows_70 : decode cX5_anyWindows 70 = .ok (.iinc 7 1, 3) := fo_132 (fw_get da_cX5_anyWindows_2 1 rfl) rfl (by decide +kernel)
theorem dX5_anyWindows_73 : decode cX5_anyWindows 73 = .ok (.goto (-49), 3) := fo_167 (fw_get da_cX5_anyWindows_2 2 rfl) (by decide +kernel)
theorem dX5_anyWindows_76 : decode cX5_anyWindows 76 = .ok (.iload 6, 2) := fo_21 (fw_get da_cX5_anyWindows_2 3 rfl)
theorem dX5_anyWindows_78 : decode cX5_anyWindows 78 = .ok (.ifCond .eq 6, 3) := fo_153 (fw_get da_cX5_anyWindows_2 4 rfl) (by decide +kernel)
theorem dX5_anyWindows_81 : decode cX5_anyWindows 81 = .ok (.iinc 4 1, 3) := fo_132 (fw_get da_cX5_anyWindows_2 5 rfl) rfl (by decide +kernel)
theorem dX5_anyWindows_84 : decode cX5_anyWindows 84 = .ok (.iinc 5 1, 3) := fo_132 (fw_get da_cX5_anyWindows_2 6 rfl) rfl (by decide +kernel)
theorem dX5_anyWindows_87 : decode cX5_anyWindows 87 = .ok (.goto (-81), 3) := fo_167 (fw_get da_cX5_anyWindows_2 7 rfl) (by decide +kernel)
theorem dX5_anyWindows_90 : decode cX5_anyWindows 90 = .ok (.iload 4, 2) := fo_21 (fw_get da_cX5_anyWindows_2 8 rfl)
theorem dX5_anyWindows_92 : decode cX5_anyWindows 92 = .ok (.ireturn, 1) := fo_172 (fw_get da_cX5_anyWindows_2 9 rfl)
set_option maxRecDepth 20000 in
theorem ggX5_windows_X5_within : GoodIn wsX5_windows wsX5_within := goodIn_r _ [8] rfl (by decide +kernel)
set_option maxRecDepth 20000 in
theorem gX5_windows_X5_within : GoodIn wsX5_windows (va_wsS RX5 80 yX5_within wsX5_within) := goodIn_app (goodIn_r _ [5, 6, 7] rfl (by decide +kernel)) ggX5_windows_X5_within
set_option maxRecDepth 20000 in
theorem ggX5_windows_X5_isShare : GoodIn wsX5_windows wsX5_isShare := goodIn_r _ [11, 5, 6, 7, 8] rfl (by decide +kernel)
set_option maxRecDepth 20000 in
theorem gX5_windows_X5_isShare : GoodIn wsX5_windows (va_wsS RX5 184 yX5_isShare wsX5_isShare) := goodIn_app (goodIn_r _ [9, 10, 7] rfl (by decide +kernel)) ggX5_windows_X5_isShare
set_option maxRecDepth 20000 in
theorem ggX5_windows_X5_anyWindows : GoodIn wsX5_windows wsX5_anyWindows := goodIn_r _ [15, 2, 4, 16, 17, 18, 7, 19, 24, 25, 26, 27, 28, 29, 30, 31, 32, 33, 34, 35, 36, 37, 38, 39, 40, 41, 42, 43, 44, 45, 46, 47, 48, 49, 50, 51, 52, 53] rfl (by decide +kernel)
set_option maxRecDepth 20000 in
theorem gX5_windows_X5_anyWindows : GoodIn wsX5_windows (wsV RX5 213 RX5 yX5_anyWindows wsX5_anyWindows) := goodIn_app (goodIn_r _ [12, 13, 14, 7] rfl (by decide +kernel)) ggX5_windows_X5_anyWindows
set_option maxRecDepth 20000 in
theorem ggX5_windows_X5_times : GoodIn wsX5_windows wsX5_times := goodIn_r _ [19, 4, 24, 25, 26, 27, 28, 29, 30, 31, 32, 33, 34, 35, 36, 37, 38, 39, 40, 41, 42, 43, 44, 45, 46, 47, 48, 49, 50, 51, 52, 53] rfl (by decide +kernel)
set_option maxRecDepth 20000 in
theorem gX5_windows_X5_times : GoodIn wsX5_windows (wsV RX5 149 RX5 yX5_times wsX5_times) := goodIn_app (goodIn_r _ [16, 17, 18, 7] rfl (by decide +kernel)) ggX5_windows_X5_times
set_option maxRecDepth 20000 in
theorem ggX5_windows_X5_windowsOf : GoodIn wsX5_windows wsX5_windowsOf := goodIn_r _ [23, 2, 4, 16, 17, 18, 7, 19, 24, 25, 26, 27, 28, 29, 30, 31, 32, 33, 34, 35, 36, 37, 38, 39, 40, 41, 42, 43, 44, 45, 46, 47, 48, 49, 50, 51, 52, 53] rfl (by decide +kernel)
set_option maxRecDepth 20000 in
theorem gX5_windows_X5_windowsOf : GoodIn wsX5_windows (wsV RX5 216 RX5 yX5_windowsOf wsX5_windowsOf) := goodIn_app (goodIn_r _ [20, 21, 22, 7] rfl (by decide +kernel)) ggX5_windows_X5_windowsOf
def dt_cX5_windows_0 : List (Nat × Nat × Nat × Nat) := [(0, 42, 0, 0), (1, 3, 0, 0), (2, 181, 2, 77), (5, 27, 0, 0), (6, 4, 0, 0), (7, 42, 0, 0), (8, 180, 2, 84), (11, 184, 2, 80), (14, 153, 2, 21), (17, 28, 0, 0), (18, 29, 0, 0), (19, 184, 2, 184), (22, 153, 2, 13), (25, 21, 1, 4), (27, 3, 0, 0), (28, 5, 0, 0), (29, 184, 2, 80), (32, 154, 2, 16), (35, 21, 1, 4), (37, 4, 0, 0)]
theorem da_cX5_windows_0 : fw dt_cX5_windows_0 0 cX5_windows.data.toList = true := by decide +kernel
theorem dX5_windows_0 : decode cX5_windows 0 = .ok (.aload_n 0, 1) := fo_42 (fw_get da_cX5_windows_0 0 rfl)
theorem dX5_windows_1 : decode cX5_windows 1 = .ok (.iconst 0, 1) := fo_3 (fw_get da_cX5_windows_0 1 rfl)
theorem dX5_windows_2 : decode cX5_windows 2 = .ok (.putfield 77, 3) := fo_181 (fw_get da_cX5_windows_0 2 rfl)
theorem dX5_windows_5 : decode cX5_windows 5 = .ok (.iload_n 1, 1) := fo_27 (fw_get da_cX5_windows_0 3 rfl)
theorem dX5_windows_6 : decode cX5_windows 6 = .ok (.iconst 1, 1) := fo_4 (fw_get da_cX5_windows_0 4 rfl)
theorem dX5_windows_7 : decode cX5_windows 7 = .ok (.aload_n 0, 1) := fo_42 (fw_get da_cX5_windows_0 5 rfl)
theorem dX5_windows_8 : decode cX5_windows 8 = .ok (.getfield 84, 3) := fo_180 (fw_get da_cX5_windows_0 6 rfl)
theorem dX5_windows_11 : decode cX5_windows 11 = .ok (.invokestatic 80, 3) := fo_184 (fw_get da_cX5_windows_0 7 rfl)
theorem dX5_windows_14 : decode cX5_windows 14 = .ok (.ifCond .eq 21, 3) := fo_153 (fw_get da_cX5_windows_0 8 rfl) (by decide +kernel)
theorem dX5_windows_17 : decode cX5_windows 17 = .ok (.iload_n 2, 1) := fo_28 (fw_get da_cX5_windows_0 9 rfl)
theorem dX5_windows_18 : decode cX5_windows 18 = .ok (.iload_n 3, 1) := fo_29 (fw_get da_cX5_windows_0 10 rfl)
theorem dX5_windows_19 : decode cX5_windows 19 = .ok (.invokestatic 184, 3) := fo_184 (fw_get da_cX5_windows_0 11 rfl)
theorem dX5_windows_22 : decode cX5_windows 22 = .ok (.ifCond .eq 13, 3) := fo_153 (fw_get da_cX5_windows_0 12 rfl) (by decide +kernel)
theorem dX5_windows_25 : decode cX5_windows 25 = .ok (.iload 4, 2) := fo_21 (fw_get da_cX5_windows_0 13 rfl)
theorem dX5_windows_27 : decode cX5_windows 27 = .ok (.iconst 0, 1) := fo_3 (fw_get da_cX5_windows_0 14 rfl)
theorem dX5_windows_28 : decode cX5_windows 28 = .ok (.iconst 2, 1) := fo_5 (fw_get da_cX5_windows_0 15 rfl)
theorem dX5_windows_29 : decode cX5_windows 29 = .ok (.invokestatic 80, 3) := fo_184 (fw_get da_cX5_windows_0 16 rfl)
theorem dX5_windows_32 : decode cX5_windows 32 = .ok (.ifCond .ne 16, 3) := fo_154 (fw_get da_cX5_windows_0 17 rfl) (by decide +kernel)
theorem dX5_windows_35 : decode cX5_windows 35 = .ok (.iload 4, 2) := fo_21 (fw_get da_cX5_windows_0 18 rfl)
theorem dX5_windows_37 : decode cX5_windows 37 = .ok (.iconst 1, 1) := fo_4 (fw_get da_cX5_windows_0 19 rfl)
def dt_cX5_windows_1 : List (Nat × Nat × Nat × Nat) := [(38, 160, 2, 8), (41, 18, 1, 148), (43, 167, 2, 4), (46, 2, 0, 0), (47, 172, 0, 0), (48, 21, 1, 4), (50, 154, 2, 11), (53, 42, 0, 0), (54, 27, 0, 0), (55, 28, 0, 0), (56, 29, 0, 0), (57, 182, 2, 213), (60, 172, 0, 0), (61, 18, 1, 148), (63, 54, 1, 5), (65, 3, 0, 0), (66, 54, 1, 6), (68, 3, 0, 0), (69, 54, 1, 7), (71, 21, 1, 7)]
theorem da_cX5_windows_1 : fw dt_cX5_windows_1 0 cX5_windows.data.toList = true := by decide +kernel
theorem dX5_windows_38 : decode cX5_windows 38 = .ok (.if_icmp .ne 8, 3) := fo_160 (fw_get da_cX5_windows_1 0 rfl) (by decide +kernel)
theorem dX5_windows_41 : decode cX5_windows 41 = .ok (.ldc 148, 2) := fo_18 (fw_get da_cX5_windows_1 1 rfl)
theorem dX5_windows_43 : decode cX5_windows 43 = .ok (.goto 4, 3) := fo_167 (fw_get da_cX5_windows_1 2 rfl) (by decide +kernel)
theorem dX5_windows_46 : decode cX5_windows 46 = .ok (.iconst (-1), 1) := fo_2 (fw_get da_cX5_windows_1 3 rfl)
theorem dX5_windows_47 : decode cX5_windows 47 = .ok (.ireturn, 1) := fo_172 (fw_get da_cX5_windows_1 4 rfl)
theorem dX5_windows_48 : decode cX5_windows 48 = .ok (.iload 4, 2) := fo_21 (fw_get da_cX5_windows_1 5 rfl)
theorem dX5_windows_50 : decode cX5_windows 50 = .ok (.ifCond .ne 11, 3) := fo_154 (fw_get da_cX5_windows_1 6 rfl) (by decide +kernel)
theorem dX5_windows_53 : decode cX5_windows 53 = .ok (.aload_n 0, 1) := fo_42 (fw_get da_cX5_windows_1 7 rfl)
theorem dX5_windows_54 : decode cX5_windows 54 = .ok (.iload_n 1, 1) := fo_27 (fw_get da_cX5_windows_1 8 rfl)
theorem dX5_windows_55 : decode cX5_windows 55 = .ok (.iload_n 2, 1) := fo_28 (fw_get da_cX5_windows_1 9 rfl)
theorem dX5_windows_56 : decode cX5_windows 56 = .ok (.iload_n 3, 1) := fo_29 (fw_get da_cX5_windows_1 10 rfl)
theorem dX5_windows_57 : decode cX5_windows 57 = .ok (.invokevirtual 213, 3) := fo_182 (fw_get da_cX5_windows_1 11 rfl)
theorem dX5_windows_60 : decode cX5_windows 60 = .ok (.ireturn, 1) := fo_172 (fw_get da_cX5_windows_1 12 rfl)
theorem dX5_windows_61 : decode cX5_windows 61 = .ok (.ldc 148, 2) := fo_18 (fw_get da_cX5_windows_1 13 rfl)
theorem dX5_windows_63 : decode cX5_windows 63 = .ok (.istore 5, 2) := fo_54 (fw_get da_cX5_windows_1 14 rfl)
theorem dX5_windows_65 : decode cX5_windows 65 = .ok (.iconst 0, 1) := fo_3 (fw_get da_cX5_windows_1 15 rfl)
theorem dX5_windows_66 : decode cX5_windows 66 = .ok (.istore 6, 2) := fo_54 (fw_get da_cX5_windows_1 16 rfl)
theorem dX5_windows_68 : decode cX5_windows 68 = .ok (.iconst 0, 1) := fo_3 (fw_get da_cX5_windows_1 17 rfl)
theorem dX5_windows_69 : decode cX5_windows 69 = .ok (.istore 7, 2) := fo_54 (fw_get da_cX5_windows_1 18 rfl)
theorem dX5_windows_71 : decode cX5_windows 71 = .ok (.iload 7, 2) := fo_21 (fw_get da_cX5_windows_1 19 rfl)
def dt_cX5_windows_2 : List (Nat × Nat × Nat × Nat) := [(73, 42, 0, 0), (74, 180, 2, 84), (77, 162, 2, 92), (80, 42, 0, 0), (81, 42, 0, 0), (82, 180, 2, 7), (85, 21, 1, 7), (87, 46, 0, 0), (88, 3, 0, 0), (89, 21, 1, 7), (91, 182, 2, 149), (94, 158, 2, 6), (97, 167, 2, 66), (100, 42, 0, 0), (101, 42, 0, 0), (102, 180, 2, 7), (105, 21, 1, 7), (107, 46, 0, 0), (108, 27, 0, 0), (109, 28, 0, 0)]
theorem da_cX5_windows_2 : fw dt_cX5_windows_2 0 cX5_windows.data.toList = true := by decide +kernel
theorem dX5_windows_73 : decode cX5_windows 73 = .ok (.aload_n 0, 1) := fo_42 (fw_get da_cX5_windows_2 0 rfl)
theorem dX5_windows_74 : decode cX5_windows 74 = .ok (.getfield 84, 3) := fo_180 (fw_get da_cX5_windows_2 1 rfl)
theorem dX5_windows_77 : decode cX5_windows 77 = .ok (.if_icmp .ge 92, 3) := fo_162 (fw_get da_cX5_windows_2 2 rfl) (by decide +kernel)
theorem dX5_windows_80 : decode cX5_windows 80 = .ok (.aload_n 0, 1) := fo_42 (fw_get da_cX5_windows_2 3 rfl)
theorem dX5_windows_81 : decode cX5_windows 81 = .ok (.aload_n 0, 1) := fo_42 (fw_get da_cX5_windows_2 4 rfl)
theorem dX5_windows_82 : decode cX5_windows 82 = .ok (.getfield 7, 3) := fo_180 (fw_get da_cX5_windows_2 5 rfl)
theorem dX5_windows_85 : decode cX5_windows 85 = .ok (.iload 7, 2) := fo_21 (fw_get da_cX5_windows_2 6 rfl)
theorem dX5_windows_87 : decode cX5_windows 87 = .ok (.iaload, 1) := fo_46 (fw_get da_cX5_windows_2 7 rfl)
theorem dX5_windows_88 : decode cX5_windows 88 = .ok (.iconst 0, 1) := fo_3 (fw_get da_cX5_windows_2 8 rfl)
theorem dX5_windows_89 : decode cX5_windows 89 = .ok (.iload 7, 2) := fo_21 (fw_get da_cX5_windows_2 9 rfl)
theorem dX5_windows_91 : decode cX5_windows 91 = .ok (.invokevirtual 149, 3) := fo_182 (fw_get da_cX5_windows_2 10 rfl)
theorem dX5_windows_94 : decode cX5_windows 94 = .ok (.ifCond .le 6, 3) := fo_158 (fw_get da_cX5_windows_2 11 rfl) (by decide +kernel)
theorem dX5_windows_97 : decode cX5_windows 97 = .ok (.goto 66, 3) := fo_167 (fw_get da_cX5_windows_2 12 rfl) (by decide +kernel)
theorem dX5_windows_100 : decode cX5_windows 100 = .ok (.aload_n 0, 1) := fo_42 (fw_get da_cX5_windows_2 13 rfl)
theorem dX5_windows_101 : decode cX5_windows 101 = .ok (.aload_n 0, 1) := fo_42 (fw_get da_cX5_windows_2 14 rfl)
theorem dX5_windows_102 : decode cX5_windows 102 = .ok (.getfield 7, 3) := fo_180 (fw_get da_cX5_windows_2 15 rfl)
theorem dX5_windows_105 : decode cX5_windows 105 = .ok (.iload 7, 2) := fo_21 (fw_get da_cX5_windows_2 16 rfl)
theorem dX5_windows_107 : decode cX5_windows 107 = .ok (.iaload, 1) := fo_46 (fw_get da_cX5_windows_2 17 rfl)
theorem dX5_windows_108 : decode cX5_windows 108 = .ok (.iload_n 1, 1) := fo_27 (fw_get da_cX5_windows_2 18 rfl)
theorem dX5_windows_109 : decode cX5_windows 109 = .ok (.iload_n 2, 1) := fo_28 (fw_get da_cX5_windows_2 19 rfl)
def dt_cX5_windows_3 : List (Nat × Nat × Nat × Nat) := [(110, 29, 0, 0), (111, 182, 2, 216), (114, 54, 1, 8), (116, 21, 1, 8), (118, 21, 1, 6), (120, 161, 2, 43), (123, 21, 1, 8), (125, 153, 2, 38), (128, 21, 1, 8), (130, 21, 1, 6), (132, 160, 2, 18), (135, 42, 0, 0), (136, 180, 2, 7), (139, 21, 1, 7), (141, 46, 0, 0), (142, 21, 1, 5), (144, 164, 2, 6), (147, 167, 2, 16), (150, 42, 0, 0), (151, 180, 2, 7)]
theorem da_cX5_windows_3 : fw dt_cX5_windows_3 0 cX5_windows.data.toList = true := by decide +kernel
theorem dX5_windows_110 : decode cX5_windows 110 = .ok (.iload_n 3, 1) := fo_29 (fw_get da_cX5_windows_3 0 rfl)
theorem dX5_windows_111 : decode cX5_windows 111 = .ok (.invokevirtual 216, 3) := fo_182 (fw_get da_cX5_windows_3 1 rfl)
theorem dX5_windows_114 : decode cX5_windows 114 = .ok (.istore 8, 2) := fo_54 (fw_get da_cX5_windows_3 2 rfl)
theorem dX5_windows_116 : decode cX5_windows 116 = .ok (.iload 8, 2) := fo_21 (fw_get da_cX5_windows_3 3 rfl)
theorem dX5_windows_118 : decode cX5_windows 118 = .ok (.iload 6, 2) := fo_21 (fw_get da_cX5_windows_3 4 rfl)
theorem dX5_windows_120 : decode cX5_windows 120 = .ok (.if_icmp .lt 43, 3) := fo_161 (fw_get da_cX5_windows_3 5 rfl) (by decide +kernel)
theorem dX5_windows_123 : decode cX5_windows 123 = .ok (.iload 8, 2) := fo_21 (fw_get da_cX5_windows_3 6 rfl)
theorem dX5_windows_125 : decode cX5_windows 125 = .ok (.ifCond .eq 38, 3) := fo_153 (fw_get da_cX5_windows_3 7 rfl) (by decide +kernel)
theorem dX5_windows_128 : decode cX5_windows 128 = .ok (.iload 8, 2) := fo_21 (fw_get da_cX5_windows_3 8 rfl)
theorem dX5_windows_130 : decode cX5_windows 130 = .ok (.iload 6, 2) := fo_21 (fw_get da_cX5_windows_3 9 rfl)
theorem dX5_windows_132 : decode cX5_windows 132 = .ok (.if_icmp .ne 18, 3) := fo_160 (fw_get da_cX5_windows_3 10 rfl) (by decide +kernel)
theorem dX5_windows_135 : decode cX5_windows 135 = .ok (.aload_n 0, 1) := fo_42 (fw_get da_cX5_windows_3 11 rfl)
theorem dX5_windows_136 : decode cX5_windows 136 = .ok (.getfield 7, 3) := fo_180 (fw_get da_cX5_windows_3 12 rfl)
theorem dX5_windows_139 : decode cX5_windows 139 = .ok (.iload 7, 2) := fo_21 (fw_get da_cX5_windows_3 13 rfl)
theorem dX5_windows_141 : decode cX5_windows 141 = .ok (.iaload, 1) := fo_46 (fw_get da_cX5_windows_3 14 rfl)
theorem dX5_windows_142 : decode cX5_windows 142 = .ok (.iload 5, 2) := fo_21 (fw_get da_cX5_windows_3 15 rfl)
theorem dX5_windows_144 : decode cX5_windows 144 = .ok (.if_icmp .le 6, 3) := fo_164 (fw_get da_cX5_windows_3 16 rfl) (by decide +kernel)
theorem dX5_windows_147 : decode cX5_windows 147 = .ok (.goto 16, 3) := fo_167 (fw_get da_cX5_windows_3 17 rfl) (by decide +kernel)
theorem dX5_windows_150 : decode cX5_windows 150 = .ok (.aload_n 0, 1) := fo_42 (fw_get da_cX5_windows_3 18 rfl)
theorem dX5_windows_151 : decode cX5_windows 151 = .ok (.getfield 7, 3) := fo_180 (fw_get da_cX5_windows_3 19 rfl)
def dt_cX5_windows_4 : List (Nat × Nat × Nat × Nat) := [(154, 21, 1, 7), (156, 46, 0, 0), (157, 54, 1, 5), (159, 21, 1, 8), (161, 54, 1, 6), (163, 132, 2, 1793), (166, 167, 2, 65441), (169, 21, 1, 4), (171, 4, 0, 0), (172, 160, 2, 8), (175, 21, 1, 5), (177, 167, 2, 5), (180, 21, 1, 6), (182, 172, 0, 0)]
theorem da_cX5_windows_4 : fw dt_cX5_windows_4 0 cX5_windows.data.toList = true := by decide +kernel
theorem dX5_windows_154 : decode cX5_windows 154 = .ok (.iload 7, 2) := fo_21 (fw_get da_cX5_windows_4 0 rfl)
theorem dX5_windows_156 : decode cX5_windows 156 = .ok (.iaload, 1) := fo_46 (fw_get da_cX5_windows_4 1 rfl)
theorem dX5_windows_157 : decode cX5_windows 157 = .ok (.istore 5, 2) := fo_54 (fw_get da_cX5_windows_4 2 rfl)
theorem dX5_windows_159 : decode cX5_windows 159 = .ok (.iload 8, 2) := fo_21 (fw_get da_cX5_windows_4 3 rfl)
theorem dX5_windows_161 : decode cX5_windows 161 = .ok (.istore 6, 2) := fo_54 (fw_get da_cX5_windows_4 4 rfl)
theorem dX5_windows_163 : decode cX5_windows 163 = .ok (.iinc 7 1, 3) := fo_132 (fw_get da_cX5_windows_4 5 rfl) rfl (by decide +kernel)
theorem dX5_windows_166 : decode cX5_windows 166 = .ok (.goto (-95), 3) := fo_167 (fw_get da_cX5_windows_4 6 rfl) (by decide +kernel)
theorem dX5_windows_169 : decode cX5_windows 169 = .ok (.iload 4, 2) := fo_21 (fw_get da_cX5_windows_4 7 rfl)
theorem dX5_windows_171 : decode cX5_windows 171 = .ok (.iconst 1, 1) := fo_4 (fw_get da_cX5_windows_4 8 rfl)
theorem dX5_windows_172 : decode cX5_windows 172 = .ok (.if_icmp .ne 8, 3) := fo_160 (fw_get da_cX5_windows_4 9 rfl) (by decide +kernel)
theorem dX5_windows_175 : decode cX5_windows 175 = .ok (.iload 5, 2) := fo_21 (fw_get da_cX5_windows_4 10 rfl)
theorem dX5_windows_177 : decode cX5_windows 177 = .ok (.goto 5, 3) := fo_167 (fw_get da_cX5_windows_4 11 rfl) (by decide +kernel)
theorem dX5_windows_180 : decode cX5_windows 180 = .ok (.iload 6, 2) := fo_21 (fw_get da_cX5_windows_4 12 rfl)
theorem dX5_windows_182 : decode cX5_windows 182 = .ok (.ireturn, 1) := fo_172 (fw_get da_cX5_windows_4 13 rfl)
set_option maxRecDepth 20000 in
theorem ggX5_needs_X5_isValue : GoodIn wsX5_needs wsX5_isValue := goodIn_r _ [5, 6, 7, 4, 8] rfl (by decide +kernel)
set_option maxRecDepth 20000 in
theorem gX5_needs_X5_isValue : GoodIn wsX5_needs (va_wsS RX5 132 yX5_isValue wsX5_isValue) := goodIn_app (goodIn_r _ [2, 3, 4] rfl (by decide +kernel)) ggX5_needs_X5_isValue
set_option maxRecDepth 20000 in
theorem ggX5_needs_X5_isRange : GoodIn wsX5_needs wsX5_isRange := goodIn_r _ [12, 13, 22, 23, 24, 25, 26, 27, 28, 29, 30, 31, 32, 33, 34, 35, 36, 37, 38, 39, 40, 41, 42, 43, 44, 45, 46, 47, 48, 49, 50, 51] rfl (by decide +kernel)
set_option maxRecDepth 20000 in
theorem gX5_needs_X5_isRange : GoodIn wsX5_needs (wsV RX5 142 RX5 yX5_isRange wsX5_isRange) := goodIn_app (goodIn_r _ [9, 10, 11, 4] rfl (by decide +kernel)) ggX5_needs_X5_isRange
set_option maxRecDepth 20000 in
theorem ggX5_needs_X5_isShare : GoodIn wsX5_needs wsX5_isShare := goodIn_r _ [16, 6, 7, 4, 8] rfl (by decide +kernel)
set_option maxRecDepth 20000 in
theorem gX5_needs_X5_isShare : GoodIn wsX5_needs (va_wsS RX5 184 yX5_isShare wsX5_isShare) := goodIn_app (goodIn_r _ [14, 15, 4] rfl (by decide +kernel)) ggX5_needs_X5_isShare
set_option maxRecDepth 20000 in
theorem ggX5_needs_X5_times : GoodIn wsX5_needs wsX5_times := goodIn_r _ [20, 21, 22, 23, 24, 25, 26, 27, 28, 29, 30, 31, 32, 33, 34, 35, 36, 37, 38, 39, 40, 41, 42, 43, 44, 45, 46, 47, 48, 49, 50, 51] rfl (by decide +kernel)
set_option maxRecDepth 20000 in
theorem gX5_needs_X5_times : GoodIn wsX5_needs (wsV RX5 149 RX5 yX5_times wsX5_times) := goodIn_app (goodIn_r _ [17, 18, 19, 4] rfl (by decide +kernel)) ggX5_needs_X5_times
def dt_cX5_needs_0 : List (Nat × Nat × Nat × Nat) := [(0, 42, 0, 0), (1, 3, 0, 0), (2, 181, 2, 77), (5, 27, 0, 0), (6, 184, 2, 132), (9, 153, 2, 22), (12, 42, 0, 0), (13, 28, 0, 0), (14, 29, 0, 0), (15, 182, 2, 142), (18, 153, 2, 13), (21, 21, 1, 4), (23, 21, 1, 5), (25, 184, 2, 184), (28, 154, 2, 5), (31, 2, 0, 0), (32, 172, 0, 0), (33, 42, 0, 0), (34, 27, 0, 0), (35, 28, 0, 0)]
theorem da_cX5_needs_0 : fw dt_cX5_needs_0 0 cX5_needs.data.toList = true := by decide +kernel
theorem dX5_needs_0 : decode cX5_needs 0 = .ok (.aload_n 0, 1) := fo_42 (fw_get da_cX5_needs_0 0 rfl)
theorem dX5_needs_1 : decode cX5_needs 1 = .ok (.iconst 0, 1) := fo_3 (fw_get da_cX5_needs_0 1 rfl)
theorem dX5_needs_2 : decode cX5_needs 2 = .ok (.putfield 77, 3) := fo_181 (fw_get da_cX5_needs_0 2 rfl)
theorem dX5_needs_5 : decode cX5_needs 5 = .ok (.iload_n 1, 1) := fo_27 (fw_get da_cX5_needs_0 3 rfl)
theorem dX5_needs_6 : decode cX5_needs 6 = .ok (.invokestatic 132, 3) := fo_184 (fw_get da_cX5_needs_0 4 rfl)
theorem dX5_needs_9 : decode cX5_needs 9 = .ok (.ifCond .eq 22, 3) := fo_153 (fw_get da_cX5_needs_0 5 rfl) (by decide +kernel)
theorem dX5_needs_12 : decode cX5_needs 12 = .ok (.aload_n 0, 1) := fo_42 (fw_get da_cX5_needs_0 6 rfl)
theorem dX5_needs_13 : decode cX5_needs 13 = .ok (.iload_n 2, 1) := fo_28 (fw_get da_cX5_needs_0 7 rfl)
theorem dX5_needs_14 : decode cX5_needs 14 = .ok (.iload_n 3, 1) := fo_29 (fw_get da_cX5_needs_0 8 rfl)
theorem dX5_needs_15 : decode cX5_needs 15 = .ok (.invokevirtual 142, 3) := fo_182 (fw_get da_cX5_needs_0 9 rfl)
theorem dX5_needs_18 : decode cX5_needs 18 = .ok (.ifCond .eq 13, 3) := fo_153 (fw_get da_cX5_needs_0 10 rfl) (by decide +kernel)
theorem dX5_needs_21 : decode cX5_needs 21 = .ok (.iload 4, 2) := fo_21 (fw_get da_cX5_needs_0 11 rfl)
theorem dX5_needs_23 : decode cX5_needs 23 = .ok (.iload 5, 2) := fo_21 (fw_get da_cX5_needs_0 12 rfl)
theorem dX5_needs_25 : decode cX5_needs 25 = .ok (.invokestatic 184, 3) := fo_184 (fw_get da_cX5_needs_0 13 rfl)
theorem dX5_needs_28 : decode cX5_needs 28 = .ok (.ifCond .ne 5, 3) := fo_154 (fw_get da_cX5_needs_0 14 rfl) (by decide +kernel)
theorem dX5_needs_31 : decode cX5_needs 31 = .ok (.iconst (-1), 1) := fo_2 (fw_get da_cX5_needs_0 15 rfl)
theorem dX5_needs_32 : decode cX5_needs 32 = .ok (.ireturn, 1) := fo_172 (fw_get da_cX5_needs_0 16 rfl)
theorem dX5_needs_33 : decode cX5_needs 33 = .ok (.aload_n 0, 1) := fo_42 (fw_get da_cX5_needs_0 17 rfl)
theorem dX5_needs_34 : decode cX5_needs 34 = .ok (.iload_n 1, 1) := fo_27 (fw_get da_cX5_needs_0 18 rfl)
theorem dX5_needs_35 : decode cX5_needs 35 = .ok (.iload_n 2, 1) := fo_28 (fw_get da_cX5_needs_0 19 rfl)
def dt_cX5_needs_1 : List (Nat × Nat × Nat × Nat) := [(36, 29, 0, 0), (37, 182, 2, 149), (40, 54, 1, 6), (42, 3, 0, 0), (43, 54, 1, 7), (45, 21, 1, 6), (47, 21, 1, 7), (49, 96, 0, 0), (50, 29, 0, 0), (51, 28, 0, 0), (52, 100, 0, 0), (53, 163, 2, 29), (56, 21, 1, 6), (58, 21, 1, 7), (60, 96, 0, 0), (61, 21, 1, 5), (63, 104, 0, 0), (64, 21, 1, 4), (66, 29, 0, 0), (67, 28, 0, 0)]
theorem da_cX5_needs_1 : fw dt_cX5_needs_1 0 cX5_needs.data.toList = true := by decide +kernel
theorem dX5_needs_36 : decode cX5_needs 36 = .ok (.iload_n 3, 1) := fo_29 (fw_get da_cX5_needs_1 0 rfl)
theorem dX5_needs_37 : decode cX5_needs 37 = .ok (.invokevirtual 149, 3) := fo_182 (fw_get da_cX5_needs_1 1 rfl)
theorem dX5_needs_40 : decode cX5_needs 40 = .ok (.istore 6, 2) := fo_54 (fw_get da_cX5_needs_1 2 rfl)
theorem dX5_needs_42 : decode cX5_needs 42 = .ok (.iconst 0, 1) := fo_3 (fw_get da_cX5_needs_1 3 rfl)
theorem dX5_needs_43 : decode cX5_needs 43 = .ok (.istore 7, 2) := fo_54 (fw_get da_cX5_needs_1 4 rfl)
theorem dX5_needs_45 : decode cX5_needs 45 = .ok (.iload 6, 2) := fo_21 (fw_get da_cX5_needs_1 5 rfl)
theorem dX5_needs_47 : decode cX5_needs 47 = .ok (.iload 7, 2) := fo_21 (fw_get da_cX5_needs_1 6 rfl)
theorem dX5_needs_49 : decode cX5_needs 49 = .ok (.iadd, 1) := fo_96 (fw_get da_cX5_needs_1 7 rfl)
theorem dX5_needs_50 : decode cX5_needs 50 = .ok (.iload_n 3, 1) := fo_29 (fw_get da_cX5_needs_1 8 rfl)
theorem dX5_needs_51 : decode cX5_needs 51 = .ok (.iload_n 2, 1) := fo_28 (fw_get da_cX5_needs_1 9 rfl)
theorem dX5_needs_52 : decode cX5_needs 52 = .ok (.isub, 1) := fo_100 (fw_get da_cX5_needs_1 10 rfl)
theorem dX5_needs_53 : decode cX5_needs 53 = .ok (.if_icmp .gt 29, 3) := fo_163 (fw_get da_cX5_needs_1 11 rfl) (by decide +kernel)
theorem dX5_needs_56 : decode cX5_needs 56 = .ok (.iload 6, 2) := fo_21 (fw_get da_cX5_needs_1 12 rfl)
theorem dX5_needs_58 : decode cX5_needs 58 = .ok (.iload 7, 2) := fo_21 (fw_get da_cX5_needs_1 13 rfl)
theorem dX5_needs_60 : decode cX5_needs 60 = .ok (.iadd, 1) := fo_96 (fw_get da_cX5_needs_1 14 rfl)
theorem dX5_needs_61 : decode cX5_needs 61 = .ok (.iload 5, 2) := fo_21 (fw_get da_cX5_needs_1 15 rfl)
theorem dX5_needs_63 : decode cX5_needs 63 = .ok (.imul, 1) := fo_104 (fw_get da_cX5_needs_1 16 rfl)
theorem dX5_needs_64 : decode cX5_needs 64 = .ok (.iload 4, 2) := fo_21 (fw_get da_cX5_needs_1 17 rfl)
theorem dX5_needs_66 : decode cX5_needs 66 = .ok (.iload_n 3, 1) := fo_29 (fw_get da_cX5_needs_1 18 rfl)
theorem dX5_needs_67 : decode cX5_needs 67 = .ok (.iload_n 2, 1) := fo_28 (fw_get da_cX5_needs_1 19 rfl)
def dt_cX5_needs_2 : List (Nat × Nat × Nat × Nat) := [(68, 100, 0, 0), (69, 104, 0, 0), (70, 164, 2, 6), (73, 21, 1, 7), (75, 172, 0, 0), (76, 132, 2, 1793), (79, 167, 2, 65502), (82, 16, 1, 254), (84, 172, 0, 0)]
theorem da_cX5_needs_2 : fw dt_cX5_needs_2 0 cX5_needs.data.toList = true := by decide +kernel
theorem dX5_needs_68 : decode cX5_needs 68 = .ok (.isub, 1) := fo_100 (fw_get da_cX5_needs_2 0 rfl)
theorem dX5_needs_69 : decode cX5_needs 69 = .ok (.imul, 1) := fo_104 (fw_get da_cX5_needs_2 1 rfl)
theorem dX5_needs_70 : decode cX5_needs 70 = .ok (.if_icmp .le 6, 3) := fo_164 (fw_get da_cX5_needs_2 2 rfl) (by decide +kernel)
theorem dX5_needs_73 : decode cX5_needs 73 = .ok (.iload 7, 2) := fo_21 (fw_get da_cX5_needs_2 3 rfl)
theorem dX5_needs_75 : decode cX5_needs 75 = .ok (.ireturn, 1) := fo_172 (fw_get da_cX5_needs_2 4 rfl)
theorem dX5_needs_76 : decode cX5_needs 76 = .ok (.iinc 7 1, 3) := fo_132 (fw_get da_cX5_needs_2 5 rfl) rfl (by decide +kernel)
theorem dX5_needs_79 : decode cX5_needs 79 = .ok (.goto (-34), 3) := fo_167 (fw_get da_cX5_needs_2 6 rfl) (by decide +kernel)
theorem dX5_needs_82 : decode cX5_needs 82 = .ok (.bipush (-2), 2) := fo_16 (fw_get da_cX5_needs_2 7 rfl) (by decide +kernel)
theorem dX5_needs_84 : decode cX5_needs 84 = .ok (.ireturn, 1) := fo_172 (fw_get da_cX5_needs_2 8 rfl)

