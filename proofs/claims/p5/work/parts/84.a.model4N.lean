abbrev cX5_windowsOf : ByteArray := prog_7_method_73_code
def yX5_windowsOf : MethodName := ⟨RX5, "windowsOf", "(IIII)I"⟩
abbrev cX5_anyWindows : ByteArray := prog_7_method_74_code
def yX5_anyWindows : MethodName := ⟨RX5, "anyWindows", "(III)I"⟩
abbrev cX5_windows : ByteArray := prog_7_method_75_code
def yX5_windows : MethodName := ⟨RX5, "windows", "(IIII)I"⟩
abbrev cX5_needs : ByteArray := prog_7_method_76_code
def yX5_needs : MethodName := ⟨RX5, "needs", "(IIIII)I"⟩
def wsX5_windowsOf : List Cond := .code yX5_windowsOf cX5_windowsOf 8 (some .int) :: ([.fieldLink RX5 84 "MajorityIndexModel" "n" "I", .fieldLink RX5 7 "MajorityIndexModel" "row" "[I", .methodLink RX5 149 yX5_times, .instanceMethod yX5_times, .selects RX5 yX5_times yX5_times, .initialized RX5, .code yX5_times cX5_times 6 (some .int)] ++ wsX50)
def wsX5_anyWindows : List Cond := .code yX5_anyWindows cX5_anyWindows 8 (some .int) :: ([.fieldLink RX5 84 "MajorityIndexModel" "n" "I", .fieldLink RX5 7 "MajorityIndexModel" "row" "[I", .methodLink RX5 149 yX5_times, .instanceMethod yX5_times, .selects RX5 yX5_times yX5_times, .initialized RX5, .code yX5_times cX5_times 6 (some .int)] ++ wsX50)
def wsX5_windows : List Cond := .code yX5_windows cX5_windows 9 (some .int) :: ([.fieldLink RX5 77 "MajorityIndexModel" "thrown" "I", .fieldLink RX5 84 "MajorityIndexModel" "n" "I", .constant RX5 148 (-40000), .fieldLink RX5 7 "MajorityIndexModel" "row" "[I", .methodLink RX5 80 yX5_within, .static yX5_within, .initialized RX5, .code yX5_within cX5_within 3 (some .boolean), .methodLink RX5 184 yX5_isShare, .static yX5_isShare, .code yX5_isShare cX5_isShare 2 (some .boolean), .methodLink RX5 213 yX5_anyWindows, .instanceMethod yX5_anyWindows, .selects RX5 yX5_anyWindows yX5_anyWindows, .code yX5_anyWindows cX5_anyWindows 8 (some .int), .methodLink RX5 149 yX5_times, .instanceMethod yX5_times, .selects RX5 yX5_times yX5_times, .code yX5_times cX5_times 6 (some .int), .methodLink RX5 216 yX5_windowsOf, .instanceMethod yX5_windowsOf, .selects RX5 yX5_windowsOf yX5_windowsOf, .code yX5_windowsOf cX5_windowsOf 8 (some .int)] ++ wsX50)
def wsX5_needs : List Cond := .code yX5_needs cX5_needs 8 (some .int) :: ([.fieldLink RX5 77 "MajorityIndexModel" "thrown" "I", .methodLink RX5 132 yX5_isValue, .static yX5_isValue, .initialized RX5, .code yX5_isValue cX5_isValue 1 (some .boolean), .methodLink RX5 80 yX5_within, .static yX5_within, .code yX5_within cX5_within 3 (some .boolean), .methodLink RX5 142 yX5_isRange, .instanceMethod yX5_isRange, .selects RX5 yX5_isRange yX5_isRange, .code yX5_isRange cX5_isRange 3 (some .boolean), .fieldLink RX5 84 "MajorityIndexModel" "n" "I", .methodLink RX5 184 yX5_isShare, .static yX5_isShare, .code yX5_isShare cX5_isShare 2 (some .boolean), .methodLink RX5 149 yX5_times, .instanceMethod yX5_times, .selects RX5 yX5_times yX5_times, .code yX5_times cX5_times 6 (some .int), .fieldLink RX5 7 "MajorityIndexModel" "row" "[I"] ++ wsX50)
set_option maxRecDepth 20000 in
theorem ggX5_windowsOf_X5_times : GoodIn wsX5_windowsOf wsX5_times := goodIn_r _ [7, 2, 8, 9, 10, 11, 12, 13, 14, 15, 16, 17, 18, 19, 20, 21, 22, 23, 24, 25, 26, 27, 28, 29, 30, 31, 32, 33, 34, 35, 36, 37] rfl (by decide +kernel)
set_option maxRecDepth 20000 in
theorem gX5_windowsOf_X5_times : GoodIn wsX5_windowsOf (wsV RX5 149 RX5 yX5_times wsX5_times) := goodIn_app (goodIn_r _ [3, 4, 5, 6] rfl (by decide +kernel)) ggX5_windowsOf_X5_times
def dt_cX5_windowsOf_0 : List (Nat × Instr × Nat) := [(0, .iconst 0, 1), (1, .istore 5, 2), (3, .aload_n 0, 1), (4, .iload_n 1, 1), (5, .iconst 0, 1), (6, .iload_n 2, 1), (7, .iconst 1, 1), (8, .isub, 1), (9, .invokevirtual 149, 3), (12, .istore 6, 2), (14, .iconst 0, 1), (15, .istore 7, 2), (17, .iload 7, 2), (19, .iload_n 2, 1), (20, .iadd, 1), (21, .aload_n 0, 1), (22, .getfield 84, 3), (25, .if_icmp .gt 55, 3), (28, .aload_n 0, 1), (29, .getfield 7, 3), (32, .iload 7, 2), (34, .iload_n 2, 1), (35, .iadd, 1), (36, .iconst 1, 1), (37, .isub, 1), (38, .iaload, 1), (39, .iload_n 1, 1), (40, .if_icmp .ne 6, 3), (43, .iinc 6 1, 3), (46, .iload 6, 2), (48, .iload 4, 2), (50, .imul, 1), (51, .iload_n 3, 1), (52, .iload_n 2, 1), (53, .imul, 1), (54, .if_icmp .le 6, 3), (57, .iinc 5 1, 3), (60, .aload_n 0, 1), (61, .getfield 7, 3), (64, .iload 7, 2), (66, .iaload, 1), (67, .iload_n 1, 1), (68, .if_icmp .ne 6, 3), (71, .iinc 6 (-1), 3), (74, .iinc 7 1, 3), (77, .goto (-60), 3), (80, .iload 5, 2), (82, .ireturn, 1)]
theorem da_cX5_windowsOf_0 : dk_all cX5_windowsOf dt_cX5_windowsOf_0 = true := by decide +kernel
theorem dX5_windowsOf_0 : decode cX5_windowsOf 0 = .ok (.iconst 0, 1) := dk_get _ da_cX5_windowsOf_0 0 _ _ _ rfl
theorem dX5_windowsOf_1 : decode cX5_windowsOf 1 = .ok (.istore 5, 2) := dk_get _ da_cX5_windowsOf_0 1 _ _ _ rfl
theorem dX5_windowsOf_3 : decode cX5_windowsOf 3 = .ok (.aload_n 0, 1) := dk_get _ da_cX5_windowsOf_0 2 _ _ _ rfl
theorem dX5_windowsOf_4 : decode cX5_windowsOf 4 = .ok (.iload_n 1, 1) := dk_get _ da_cX5_windowsOf_0 3 _ _ _ rfl
theorem dX5_windowsOf_5 : decode cX5_windowsOf 5 = .ok (.iconst 0, 1) := dk_get _ da_cX5_windowsOf_0 4 _ _ _ rfl
theorem dX5_windowsOf_6 : decode cX5_windowsOf 6 = .ok (.iload_n 2, 1) := dk_get _ da_cX5_windowsOf_0 5 _ _ _ rfl
theorem dX5_windowsOf_7 : decode cX5_windowsOf 7 = .ok (.iconst 1, 1) := dk_get _ da_cX5_windowsOf_0 6 _ _ _ rfl
theorem dX5_windowsOf_8 : decode cX5_windowsOf 8 = .ok (.isub, 1) := dk_get _ da_cX5_windowsOf_0 7 _ _ _ rfl
theorem dX5_windowsOf_9 : decode cX5_windowsOf 9 = .ok (.invokevirtual 149, 3) := dk_get _ da_cX5_windowsOf_0 8 _ _ _ rfl
theorem dX5_windowsOf_12 : decode cX5_windowsOf 12 = .ok (.istore 6, 2) := dk_get _ da_cX5_windowsOf_0 9 _ _ _ rfl
theorem dX5_windowsOf_14 : decode cX5_windowsOf 14 = .ok (.iconst 0, 1) := dk_get _ da_cX5_windowsOf_0 10 _ _ _ rfl
theorem dX5_windowsOf_15 : decode cX5_windowsOf 15 = .ok (.istore 7, 2) := dk_get _ da_cX5_windowsOf_0 11 _ _ _ rfl
theorem dX5_windowsOf_17 : decode cX5_windowsOf 17 = .ok (.iload 7, 2) := dk_get _ da_cX5_windowsOf_0 12 _ _ _ rfl
theorem dX5_windowsOf_19 : decode cX5_windowsOf 19 = .ok (.iload_n 2, 1) := dk_get _ da_cX5_windowsOf_0 13 _ _ _ rfl
theorem dX5_windowsOf_20 : decode cX5_windowsOf 20 = .ok (.iadd, 1) := dk_get _ da_cX5_windowsOf_0 14 _ _ _ rfl
theorem dX5_windowsOf_21 : decode cX5_windowsOf 21 = .ok (.aload_n 0, 1) := dk_get _ da_cX5_windowsOf_0 15 _ _ _ rfl
theorem dX5_windowsOf_22 : decode cX5_windowsOf 22 = .ok (.getfield 84, 3) := dk_get _ da_cX5_windowsOf_0 16 _ _ _ rfl
theorem dX5_windowsOf_25 : decode cX5_windowsOf 25 = .ok (.if_icmp .gt 55, 3) := dk_get _ da_cX5_windowsOf_0 17 _ _ _ rfl
theorem dX5_windowsOf_28 : decode cX5_windowsOf 28 = .ok (.aload_n 0, 1) := dk_get _ da_cX5_windowsOf_0 18 _ _ _ rfl
theorem dX5_windowsOf_29 : decode cX5_windowsOf 29 = .ok (.getfield 7, 3) := dk_get _ da_cX5_windowsOf_0 19 _ _ _ rfl
theorem dX5_windowsOf_32 : decode cX5_windowsOf 32 = .ok (.iload 7, 2) := dk_get _ da_cX5_windowsOf_0 20 _ _ _ rfl
theorem dX5_windowsOf_34 : decode cX5_windowsOf 34 = .ok (.iload_n 2, 1) := dk_get _ da_cX5_windowsOf_0 21 _ _ _ rfl
theorem dX5_windowsOf_35 : decode cX5_windowsOf 35 = .ok (.iadd, 1) := dk_get _ da_cX5_windowsOf_0 22 _ _ _ rfl
theorem dX5_windowsOf_36 : decode cX5_windowsOf 36 = .ok (.iconst 1, 1) := dk_get _ da_cX5_windowsOf_0 23 _ _ _ rfl
theorem dX5_windowsOf_37 : decode cX5_windowsOf 37 = .ok (.isub, 1) := dk_get _ da_cX5_windowsOf_0 24 _ _ _ rfl
theorem dX5_windowsOf_38 : decode cX5_windowsOf 38 = .ok (.iaload, 1) := dk_get _ da_cX5_windowsOf_0 25 _ _ _ rfl
theorem dX5_windowsOf_39 : decode cX5_windowsOf 39 = .ok (.iload_n 1, 1) := dk_get _ da_cX5_windowsOf_0 26 _ _ _ rfl
theorem dX5_windowsOf_40 : decode cX5_windowsOf 40 = .ok (.if_icmp .ne 6, 3) := dk_get _ da_cX5_windowsOf_0 27 _ _ _ rfl
theorem dX5_windowsOf_43 : decode cX5_windowsOf 43 = .ok (.iinc 6 1, 3) := dk_get _ da_cX5_windowsOf_0 28 _ _ _ rfl
theorem dX5_windowsOf_46 : decode cX5_windowsOf 46 = .ok (.iload 6, 2) := dk_get _ da_cX5_windowsOf_0 29 _ _ _ rfl
theorem dX5_windowsOf_48 : decode cX5_windowsOf 48 = .ok (.iload 4, 2) := dk_get _ da_cX5_windowsOf_0 30 _ _ _ rfl
theorem dX5_windowsOf_50 : decode cX5_windowsOf 50 = .ok (.imul, 1) := dk_get _ da_cX5_windowsOf_0 31 _ _ _ rfl
theorem dX5_windowsOf_51 : decode cX5_windowsOf 51 = .ok (.iload_n 3, 1) := dk_get _ da_cX5_windowsOf_0 32 _ _ _ rfl
theorem dX5_windowsOf_52 : decode cX5_windowsOf 52 = .ok (.iload_n 2, 1) := dk_get _ da_cX5_windowsOf_0 33 _ _ _ rfl
theorem dX5_windowsOf_53 : decode cX5_windowsOf 53 = .ok (.imul, 1) := dk_get _ da_cX5_windowsOf_0 34 _ _ _ rfl
theorem dX5_windowsOf_54 : decode cX5_windowsOf 54 = .ok (.if_icmp .le 6, 3) := dk_get _ da_cX5_windowsOf_0 35 _ _ _ rfl
theorem dX5_windowsOf_57 : decode cX5_windowsOf 57 = .ok (.iinc 5 1, 3) := dk_get _ da_cX5_windowsOf_0 36 _ _ _ rfl
theorem dX5_windowsOf_60 : decode cX5_windowsOf 60 = .ok (.aload_n 0, 1) := dk_get _ da_cX5_windowsOf_0 37 _ _ _ rfl
theorem dX5_windowsOf_61 : decode cX5_windowsOf 61 = .ok (.getfield 7, 3) := dk_get _ da_cX5_windowsOf_0 38 _ _ _ rfl
theorem dX5_windowsOf_64 : decode cX5_windowsOf 64 = .ok (.iload 7, 2) := dk_get _ da_cX5_windowsOf_0 39 _ _ _ rfl
theorem dX5_windowsOf_66 : decode cX5_windowsOf 66 = .ok (.iaload, 1) := dk_get _ da_cX5_windowsOf_0 40 _ _ _ rfl
theorem dX5_windowsOf_67 : decode cX5_windowsOf 67 = .ok (.iload_n 1, 1) := dk_get _ da_cX5_windowsOf_0 41 _ _ _ rfl
theorem dX5_windowsOf_68 : decode cX5_windowsOf 68 = .ok (.if_icmp .ne 6, 3) := dk_get _ da_cX5_windowsOf_0 42 _ _ _ rfl
theorem dX5_windowsOf_71 : decode cX5_windowsOf 71 = .ok (.iinc 6 (-1), 3) := dk_get _ da_cX5_windowsOf_0 43 _ _ _ rfl
theorem dX5_windowsOf_74 : decode cX5_windowsOf 74 = .ok (.iinc 7 1, 3) := dk_get _ da_cX5_windowsOf_0 44 _ _ _ rfl
theorem dX5_windowsOf_77 : decode cX5_windowsOf 77 = .ok (.goto (-60), 3) := dk_get _ da_cX5_windowsOf_0 45 _ _ _ rfl
theorem dX5_windowsOf_80 : decode cX5_windowsOf 80 = .ok (.iload 5, 2) := dk_get _ da_cX5_windowsOf_0 46 _ _ _ rfl
theorem dX5_windowsOf_82 : decode cX5_windowsOf 82 = .ok (.ireturn, 1) := dk_get _ da_cX5_windowsOf_0 47 _ _ _ rfl
set_option maxRecDepth 20000 in
theorem ggX5_anyWindows_X5_times : GoodIn wsX5_anyWindows wsX5_times := goodIn_r _ [7, 2, 8, 9, 10, 11, 12, 13, 14, 15, 16, 17, 18, 19, 20, 21, 22, 23, 24, 25, 26, 27, 28, 29, 30, 31, 32, 33, 34, 35, 36, 37] rfl (by decide +kernel)
set_option maxRecDepth 20000 in
theorem gX5_anyWindows_X5_times : GoodIn wsX5_anyWindows (wsV RX5 149 RX5 yX5_times wsX5_times) := goodIn_app (goodIn_r _ [3, 4, 5, 6] rfl (by decide +kernel)) ggX5_anyWindows_X5_times
def dt_cX5_anyWindows_0 : List (Nat × Instr × Nat) := [(0, .iconst 0, 1), (1, .istore 4, 2), (3, .iconst 0, 1), (4, .istore 5, 2), (6, .iload 5, 2), (8, .iload_n 1, 1), (9, .iadd, 1), (10, .aload_n 0, 1), (11, .getfield 84, 3), (14, .if_icmp .gt 76, 3), (17, .iconst 0, 1), (18, .istore 6, 2), (20, .iload 5, 2), (22, .istore 7, 2), (24, .iload 7, 2), (26, .iload 5, 2), (28, .iload_n 1, 1), (29, .iadd, 1), (30, .if_icmp .ge 46, 3), (33, .iload 6, 2), (35, .ifCond .ne 41, 3), (38, .aload_n 0, 1), (39, .aload_n 0, 1), (40, .getfield 7, 3), (43, .iload 7, 2), (45, .iaload, 1), (46, .iload 5, 2), (48, .iload 5, 2), (50, .iload_n 1, 1), (51, .iadd, 1), (52, .invokevirtual 149, 3), (55, .iload_n 3, 1), (56, .imul, 1), (57, .iload_n 2, 1), (58, .iload_n 1, 1), (59, .imul, 1), (60, .if_icmp .le 7, 3), (63, .iconst 1, 1), (64, .goto 4, 3), (67, .iconst 0, 1), (68, .istore 6, 2), (70, .iinc 7 1, 3), (73, .goto (-49), 3), (76, .iload 6, 2), (78, .ifCond .eq 6, 3), (81, .iinc 4 1, 3), (84, .iinc 5 1, 3), (87, .goto (-81), 3), (90, .iload 4, 2), (92, .ireturn, 1)]
theorem da_cX5_anyWindows_0 : dk_all cX5_anyWindows dt_cX5_anyWindows_0 = true := by decide +kernel
theorem dX5_anyWindows_0 : decode cX5_anyWindows 0 = .ok (.iconst 0, 1) := dk_get _ da_cX5_anyWindows_0 0 _ _ _ rfl
theorem dX5_anyWindows_1 : decode cX5_anyWindows 1 = .ok (.istore 4, 2) := dk_get _ da_cX5_anyWindows_0 1 _ _ _ rfl
theorem dX5_anyWindows_3 : decode cX5_anyWindows 3 = .ok (.iconst 0, 1) := dk_get _ da_cX5_anyWindows_0 2 _ _ _ rfl
theorem dX5_anyWindows_4 : decode cX5_anyWindows 4 = .ok (.istore 5, 2) := dk_get _ da_cX5_anyWindows_0 3 _ _ _ rfl
theorem dX5_anyWindows_6 : decode cX5_anyWindows 6 = .ok (.iload 5, 2) := dk_get _ da_cX5_anyWindows_0 4 _ _ _ rfl
theorem dX5_anyWindows_8 : decode cX5_anyWindows 8 = .ok (.iload_n 1, 1) := dk_get _ da_cX5_anyWindows_0 5 _ _ _ rfl
theorem dX5_anyWindows_9 : decode cX5_anyWindows 9 = .ok (.iadd, 1) := dk_get _ da_cX5_anyWindows_0 6 _ _ _ rfl
theorem dX5_anyWindows_10 : decode cX5_anyWindows 10 = .ok (.aload_n 0, 1) := dk_get _ da_cX5_anyWindows_0 7 _ _ _ rfl
theorem dX5_anyWindows_11 : decode cX5_anyWindows 11 = .ok (.getfield 84, 3) := dk_get _ da_cX5_anyWindows_0 8 _ _ _ rfl
theorem dX5_anyWindows_14 : decode cX5_anyWindows 14 = .ok (.if_icmp .gt 76, 3) := dk_get _ da_cX5_anyWindows_0 9 _ _ _ rfl
theorem dX5_anyWindows_17 : decode cX5_anyWindows 17 = .ok (.iconst 0, 1) := dk_get _ da_cX5_anyWindows_0 10 _ _ _ rfl
theorem dX5_anyWindows_18 : decode cX5_anyWindows 18 = .ok (.istore 6, 2) := dk_get _ da_cX5_anyWindows_0 11 _ _ _ rfl
theorem dX5_anyWindows_20 : decode cX5_anyWindows 20 = .ok (.iload 5, 2) := dk_get _ da_cX5_anyWindows_0 12 _ _ _ rfl
theorem dX5_anyWindows_22 : decode cX5_anyWindows 22 = .ok (.istore 7, 2) := dk_get _ da_cX5_anyWindows_0 13 _ _ _ rfl
theorem dX5_anyWindows_24 : decode cX5_anyWindows 24 = .ok (.iload 7, 2) := dk_get _ da_cX5_anyWindows_0 14 _ _ _ rfl
theorem dX5_anyWindows_26 : decode cX5_anyWindows 26 = .ok (.iload 5, 2) := dk_get _ da_cX5_anyWindows_0 15 _ _ _ rfl
theorem dX5_anyWindows_28 : decode cX5_anyWindows 28 = .ok (.iload_n 1, 1) := dk_get _ da_cX5_anyWindows_0 16 _ _ _ rfl
theorem dX5_anyWindows_29 : decode cX5_anyWindows 29 = .ok (.iadd, 1) := dk_get _ da_cX5_anyWindows_0 17 _ _ _ rfl
theorem dX5_anyWindows_30 : decode cX5_anyWindows 30 = .ok (.if_icmp .ge 46, 3) := dk_get _ da_cX5_anyWindows_0 18 _ _ _ rfl
theorem dX5_anyWindows_33 : decode cX5_anyWindows 33 = .ok (.iload 6, 2) := dk_get _ da_cX5_anyWindows_0 19 _ _ _ rfl
theorem dX5_anyWindows_35 : decode cX5_anyWindows 35 = .ok (.ifCond .ne 41, 3) := dk_get _ da_cX5_anyWindows_0 20 _ _ _ rfl
theorem dX5_anyWindows_38 : decode cX5_anyWindows 38 = .ok (.aload_n 0, 1) := dk_get _ da_cX5_anyWindows_0 21 _ _ _ rfl
theorem dX5_anyWindows_39 : decode cX5_anyWindows 39 = .ok (.aload_n 0, 1) := dk_get _ da_cX5_anyWindows_0 22 _ _ _ rfl
theorem dX5_anyWindows_40 : decode cX5_anyWindows 40 = .ok (.getfield 7, 3) := dk_get _ da_cX5_anyWindows_0 23 _ _ _ rfl
theorem dX5_anyWindows_43 : decode cX5_anyWindows 43 = .ok (.iload 7, 2) := dk_get _ da_cX5_anyWindows_0 24 _ _ _ rfl
theorem dX5_anyWindows_45 : decode cX5_anyWindows 45 = .ok (.iaload, 1) := dk_get _ da_cX5_anyWindows_0 25 _ _ _ rfl
theorem dX5_anyWindows_46 : decode cX5_anyWindows 46 = .ok (.iload 5, 2) := dk_get _ da_cX5_anyWindows_0 26 _ _ _ rfl
theorem dX5_anyWindows_48 : decode cX5_anyWindows 48 = .ok (.iload 5, 2) := dk_get _ da_cX5_anyWindows_0 27 _ _ _ rfl
theorem dX5_anyWindows_50 : decode cX5_anyWindows 50 = .ok (.iload_n 1, 1) := dk_get _ da_cX5_anyWindows_0 28 _ _ _ rfl
theorem dX5_anyWindows_51 : decode cX5_anyWindows 51 = .ok (.iadd, 1) := dk_get _ da_cX5_anyWindows_0 29 _ _ _ rfl
theorem dX5_anyWindows_52 : decode cX5_anyWindows 52 = .ok (.invokevirtual 149, 3) := dk_get _ da_cX5_anyWindows_0 30 _ _ _ rfl
theorem dX5_anyWindows_55 : decode cX5_anyWindows 55 = .ok (.iload_n 3, 1) := dk_get _ da_cX5_anyWindows_0 31 _ _ _ rfl
theorem dX5_anyWindows_56 : decode cX5_anyWindows 56 = .ok (.imul, 1) := dk_get _ da_cX5_anyWindows_0 32 _ _ _ rfl
theorem dX5_anyWindows_57 : decode cX5_anyWindows 57 = .ok (.iload_n 2, 1) := dk_get _ da_cX5_anyWindows_0 33 _ _ _ rfl
theorem dX5_anyWindows_58 : decode cX5_anyWindows 58 = .ok (.iload_n 1, 1) := dk_get _ da_cX5_anyWindows_0 34 _ _ _ rfl
theorem dX5_anyWindows_59 : decode cX5_anyWindows 59 = .ok (.imul, 1) := dk_get _ da_cX5_anyWindows_0 35 _ _ _ rfl
theorem dX5_anyWindows_60 : decode cX5_anyWindows 60 = .ok (.if_icmp .le 7, 3) := dk_get _ da_cX5_anyWindows_0 36 _ _ _ rfl
theorem dX5_anyWindows_63 : decode cX5_anyWindows 63 = .ok (.iconst 1, 1) := dk_get _ da_cX5_anyWindows_0 37 _ _ _ rfl
theorem dX5_anyWindows_64 : decode cX5_anyWindows 64 = .ok (.goto 4, 3) := dk_get _ da_cX5_anyWindows_0 38 _ _ _ rfl
theorem dX5_anyWindows_67 : decode cX5_anyWindows 67 = .ok (.iconst 0, 1) := dk_get _ da_cX5_anyWindows_0 39 _ _ _ rfl
theorem dX5_anyWindows_68 : decode cX5_anyWindows 68 = .ok (.istore 6, 2) := dk_get _ da_cX5_anyWindows_0 40 _ _ _ rfl
theorem dX5_anyWindows_70 : decode cX5_anyWindows 70 = .ok (.iinc 7 1, 3) := dk_get _ da_cX5_anyWindows_0 41 _ _ _ rfl
theorem dX5_anyWindows_73 : decode cX5_anyWindows 73 = .ok (.goto (-49), 3) := dk_get _ da_cX5_anyWindows_0 42 _ _ _ rfl
theorem dX5_anyWindows_76 : decode cX5_anyWindows 76 = .ok (.iload 6, 2) := dk_get _ da_cX5_anyWindows_0 43 _ _ _ rfl
theorem dX5_anyWindows_78 : decode cX5_anyWindows 78 = .ok (.ifCond .eq 6, 3) := dk_get _ da_cX5_anyWindows_0 44 _ _ _ rfl
theorem dX5_anyWindows_81 : decode cX5_anyWindows 81 = .ok (.iinc 4 1, 3) := dk_get _ da_cX5_anyWindows_0 45 _ _ _ rfl
theorem dX5_anyWindows_84 : decode cX5_anyWindows 84 = .ok (.iinc 5 1, 3) := dk_get _ da_cX5_anyWindows_0 46 _ _ _ rfl
theorem dX5_anyWindows_87 : decode cX5_anyWindows 87 = .ok (.goto (-81), 3) := dk_get _ da_cX5_anyWindows_0 47 _ _ _ rfl
theorem dX5_anyWindows_90 : decode cX5_anyWindows 90 = .ok (.iload 4, 2) := dk_get _ da_cX5_anyWindows_0 48 _ _ _ rfl
theorem dX5_anyWindows_92 : decode cX5_anyWindows 92 = .ok (.ireturn, 1) := dk_get _ da_cX5_anyWindows_0 49 _ _ _ rfl
set_option maxRecDepth 20000 in
theorem ggX5_windows_X5_within : GoodIn wsX5_windows wsX5_within := goodIn_r _ [8] rfl (by decide +kernel)
set_option maxRecDepth 20000 in
theorem gX5_windows_X5_within : GoodIn wsX5_windows (va_wsS RX5 80 yX5_within wsX5_within) := goodIn_app (goodIn_r _ [5, 6, 7] rfl (by decide +kernel)) ggX5_windows_X5_within
set_option maxRecDepth 20000 in
theorem ggX5_windows_X5_isShare : GoodIn wsX5_windows wsX5_isShare := goodIn_r _ [11, 5, 6, 7, 8] rfl (by decide +kernel)
set_option maxRecDepth 20000 in
theorem gX5_windows_X5_isShare : GoodIn wsX5_windows (va_wsS RX5 184 yX5_isShare wsX5_isShare) := goodIn_app (goodIn_r _ [9, 10, 7] rfl (by decide +kernel)) ggX5_windows_X5_isShare
set_option maxRecDepth 20000 in
theorem ggX5_windows_X5_anyWindows : GoodIn wsX5_windows wsX5_anyWindows := goodIn_r _ [15, 2, 4, 16, 17, 18, 7, 19, 24, 25, 26, 27, 28, 29, 30, 31, 32, 33, 34, 35, 36, 37, 38, 39, 40, 41, 42, 43, 44, 45, 46, 47, 48, 49, 50, 51, 52, 53] rfl (by decide +kernel)
set_option maxRecDepth 20000 in
theorem gX5_windows_X5_anyWindows : GoodIn wsX5_windows (wsV RX5 213 RX5 yX5_anyWindows wsX5_anyWindows) := goodIn_app (goodIn_r _ [12, 13, 14, 7] rfl (by decide +kernel)) ggX5_windows_X5_anyWindows
set_option maxRecDepth 20000 in
theorem ggX5_windows_X5_times : GoodIn wsX5_windows wsX5_times := goodIn_r _ [19, 4, 24, 25, 26, 27, 28, 29, 30, 31, 32, 33, 34, 35, 36, 37, 38, 39, 40, 41, 42, 43, 44, 45, 46, 47, 48, 49, 50, 51, 52, 53] rfl (by decide +kernel)
set_option maxRecDepth 20000 in
theorem gX5_windows_X5_times : GoodIn wsX5_windows (wsV RX5 149 RX5 yX5_times wsX5_times) := goodIn_app (goodIn_r _ [16, 17, 18, 7] rfl (by decide +kernel)) ggX5_windows_X5_times
set_option maxRecDepth 20000 in
theorem ggX5_windows_X5_windowsOf : GoodIn wsX5_windows wsX5_windowsOf := goodIn_r _ [23, 2, 4, 16, 17, 18, 7, 19, 24, 25, 26, 27, 28, 29, 30, 31, 32, 33, 34, 35, 36, 37, 38, 39, 40, 41, 42, 43, 44, 45, 46, 47, 48, 49, 50, 51, 52, 53] rfl (by decide +kernel)
set_option maxRecDepth 20000 in
theorem gX5_windows_X5_windowsOf : GoodIn wsX5_windows (wsV RX5 216 RX5 yX5_windowsOf wsX5_windowsOf) := goodIn_app (goodIn_r _ [20, 21, 22, 7] rfl (by decide +kernel)) ggX5_windows_X5_windowsOf
def dt_cX5_windows_0 : List (Nat × Instr × Nat) := [(0, .aload_n 0, 1), (1, .iconst 0, 1), (2, .putfield 77, 3), (5, .iload_n 1, 1), (6, .iconst 1, 1), (7, .aload_n 0, 1), (8, .getfield 84, 3), (11, .invokestatic 80, 3), (14, .ifCond .eq 21, 3), (17, .iload_n 2, 1), (18, .iload_n 3, 1), (19, .invokestatic 184, 3), (22, .ifCond .eq 13, 3), (25, .iload 4, 2), (27, .iconst 0, 1), (28, .iconst 2, 1), (29, .invokestatic 80, 3), (32, .ifCond .ne 16, 3), (35, .iload 4, 2), (37, .iconst 1, 1), (38, .if_icmp .ne 8, 3), (41, .ldc 148, 2), (43, .goto 4, 3), (46, .iconst (-1), 1), (47, .ireturn, 1), (48, .iload 4, 2), (50, .ifCond .ne 11, 3), (53, .aload_n 0, 1), (54, .iload_n 1, 1), (55, .iload_n 2, 1), (56, .iload_n 3, 1), (57, .invokevirtual 213, 3), (60, .ireturn, 1), (61, .ldc 148, 2), (63, .istore 5, 2), (65, .iconst 0, 1), (66, .istore 6, 2), (68, .iconst 0, 1), (69, .istore 7, 2), (71, .iload 7, 2), (73, .aload_n 0, 1), (74, .getfield 84, 3), (77, .if_icmp .ge 92, 3), (80, .aload_n 0, 1), (81, .aload_n 0, 1), (82, .getfield 7, 3), (85, .iload 7, 2), (87, .iaload, 1), (88, .iconst 0, 1), (89, .iload 7, 2), (91, .invokevirtual 149, 3), (94, .ifCond .le 6, 3), (97, .goto 66, 3), (100, .aload_n 0, 1), (101, .aload_n 0, 1), (102, .getfield 7, 3), (105, .iload 7, 2), (107, .iaload, 1), (108, .iload_n 1, 1), (109, .iload_n 2, 1)]
theorem da_cX5_windows_0 : dk_all cX5_windows dt_cX5_windows_0 = true := by decide +kernel
theorem dX5_windows_0 : decode cX5_windows 0 = .ok (.aload_n 0, 1) := dk_get _ da_cX5_windows_0 0 _ _ _ rfl
theorem dX5_windows_1 : decode cX5_windows 1 = .ok (.iconst 0, 1) := dk_get _ da_cX5_windows_0 1 _ _ _ rfl
theorem dX5_windows_2 : decode cX5_windows 2 = .ok (.putfield 77, 3) := dk_get _ da_cX5_windows_0 2 _ _ _ rfl
theorem dX5_windows_5 : decode cX5_windows 5 = .ok (.iload_n 1, 1) := dk_get _ da_cX5_windows_0 3 _ _ _ rfl
theorem dX5_windows_6 : decode cX5_windows 6 = .ok (.iconst 1, 1) := dk_get _ da_cX5_windows_0 4 _ _ _ rfl
theorem dX5_windows_7 : decode cX5_windows 7 = .ok (.aload_n 0, 1) := dk_get _ da_cX5_windows_0 5 _ _ _ rfl
theorem dX5_windows_8 : decode cX5_windows 8 = .ok (.getfield 84, 3) := dk_get _ da_cX5_windows_0 6 _ _ _ rfl
theorem dX5_windows_11 : decode cX5_windows 11 = .ok (.invokestatic 80, 3) := dk_get _ da_cX5_windows_0 7 _ _ _ rfl
theorem dX5_windows_14 : decode cX5_windows 14 = .ok (.ifCond .eq 21, 3) := dk_get _ da_cX5_windows_0 8 _ _ _ rfl
theorem dX5_windows_17 : decode cX5_windows 17 = .ok (.iload_n 2, 1) := dk_get _ da_cX5_windows_0 9 _ _ _ rfl
theorem dX5_windows_18 : decode cX5_windows 18 = .ok (.iload_n 3, 1) := dk_get _ da_cX5_windows_0 10 _ _ _ rfl
theorem dX5_windows_19 : decode cX5_windows 19 = .ok (.invokestatic 184, 3) := dk_get _ da_cX5_windows_0 11 _ _ _ rfl
theorem dX5_windows_22 : decode cX5_windows 22 = .ok (.ifCond .eq 13, 3) := dk_get _ da_cX5_windows_0 12 _ _ _ rfl
theorem dX5_windows_25 : decode cX5_windows 25 = .ok (.iload 4, 2) := dk_get _ da_cX5_windows_0 13 _ _ _ rfl
theorem dX5_windows_27 : decode cX5_windows 27 = .ok (.iconst 0, 1) := dk_get _ da_cX5_windows_0 14 _ _ _ rfl
theorem dX5_windows_28 : decode cX5_windows 28 = .ok (.iconst 2, 1) := dk_get _ da_cX5_windows_0 15 _ _ _ rfl
theorem dX5_windows_29 : decode cX5_windows 29 = .ok (.invokestatic 80, 3) := dk_get _ da_cX5_windows_0 16 _ _ _ rfl
theorem dX5_windows_32 : decode cX5_windows 32 = .ok (.ifCond .ne 16, 3) := dk_get _ da_cX5_windows_0 17 _ _ _ rfl
theorem dX5_windows_35 : decode cX5_windows 35 = .ok (.iload 4, 2) := dk_get _ da_cX5_windows_0 18 _ _ _ rfl
theorem dX5_windows_37 : decode cX5_windows 37 = .ok (.iconst 1, 1) := dk_get _ da_cX5_windows_0 19 _ _ _ rfl
theorem dX5_windows_38 : decode cX5_windows 38 = .ok (.if_icmp .ne 8, 3) := dk_get _ da_cX5_windows_0 20 _ _ _ rfl
theorem dX5_windows_41 : decode cX5_windows 41 = .ok (.ldc 148, 2) := dk_get _ da_cX5_windows_0 21 _ _ _ rfl
theorem dX5_windows_43 : decode cX5_windows 43 = .ok (.goto 4, 3) := dk_get _ da_cX5_windows_0 22 _ _ _ rfl
theorem dX5_windows_46 : decode cX5_windows 46 = .ok (.iconst (-1), 1) := dk_get _ da_cX5_windows_0 23 _ _ _ rfl
theorem dX5_windows_47 : decode cX5_windows 47 = .ok (.ireturn, 1) := dk_get _ da_cX5_windows_0 24 _ _ _ rfl
theorem dX5_windows_48 : decode cX5_windows 48 = .ok (.iload 4, 2) := dk_get _ da_cX5_windows_0 25 _ _ _ rfl
theorem dX5_windows_50 : decode cX5_windows 50 = .ok (.ifCond .ne 11, 3) := dk_get _ da_cX5_windows_0 26 _ _ _ rfl
theorem dX5_windows_53 : decode cX5_windows 53 = .ok (.aload_n 0, 1) := dk_get _ da_cX5_windows_0 27 _ _ _ rfl
theorem dX5_windows_54 : decode cX5_windows 54 = .ok (.iload_n 1, 1) := dk_get _ da_cX5_windows_0 28 _ _ _ rfl
theorem dX5_windows_55 : decode cX5_windows 55 = .ok (.iload_n 2, 1) := dk_get _ da_cX5_windows_0 29 _ _ _ rfl
theorem dX5_windows_56 : decode cX5_windows 56 = .ok (.iload_n 3, 1) := dk_get _ da_cX5_windows_0 30 _ _ _ rfl
theorem dX5_windows_57 : decode cX5_windows 57 = .ok (.invokevirtual 213, 3) := dk_get _ da_cX5_windows_0 31 _ _ _ rfl
theorem dX5_windows_60 : decode cX5_windows 60 = .ok (.ireturn, 1) := dk_get _ da_cX5_windows_0 32 _ _ _ rfl
theorem dX5_windows_61 : decode cX5_windows 61 = .ok (.ldc 148, 2) := dk_get _ da_cX5_windows_0 33 _ _ _ rfl
theorem dX5_windows_63 : decode cX5_windows 63 = .ok (.istore 5, 2) := dk_get _ da_cX5_windows_0 34 _ _ _ rfl
theorem dX5_windows_65 : decode cX5_windows 65 = .ok (.iconst 0, 1) := dk_get _ da_cX5_windows_0 35 _ _ _ rfl
theorem dX5_windows_66 : decode cX5_windows 66 = .ok (.istore 6, 2) := dk_get _ da_cX5_windows_0 36 _ _ _ rfl
theorem dX5_windows_68 : decode cX5_windows 68 = .ok (.iconst 0, 1) := dk_get _ da_cX5_windows_0 37 _ _ _ rfl
theorem dX5_windows_69 : decode cX5_windows 69 = .ok (.istore 7, 2) := dk_get _ da_cX5_windows_0 38 _ _ _ rfl
theorem dX5_windows_71 : decode cX5_windows 71 = .ok (.iload 7, 2) := dk_get _ da_cX5_windows_0 39 _ _ _ rfl
theorem dX5_windows_73 : decode cX5_windows 73 = .ok (.aload_n 0, 1) := dk_get _ da_cX5_windows_0 40 _ _ _ rfl
theorem dX5_windows_74 : decode cX5_windows 74 = .ok (.getfield 84, 3) := dk_get _ da_cX5_windows_0 41 _ _ _ rfl
theorem dX5_windows_77 : decode cX5_windows 77 = .ok (.if_icmp .ge 92, 3) := dk_get _ da_cX5_windows_0 42 _ _ _ rfl
theorem dX5_windows_80 : decode cX5_windows 80 = .ok (.aload_n 0, 1) := dk_get _ da_cX5_windows_0 43 _ _ _ rfl
theorem dX5_windows_81 : decode cX5_windows 81 = .ok (.aload_n 0, 1) := dk_get _ da_cX5_windows_0 44 _ _ _ rfl
theorem dX5_windows_82 : decode cX5_windows 82 = .ok (.getfield 7, 3) := dk_get _ da_cX5_windows_0 45 _ _ _ rfl
theorem dX5_windows_85 : decode cX5_windows 85 = .ok (.iload 7, 2) := dk_get _ da_cX5_windows_0 46 _ _ _ rfl
theorem dX5_windows_87 : decode cX5_windows 87 = .ok (.iaload, 1) := dk_get _ da_cX5_windows_0 47 _ _ _ rfl
theorem dX5_windows_88 : decode cX5_windows 88 = .ok (.iconst 0, 1) := dk_get _ da_cX5_windows_0 48 _ _ _ rfl
theorem dX5_windows_89 : decode cX5_windows 89 = .ok (.iload 7, 2) := dk_get _ da_cX5_windows_0 49 _ _ _ rfl
theorem dX5_windows_91 : decode cX5_windows 91 = .ok (.invokevirtual 149, 3) := dk_get _ da_cX5_windows_0 50 _ _ _ rfl
theorem dX5_windows_94 : decode cX5_windows 94 = .ok (.ifCond .le 6, 3) := dk_get _ da_cX5_windows_0 51 _ _ _ rfl
theorem dX5_windows_97 : decode cX5_windows 97 = .ok (.goto 66, 3) := dk_get _ da_cX5_windows_0 52 _ _ _ rfl
theorem dX5_windows_100 : decode cX5_windows 100 = .ok (.aload_n 0, 1) := dk_get _ da_cX5_windows_0 53 _ _ _ rfl
theorem dX5_windows_101 : decode cX5_windows 101 = .ok (.aload_n 0, 1) := dk_get _ da_cX5_windows_0 54 _ _ _ rfl
theorem dX5_windows_102 : decode cX5_windows 102 = .ok (.getfield 7, 3) := dk_get _ da_cX5_windows_0 55 _ _ _ rfl
theorem dX5_windows_105 : decode cX5_windows 105 = .ok (.iload 7, 2) := dk_get _ da_cX5_windows_0 56 _ _ _ rfl
theorem dX5_windows_107 : decode cX5_windows 107 = .ok (.iaload, 1) := dk_get _ da_cX5_windows_0 57 _ _ _ rfl
theorem dX5_windows_108 : decode cX5_windows 108 = .ok (.iload_n 1, 1) := dk_get _ da_cX5_windows_0 58 _ _ _ rfl
theorem dX5_windows_109 : decode cX5_windows 109 = .ok (.iload_n 2, 1) := dk_get _ da_cX5_windows_0 59 _ _ _ rfl
def dt_cX5_windows_1 : List (Nat × Instr × Nat) := [(110, .iload_n 3, 1), (111, .invokevirtual 216, 3), (114, .istore 8, 2), (116, .iload 8, 2), (118, .iload 6, 2), (120, .if_icmp .lt 43, 3), (123, .iload 8, 2), (125, .ifCond .eq 38, 3), (128, .iload 8, 2), (130, .iload 6, 2), (132, .if_icmp .ne 18, 3), (135, .aload_n 0, 1), (136, .getfield 7, 3), (139, .iload 7, 2), (141, .iaload, 1), (142, .iload 5, 2), (144, .if_icmp .le 6, 3), (147, .goto 16, 3), (150, .aload_n 0, 1), (151, .getfield 7, 3), (154, .iload 7, 2), (156, .iaload, 1), (157, .istore 5, 2), (159, .iload 8, 2), (161, .istore 6, 2), (163, .iinc 7 1, 3), (166, .goto (-95), 3), (169, .iload 4, 2), (171, .iconst 1, 1), (172, .if_icmp .ne 8, 3), (175, .iload 5, 2), (177, .goto 5, 3), (180, .iload 6, 2), (182, .ireturn, 1)]
theorem da_cX5_windows_1 : dk_all cX5_windows dt_cX5_windows_1 = true := by decide +kernel
theorem dX5_windows_110 : decode cX5_windows 110 = .ok (.iload_n 3, 1) := dk_get _ da_cX5_windows_1 0 _ _ _ rfl
theorem dX5_windows_111 : decode cX5_windows 111 = .ok (.invokevirtual 216, 3) := dk_get _ da_cX5_windows_1 1 _ _ _ rfl
theorem dX5_windows_114 : decode cX5_windows 114 = .ok (.istore 8, 2) := dk_get _ da_cX5_windows_1 2 _ _ _ rfl
theorem dX5_windows_116 : decode cX5_windows 116 = .ok (.iload 8, 2) := dk_get _ da_cX5_windows_1 3 _ _ _ rfl
theorem dX5_windows_118 : decode cX5_windows 118 = .ok (.iload 6, 2) := dk_get _ da_cX5_windows_1 4 _ _ _ rfl
theorem dX5_windows_120 : decode cX5_windows 120 = .ok (.if_icmp .lt 43, 3) := dk_get _ da_cX5_windows_1 5 _ _ _ rfl
theorem dX5_windows_123 : decode cX5_windows 123 = .ok (.iload 8, 2) := dk_get _ da_cX5_windows_1 6 _ _ _ rfl
theorem dX5_windows_125 : decode cX5_windows 125 = .ok (.ifCond .eq 38, 3) := dk_get _ da_cX5_windows_1 7 _ _ _ rfl
theorem dX5_windows_128 : decode cX5_windows 128 = .ok (.iload 8, 2) := dk_get _ da_cX5_windows_1 8 _ _ _ rfl
theorem dX5_windows_130 : decode cX5_windows 130 = .ok (.iload 6, 2) := dk_get _ da_cX5_windows_1 9 _ _ _ rfl
theorem dX5_windows_132 : decode cX5_windows 132 = .ok (.if_icmp .ne 18, 3) := dk_get _ da_cX5_windows_1 10 _ _ _ rfl
theorem dX5_windows_135 : decode cX5_windows 135 = .ok (.aload_n 0, 1) := dk_get _ da_cX5_windows_1 11 _ _ _ rfl
theorem dX5_windows_136 : decode cX5_windows 136 = .ok (.getfield 7, 3) := dk_get _ da_cX5_windows_1 12 _ _ _ rfl
theorem dX5_windows_139 : decode cX5_windows 139 = .ok (.iload 7, 2) := dk_get _ da_cX5_windows_1 13 _ _ _ rfl
theorem dX5_windows_141 : decode cX5_windows 141 = .ok (.iaload, 1) := dk_get _ da_cX5_windows_1 14 _ _ _ rfl
theorem dX5_windows_142 : decode cX5_windows 142 = .ok (.iload 5, 2) := dk_get _ da_cX5_windows_1 15 _ _ _ rfl
theorem dX5_windows_144 : decode cX5_windows 144 = .ok (.if_icmp .le 6, 3) := dk_get _ da_cX5_windows_1 16 _ _ _ rfl
theorem dX5_windows_147 : decode cX5_windows 147 = .ok (.goto 16, 3) := dk_get _ da_cX5_windows_1 17 _ _ _ rfl
theorem dX5_windows_150 : decode cX5_windows 150 = .ok (.aload_n 0, 1) := dk_get _ da_cX5_windows_1 18 _ _ _ rfl
theorem dX5_windows_151 : decode cX5_windows 151 = .ok (.getfield 7, 3) := dk_get _ da_cX5_windows_1 19 _ _ _ rfl
theorem dX5_windows_154 : decode cX5_windows 154 = .ok (.iload 7, 2) := dk_get _ da_cX5_windows_1 20 _ _ _ rfl
theorem dX5_windows_156 : decode cX5_windows 156 = .ok (.iaload, 1) := dk_get _ da_cX5_windows_1 21 _ _ _ rfl
theorem dX5_windows_157 : decode cX5_windows 157 = .ok (.istore 5, 2) := dk_get _ da_cX5_windows_1 22 _ _ _ rfl
theorem dX5_windows_159 : decode cX5_windows 159 = .ok (.iload 8, 2) := dk_get _ da_cX5_windows_1 23 _ _ _ rfl
theorem dX5_windows_161 : decode cX5_windows 161 = .ok (.istore 6, 2) := dk_get _ da_cX5_windows_1 24 _ _ _ rfl
theorem dX5_windows_163 : decode cX5_windows 163 = .ok (.iinc 7 1, 3) := dk_get _ da_cX5_windows_1 25 _ _ _ rfl
theorem dX5_windows_166 : decode cX5_windows 166 = .ok (.goto (-95), 3) := dk_get _ da_cX5_windows_1 26 _ _ _ rfl
theorem dX5_windows_169 : decode cX5_windows 169 = .ok (.iload 4, 2) := dk_get _ da_cX5_windows_1 27 _ _ _ rfl
theorem dX5_windows_171 : decode cX5_windows 171 = .ok (.iconst 1, 1) := dk_get _ da_cX5_windows_1 28 _ _ _ rfl
theorem dX5_windows_172 : decode cX5_windows 172 = .ok (.if_icmp .ne 8, 3) := dk_get _ da_cX5_windows_1 29 _ _ _ rfl
theorem dX5_windows_175 : decode cX5_windows 175 = .ok (.iload 5, 2) := dk_get _ da_cX5_windows_1 30 _ _ _ rfl
theorem dX5_windows_177 : decode cX5_windows 177 = .ok (.goto 5, 3) := dk_get _ da_cX5_windows_1 31 _ _ _ rfl
theorem dX5_windows_180 : decode cX5_windows 180 = .ok (.iload 6, 2) := dk_get _ da_cX5_windows_1 32 _ _ _ rfl
theorem dX5_windows_182 : decode cX5_windows 182 = .ok (.ireturn, 1) := dk_get _ da_cX5_windows_1 33 _ _ _ rfl
set_option maxRecDepth 20000 in
theorem ggX5_needs_X5_isValue : GoodIn wsX5_needs wsX5_isValue := goodIn_r _ [5, 6, 7, 4, 8] rfl (by decide +kernel)
set_option maxRecDepth 20000 in
theorem gX5_needs_X5_isValue : GoodIn wsX5_needs (va_wsS RX5 132 yX5_isValue wsX5_isValue) := goodIn_app (goodIn_r _ [2, 3, 4] rfl (by decide +kernel)) ggX5_needs_X5_isValue
set_option maxRecDepth 20000 in
theorem ggX5_needs_X5_isRange : GoodIn wsX5_needs wsX5_isRange := goodIn_r _ [12, 13, 22, 23, 24, 25, 26, 27, 28, 29, 30, 31, 32, 33, 34, 35, 36, 37, 38, 39, 40, 41, 42, 43, 44, 45, 46, 47, 48, 49, 50, 51] rfl (by decide +kernel)
set_option maxRecDepth 20000 in
theorem gX5_needs_X5_isRange : GoodIn wsX5_needs (wsV RX5 142 RX5 yX5_isRange wsX5_isRange) := goodIn_app (goodIn_r _ [9, 10, 11, 4] rfl (by decide +kernel)) ggX5_needs_X5_isRange
set_option maxRecDepth 20000 in
theorem ggX5_needs_X5_isShare : GoodIn wsX5_needs wsX5_isShare := goodIn_r _ [16, 6, 7, 4, 8] rfl (by decide +kernel)
set_option maxRecDepth 20000 in
theorem gX5_needs_X5_isShare : GoodIn wsX5_needs (va_wsS RX5 184 yX5_isShare wsX5_isShare) := goodIn_app (goodIn_r _ [14, 15, 4] rfl (by decide +kernel)) ggX5_needs_X5_isShare
set_option maxRecDepth 20000 in
theorem ggX5_needs_X5_times : GoodIn wsX5_needs wsX5_times := goodIn_r _ [20, 21, 22, 23, 24, 25, 26, 27, 28, 29, 30, 31, 32, 33, 34, 35, 36, 37, 38, 39, 40, 41, 42, 43, 44, 45, 46, 47, 48, 49, 50, 51] rfl (by decide +kernel)
set_option maxRecDepth 20000 in
theorem gX5_needs_X5_times : GoodIn wsX5_needs (wsV RX5 149 RX5 yX5_times wsX5_times) := goodIn_app (goodIn_r _ [17, 18, 19, 4] rfl (by decide +kernel)) ggX5_needs_X5_times
def dt_cX5_needs_0 : List (Nat × Instr × Nat) := [(0, .aload_n 0, 1), (1, .iconst 0, 1), (2, .putfield 77, 3), (5, .iload_n 1, 1), (6, .invokestatic 132, 3), (9, .ifCond .eq 22, 3), (12, .aload_n 0, 1), (13, .iload_n 2, 1), (14, .iload_n 3, 1), (15, .invokevirtual 142, 3), (18, .ifCond .eq 13, 3), (21, .iload 4, 2), (23, .iload 5, 2), (25, .invokestatic 184, 3), (28, .ifCond .ne 5, 3), (31, .iconst (-1), 1), (32, .ireturn, 1), (33, .aload_n 0, 1), (34, .iload_n 1, 1), (35, .iload_n 2, 1), (36, .iload_n 3, 1), (37, .invokevirtual 149, 3), (40, .istore 6, 2), (42, .iconst 0, 1), (43, .istore 7, 2), (45, .iload 6, 2), (47, .iload 7, 2), (49, .iadd, 1), (50, .iload_n 3, 1), (51, .iload_n 2, 1), (52, .isub, 1), (53, .if_icmp .gt 29, 3), (56, .iload 6, 2), (58, .iload 7, 2), (60, .iadd, 1), (61, .iload 5, 2), (63, .imul, 1), (64, .iload 4, 2), (66, .iload_n 3, 1), (67, .iload_n 2, 1), (68, .isub, 1), (69, .imul, 1), (70, .if_icmp .le 6, 3), (73, .iload 7, 2), (75, .ireturn, 1), (76, .iinc 7 1, 3), (79, .goto (-34), 3), (82, .bipush (-2), 2), (84, .ireturn, 1)]
theorem da_cX5_needs_0 : dk_all cX5_needs dt_cX5_needs_0 = true := by decide +kernel
theorem dX5_needs_0 : decode cX5_needs 0 = .ok (.aload_n 0, 1) := dk_get _ da_cX5_needs_0 0 _ _ _ rfl
theorem dX5_needs_1 : decode cX5_needs 1 = .ok (.iconst 0, 1) := dk_get _ da_cX5_needs_0 1 _ _ _ rfl
theorem dX5_needs_2 : decode cX5_needs 2 = .ok (.putfield 77, 3) := dk_get _ da_cX5_needs_0 2 _ _ _ rfl
theorem dX5_needs_5 : decode cX5_needs 5 = .ok (.iload_n 1, 1) := dk_get _ da_cX5_needs_0 3 _ _ _ rfl
theorem dX5_needs_6 : decode cX5_needs 6 = .ok (.invokestatic 132, 3) := dk_get _ da_cX5_needs_0 4 _ _ _ rfl
theorem dX5_needs_9 : decode cX5_needs 9 = .ok (.ifCond .eq 22, 3) := dk_get _ da_cX5_needs_0 5 _ _ _ rfl
theorem dX5_needs_12 : decode cX5_needs 12 = .ok (.aload_n 0, 1) := dk_get _ da_cX5_needs_0 6 _ _ _ rfl
theorem dX5_needs_13 : decode cX5_needs 13 = .ok (.iload_n 2, 1) := dk_get _ da_cX5_needs_0 7 _ _ _ rfl
theorem dX5_needs_14 : decode cX5_needs 14 = .ok (.iload_n 3, 1) := dk_get _ da_cX5_needs_0 8 _ _ _ rfl
theorem dX5_needs_15 : decode cX5_needs 15 = .ok (.invokevirtual 142, 3) := dk_get _ da_cX5_needs_0 9 _ _ _ rfl
theorem dX5_needs_18 : decode cX5_needs 18 = .ok (.ifCond .eq 13, 3) := dk_get _ da_cX5_needs_0 10 _ _ _ rfl
theorem dX5_needs_21 : decode cX5_needs 21 = .ok (.iload 4, 2) := dk_get _ da_cX5_needs_0 11 _ _ _ rfl
theorem dX5_needs_23 : decode cX5_needs 23 = .ok (.iload 5, 2) := dk_get _ da_cX5_needs_0 12 _ _ _ rfl
theorem dX5_needs_25 : decode cX5_needs 25 = .ok (.invokestatic 184, 3) := dk_get _ da_cX5_needs_0 13 _ _ _ rfl
theorem dX5_needs_28 : decode cX5_needs 28 = .ok (.ifCond .ne 5, 3) := dk_get _ da_cX5_needs_0 14 _ _ _ rfl
theorem dX5_needs_31 : decode cX5_needs 31 = .ok (.iconst (-1), 1) := dk_get _ da_cX5_needs_0 15 _ _ _ rfl
theorem dX5_needs_32 : decode cX5_needs 32 = .ok (.ireturn, 1) := dk_get _ da_cX5_needs_0 16 _ _ _ rfl
theorem dX5_needs_33 : decode cX5_needs 33 = .ok (.aload_n 0, 1) := dk_get _ da_cX5_needs_0 17 _ _ _ rfl
theorem dX5_needs_34 : decode cX5_needs 34 = .ok (.iload_n 1, 1) := dk_get _ da_cX5_needs_0 18 _ _ _ rfl
theorem dX5_needs_35 : decode cX5_needs 35 = .ok (.iload_n 2, 1) := dk_get _ da_cX5_needs_0 19 _ _ _ rfl
theorem dX5_needs_36 : decode cX5_needs 36 = .ok (.iload_n 3, 1) := dk_get _ da_cX5_needs_0 20 _ _ _ rfl
theorem dX5_needs_37 : decode cX5_needs 37 = .ok (.invokevirtual 149, 3) := dk_get _ da_cX5_needs_0 21 _ _ _ rfl
theorem dX5_needs_40 : decode cX5_needs 40 = .ok (.istore 6, 2) := dk_get _ da_cX5_needs_0 22 _ _ _ rfl
theorem dX5_needs_42 : decode cX5_needs 42 = .ok (.iconst 0, 1) := dk_get _ da_cX5_needs_0 23 _ _ _ rfl
theorem dX5_needs_43 : decode cX5_needs 43 = .ok (.istore 7, 2) := dk_get _ da_cX5_needs_0 24 _ _ _ rfl
theorem dX5_needs_45 : decode cX5_needs 45 = .ok (.iload 6, 2) := dk_get _ da_cX5_needs_0 25 _ _ _ rfl
theorem dX5_needs_47 : decode cX5_needs 47 = .ok (.iload 7, 2) := dk_get _ da_cX5_needs_0 26 _ _ _ rfl
theorem dX5_needs_49 : decode cX5_needs 49 = .ok (.iadd, 1) := dk_get _ da_cX5_needs_0 27 _ _ _ rfl
theorem dX5_needs_50 : decode cX5_needs 50 = .ok (.iload_n 3, 1) := dk_get _ da_cX5_needs_0 28 _ _ _ rfl
theorem dX5_needs_51 : decode cX5_needs 51 = .ok (.iload_n 2, 1) := dk_get _ da_cX5_needs_0 29 _ _ _ rfl
theorem dX5_needs_52 : decode cX5_needs 52 = .ok (.isub, 1) := dk_get _ da_cX5_needs_0 30 _ _ _ rfl
theorem dX5_needs_53 : decode cX5_needs 53 = .ok (.if_icmp .gt 29, 3) := dk_get _ da_cX5_needs_0 31 _ _ _ rfl
theorem dX5_needs_56 : decode cX5_needs 56 = .ok (.iload 6, 2) := dk_get _ da_cX5_needs_0 32 _ _ _ rfl
theorem dX5_needs_58 : decode cX5_needs 58 = .ok (.iload 7, 2) := dk_get _ da_cX5_needs_0 33 _ _ _ rfl
theorem dX5_needs_60 : decode cX5_needs 60 = .ok (.iadd, 1) := dk_get _ da_cX5_needs_0 34 _ _ _ rfl
theorem dX5_needs_61 : decode cX5_needs 61 = .ok (.iload 5, 2) := dk_get _ da_cX5_needs_0 35 _ _ _ rfl
theorem dX5_needs_63 : decode cX5_needs 63 = .ok (.imul, 1) := dk_get _ da_cX5_needs_0 36 _ _ _ rfl
theorem dX5_needs_64 : decode cX5_needs 64 = .ok (.iload 4, 2) := dk_get _ da_cX5_needs_0 37 _ _ _ rfl
theorem dX5_needs_66 : decode cX5_needs 66 = .ok (.iload_n 3, 1) := dk_get _ da_cX5_needs_0 38 _ _ _ rfl
theorem dX5_needs_67 : decode cX5_needs 67 = .ok (.iload_n 2, 1) := dk_get _ da_cX5_needs_0 39 _ _ _ rfl
theorem dX5_needs_68 : decode cX5_needs 68 = .ok (.isub, 1) := dk_get _ da_cX5_needs_0 40 _ _ _ rfl
theorem dX5_needs_69 : decode cX5_needs 69 = .ok (.imul, 1) := dk_get _ da_cX5_needs_0 41 _ _ _ rfl
theorem dX5_needs_70 : decode cX5_needs 70 = .ok (.if_icmp .le 6, 3) := dk_get _ da_cX5_needs_0 42 _ _ _ rfl
theorem dX5_needs_73 : decode cX5_needs 73 = .ok (.iload 7, 2) := dk_get _ da_cX5_needs_0 43 _ _ _ rfl
theorem dX5_needs_75 : decode cX5_needs 75 = .ok (.ireturn, 1) := dk_get _ da_cX5_needs_0 44 _ _ _ rfl
theorem dX5_needs_76 : decode cX5_needs 76 = .ok (.iinc 7 1, 3) := dk_get _ da_cX5_needs_0 45 _ _ _ rfl
theorem dX5_needs_79 : decode cX5_needs 79 = .ok (.goto (-34), 3) := dk_get _ da_cX5_needs_0 46 _ _ _ rfl
theorem dX5_needs_82 : decode cX5_needs 82 = .ok (.bipush (-2), 2) := dk_get _ da_cX5_needs_0 47 _ _ _ rfl
theorem dX5_needs_84 : decode cX5_needs 84 = .ok (.ireturn, 1) := dk_get _ da_cX5_needs_0 48 _ _ _ rfl

