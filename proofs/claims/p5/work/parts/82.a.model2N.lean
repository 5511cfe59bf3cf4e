abbrev cX5_one : ByteArray := prog_7_method_8_code
def yX5_one : MethodName := ⟨RX5, "one", "(II)V"⟩
abbrev cX5_adds : ByteArray := prog_7_method_9_code
def yX5_adds : MethodName := ⟨RX5, "adds", "(II)V"⟩
abbrev cX5_isAhead : ByteArray := prog_7_method_10_code
def yX5_isAhead : MethodName := ⟨RX5, "isAhead", "(II)Z"⟩
abbrev cX5_nodeOf : ByteArray := prog_7_method_15_code
def yX5_nodeOf : MethodName := ⟨RX5, "nodeOf", "(II)I"⟩
abbrev cX5_copies : ByteArray := prog_7_method_18_code
def yX5_copies : MethodName := ⟨RX5, "copies", "(II)V"⟩
abbrev cX5_numberOf : ByteArray := prog_7_method_19_code
def yX5_numberOf : MethodName := ⟨RX5, "numberOf", "(II)I"⟩
abbrev cX5_numbersOf : ByteArray := prog_7_method_48_code
def yX5_numbersOf : MethodName := ⟨RX5, "numbersOf", "(I)I"⟩
def wsX5_one : List Cond := .code yX5_one cX5_one 3 none :: ([.fieldLink RX5 17 "MajorityIndexModel" "many" "[I", .fieldLink RX5 20 "MajorityIndexModel" "loss" "[I", .fieldLink RX5 23 "MajorityIndexModel" "less" "[I", .fieldLink RX5 26 "MajorityIndexModel" "voteValue" "[I", .fieldLink RX5 29 "MajorityIndexModel" "voteNumber" "[I"] ++ wsX50)
def wsX5_adds : List Cond := .code yX5_adds cX5_adds 4 none :: ([.fieldLink RX5 87 "MajorityIndexModel" "allMany" "I", .fieldLink RX5 32 "MajorityIndexModel" "allValue" "[I", .fieldLink RX5 35 "MajorityIndexModel" "allNumber" "[I"] ++ wsX50)
def wsX5_isAhead : List Cond := .code yX5_isAhead cX5_isAhead 3 (some .boolean) :: ([.fieldLink RX5 35 "MajorityIndexModel" "allNumber" "[I", .fieldLink RX5 32 "MajorityIndexModel" "allValue" "[I"] ++ wsX50)
def wsX5_nodeOf : List Cond := .code yX5_nodeOf cX5_nodeOf 4 (some .int) :: ([.fieldLink RX5 101 "MajorityIndexModel" "nodes" "I", .fieldLink RX5 38 "MajorityIndexModel" "nodeL" "[I", .fieldLink RX5 41 "MajorityIndexModel" "nodeR" "[I"] ++ wsX50)
def wsX5_copies : List Cond := .code yX5_copies cX5_copies 4 none :: ([.fieldLink RX5 17 "MajorityIndexModel" "many" "[I", .fieldLink RX5 20 "MajorityIndexModel" "loss" "[I", .fieldLink RX5 23 "MajorityIndexModel" "less" "[I", .fieldLink RX5 26 "MajorityIndexModel" "voteValue" "[I", .fieldLink RX5 29 "MajorityIndexModel" "voteNumber" "[I"] ++ wsX50)
def wsX5_numberOf : List Cond := .code yX5_numberOf cX5_numberOf 4 (some .int) :: ([.fieldLink RX5 17 "MajorityIndexModel" "many" "[I", .fieldLink RX5 26 "MajorityIndexModel" "voteValue" "[I", .fieldLink RX5 29 "MajorityIndexModel" "voteNumber" "[I"] ++ wsX50)
def wsX5_numbersOf : List Cond := .code yX5_numbersOf cX5_numbersOf 4 (some .int) :: ([.fieldLink RX5 17 "MajorityIndexModel" "many" "[I", .fieldLink RX5 29 "MajorityIndexModel" "voteNumber" "[I"] ++ wsX50)
def dt_cX5_one_0 : List (Nat × Instr × Nat) := [(0, .aload_n 0, 1), (1, .getfield 17, 3), (4, .iload_n 1, 1), (5, .iconst 1, 1), (6, .iastore, 1), (7, .aload_n 0, 1), (8, .getfield 20, 3), (11, .iload_n 1, 1), (12, .iconst 0, 1), (13, .iastore, 1), (14, .aload_n 0, 1), (15, .getfield 23, 3), (18, .iload_n 1, 1), (19, .iconst 0, 1), (20, .iastore, 1), (21, .aload_n 0, 1), (22, .getfield 26, 3), (25, .bipush 6, 2), (27, .iload_n 1, 1), (28, .imul, 1), (29, .iload_n 2, 1), (30, .iastore, 1), (31, .aload_n 0, 1), (32, .getfield 29, 3), (35, .bipush 6, 2), (37, .iload_n 1, 1), (38, .imul, 1), (39, .iconst 1, 1), (40, .iastore, 1), (41, .return_, 1)]
theorem da_cX5_one_0 : dk_all cX5_one dt_cX5_one_0 = true := by decide +kernel
theorem dX5_one_0 : decode cX5_one 0 = .ok (.aload_n 0, 1) := dk_get _ da_cX5_one_0 0 _ _ _ rfl
theorem dX5_one_1 : decode cX5_one 1 = .ok (.getfield 17, 3) := dk_get _ da_cX5_one_0 1 _ _ _ rfl
theorem dX5_one_4 : decode cX5_one 4 = .ok (.iload_n 1, 1) := dk_get _ da_cX5_one_0 2 _ _ _ rfl
theorem dX5_one_5 : decode cX5_one 5 = .ok (.iconst 1, 1) := dk_get _ da_cX5_one_0 3 _ _ _ rfl
theorem dX5_one_6 : decode cX5_one 6 = .ok (.iastore, 1) := dk_get _ da_cX5_one_0 4 _ _ _ rfl
theorem dX5_one_7 : decode cX5_one 7 = .ok (.aload_n 0, 1) := dk_get _ da_cX5_one_0 5 _ _ _ rfl
theorem dX5_one_8 : decode cX5_one 8 = .ok (.getfield 20, 3) := dk_get _ da_cX5_one_0 6 _ _ _ rfl
theorem dX5_one_11 : decode cX5_one 11 = .ok (.iload_n 1, 1) := dk_get _ da_cX5_one_0 7 _ _ _ rfl
theorem dX5_one_12 : decode cX5_one 12 = .ok (.iconst 0, 1) := dk_get _ da_cX5_one_0 8 _ _ _ rfl
theorem dX5_one_13 : decode cX5_one 13 = .ok (.iastore, 1) := dk_get _ da_cX5_one_0 9 _ _ _ rfl
theorem dX5_one_14 : decode cX5_one 14 = .ok (.aload_n 0, 1) := dk_get _ da_cX5_one_0 10 _ _ _ rfl
theorem dX5_one_15 : decode cX5_one 15 = .ok (.getfield 23, 3) := dk_get _ da_cX5_one_0 11 _ _ _ rfl
theorem dX5_one_18 : decode cX5_one 18 = .ok (.iload_n 1, 1) := dk_get _ da_cX5_one_0 12 _ _ _ rfl
theorem dX5_one_19 : decode cX5_one 19 = .ok (.iconst 0, 1) := dk_get _ da_cX5_one_0 13 _ _ _ rfl
theorem dX5_one_20 : decode cX5_one 20 = .ok (.iastore, 1) := dk_get _ da_cX5_one_0 14 _ _ _ rfl
theorem dX5_one_21 : decode cX5_one 21 = .ok (.aload_n 0, 1) := dk_get _ da_cX5_one_0 15 _ _ _ rfl
theorem dX5_one_22 : decode cX5_one 22 = .ok (.getfield 26, 3) := dk_get _ da_cX5_one_0 16 _ _ _ rfl
theorem dX5_one_25 : decode cX5_one 25 = .ok (.bipush 6, 2) := dk_get _ da_cX5_one_0 17 _ _ _ rfl
theorem dX5_one_27 : decode cX5_one 27 = .ok (.iload_n 1, 1) := dk_get _ da_cX5_one_0 18 _ _ _ rfl
theorem dX5_one_28 : decode cX5_one 28 = .ok (.imul, 1) := dk_get _ da_cX5_one_0 19 _ _ _ rfl
theorem dX5_one_29 : decode cX5_one 29 = .ok (.iload_n 2, 1) := dk_get _ da_cX5_one_0 20 _ _ _ rfl
theorem dX5_one_30 : decode cX5_one 30 = .ok (.iastore, 1) := dk_get _ da_cX5_one_0 21 _ _ _ rfl
theorem dX5_one_31 : decode cX5_one 31 = .ok (.aload_n 0, 1) := dk_get _ da_cX5_one_0 22 _ _ _ rfl
theorem dX5_one_32 : decode cX5_one 32 = .ok (.getfield 29, 3) := dk_get _ da_cX5_one_0 23 _ _ _ rfl
theorem dX5_one_35 : decode cX5_one 35 = .ok (.bipush 6, 2) := dk_get _ da_cX5_one_0 24 _ _ _ rfl
theorem dX5_one_37 : decode cX5_one 37 = .ok (.iload_n 1, 1) := dk_get _ da_cX5_one_0 25 _ _ _ rfl
theorem dX5_one_38 : decode cX5_one 38 = .ok (.imul, 1) := dk_get _ da_cX5_one_0 26 _ _ _ rfl
theorem dX5_one_39 : decode cX5_one 39 = .ok (.iconst 1, 1) := dk_get _ da_cX5_one_0 27 _ _ _ rfl
theorem dX5_one_40 : decode cX5_one 40 = .ok (.iastore, 1) := dk_get _ da_cX5_one_0 28 _ _ _ rfl
theorem dX5_one_41 : decode cX5_one 41 = .ok (.return_, 1) := dk_get _ da_cX5_one_0 29 _ _ _ rfl
def dt_cX5_adds_0 : List (Nat × Instr × Nat) := [(0, .iconst 0, 1), (1, .istore_n 3, 1), (2, .iload_n 3, 1), (3, .aload_n 0, 1), (4, .getfield 87, 3), (7, .if_icmp .ge 33, 3), (10, .aload_n 0, 1), (11, .getfield 32, 3), (14, .iload_n 3, 1), (15, .iaload, 1), (16, .iload_n 1, 1), (17, .if_icmp .eq 6, 3), (20, .goto 14, 3), (23, .aload_n 0, 1), (24, .getfield 35, 3), (27, .iload_n 3, 1), (28, .dup2, 1), (29, .iaload, 1), (30, .iload_n 2, 1), (31, .iadd, 1), (32, .iastore, 1), (33, .return_, 1), (34, .iinc 3 1, 3), (37, .goto (-35), 3), (40, .aload_n 0, 1), (41, .getfield 32, 3), (44, .aload_n 0, 1), (45, .getfield 87, 3), (48, .iload_n 1, 1), (49, .iastore, 1), (50, .aload_n 0, 1), (51, .getfield 35, 3), (54, .aload_n 0, 1), (55, .getfield 87, 3), (58, .iload_n 2, 1), (59, .iastore, 1), (60, .aload_n 0, 1), (61, .dup, 1), (62, .getfield 87, 3), (65, .iconst 1, 1), (66, .iadd, 1), (67, .putfield 87, 3), (70, .return_, 1)]
theorem da_cX5_adds_0 : dk_all cX5_adds dt_cX5_adds_0 = true := by decide +kernel
theorem dX5_adds_0 : decode cX5_adds 0 = .ok (.iconst 0, 1) := dk_get _ da_cX5_adds_0 0 _ _ _ rfl
theorem dX5_adds_1 : decode cX5_adds 1 = .ok (.istore_n 3, 1) := dk_get _ da_cX5_adds_0 1 _ _ _ rfl
theorem dX5_adds_2 : decode cX5_adds 2 = .ok (.iload_n 3, 1) := dk_get _ da_cX5_adds_0 2 _ _ _ rfl
theorem dX5_adds_3 : decode cX5_adds 3 = .ok (.aload_n 0, 1) := dk_get _ da_cX5_adds_0 3 _ _ _ rfl
theorem dX5_adds_4 : decode cX5_adds 4 = .ok (.getfield 87, 3) := dk_get _ da_cX5_adds_0 4 _ _ _ rfl
theorem dX5_adds_7 : decode cX5_adds 7 = .ok (.if_icmp .ge 33, 3) := dk_get _ da_cX5_adds_0 5 _ _ _ rfl
theorem dX5_adds_10 : decode cX5_adds 10 = .ok (.aload_n 0, 1) := dk_get _ da_cX5_adds_0 6 _ _ _ rfl
theorem dX5_adds_11 : decode cX5_adds 11 = .ok (.getfield 32, 3) := dk_get _ da_cX5_adds_0 7 _ _ _ rfl
theorem dX5_adds_14 : decode cX5_adds 14 = .ok (.iload_n 3, 1) := dk_get _ da_cX5_adds_0 8 _ _ _ rfl
theorem dX5_adds_15 : decode cX5_adds 15 = .ok (.iaload, 1) := dk_get _ da_cX5_adds_0 9 _ _ _ rfl
theorem dX5_adds_16 : decode cX5_adds 16 = .ok (.iload_n 1, 1) := dk_get _ da_cX5_adds_0 10 _ _ _ rfl
theorem dX5_adds_17 : decode cX5_adds 17 = .ok (.if_icmp .eq 6, 3) := dk_get _ da_cX5_adds_0 11 _ _ _ rfl
theorem dX5_adds_20 : decode cX5_adds 20 = .ok (.goto 14, 3) := dk_get _ da_cX5_adds_0 12 _ _ _ rfl
theorem dX5_adds_23 : decode cX5_adds 23 = .ok (.aload_n 0, 1) := dk_get _ da_cX5_adds_0 13 _ _ _ rfl
theorem dX5_adds_24 : decode cX5_adds 24 = .ok (.getfield 35, 3) := dk_get _ da_cX5_adds_0 14 _ _ _ rfl
theorem dX5_adds_27 : decode cX5_adds 27 = .ok (.iload_n 3, 1) := dk_get _ da_cX5_adds_0 15 _ _ _ rfl
theorem dX5_adds_28 : decode cX5_adds 28 = .ok (.dup2, 1) := dk_get _ da_cX5_adds_0 16 _ _ _ rfl
theorem dX5_adds_29 : decode cX5_adds 29 = .ok (.iaload, 1) := dk_get _ da_cX5_adds_0 17 _ _ _ rfl
theorem dX5_adds_30 : decode cX5_adds 30 = .ok (.iload_n 2, 1) := dk_get _ da_cX5_adds_0 18 _ _ _ rfl
theorem dX5_adds_31 : decode cX5_adds 31 = .ok (.iadd, 1) := dk_get _ da_cX5_adds_0 19 _ _ _ rfl
theorem dX5_adds_32 : decode cX5_adds 32 = .ok (.iastore, 1) := dk_get _ da_cX5_adds_0 20 _ _ _ rfl
theorem dX5_adds_33 : decode cX5_adds 33 = .ok (.return_, 1) := dk_get _ da_cX5_adds_0 21 _ _ _ rfl
theorem dX5_adds_34 : decode cX5_adds 34 = .ok (.iinc 3 1, 3) := dk_get _ da_cX5_adds_0 22 _ _ _ rfl
theorem dX5_adds_37 : decode cX5_adds 37 = .ok (.goto (-35), 3) := dk_get _ da_cX5_adds_0 23 _ _ _ rfl
theorem dX5_adds_40 : decode cX5_adds 40 = .ok (.aload_n 0, 1) := dk_get _ da_cX5_adds_0 24 _ _ _ rfl
theorem dX5_adds_41 : decode cX5_adds 41 = .ok (.getfield 32, 3) := dk_get _ da_cX5_adds_0 25 _ _ _ rfl
theorem dX5_adds_44 : decode cX5_adds 44 = .ok (.aload_n 0, 1) := dk_get _ da_cX5_adds_0 26 _ _ _ rfl
theorem dX5_adds_45 : decode cX5_adds 45 = .ok (.getfield 87, 3) := dk_get _ da_cX5_adds_0 27 _ _ _ rfl
theorem dX5_adds_48 : decode cX5_adds 48 = .ok (.iload_n 1, 1) := dk_get _ da_cX5_adds_0 28 _ _ _ rfl
theorem dX5_adds_49 : decode cX5_adds 49 = .ok (.iastore, 1) := dk_get _ da_cX5_adds_0 29 _ _ _ rfl
theorem dX5_adds_50 : decode cX5_adds 50 = .ok (.aload_n 0, 1) := dk_get _ da_cX5_adds_0 30 _ _ _ rfl
theorem dX5_adds_51 : decode cX5_adds 51 = .ok (.getfield 35, 3) := dk_get _ da_cX5_adds_0 31 _ _ _ rfl
theorem dX5_adds_54 : decode cX5_adds 54 = .ok (.aload_n 0, 1) := dk_get _ da_cX5_adds_0 32 _ _ _ rfl
theorem dX5_adds_55 : decode cX5_adds 55 = .ok (.getfield 87, 3) := dk_get _ da_cX5_adds_0 33 _ _ _ rfl
theorem dX5_adds_58 : decode cX5_adds 58 = .ok (.iload_n 2, 1) := dk_get _ da_cX5_adds_0 34 _ _ _ rfl
theorem dX5_adds_59 : decode cX5_adds 59 = .ok (.iastore, 1) := dk_get _ da_cX5_adds_0 35 _ _ _ rfl
theorem dX5_adds_60 : decode cX5_adds 60 = .ok (.aload_n 0, 1) := dk_get _ da_cX5_adds_0 36 _ _ _ rfl
theorem dX5_adds_61 : decode cX5_adds 61 = .ok (.dup, 1) := dk_get _ da_cX5_adds_0 37 _ _ _ rfl
theorem dX5_adds_62 : decode cX5_adds 62 = .ok (.getfield 87, 3) := dk_get _ da_cX5_adds_0 38 _ _ _ rfl
theorem dX5_adds_65 : decode cX5_adds 65 = .ok (.iconst 1, 1) := dk_get _ da_cX5_adds_0 39 _ _ _ rfl
theorem dX5_adds_66 : decode cX5_adds 66 = .ok (.iadd, 1) := dk_get _ da_cX5_adds_0 40 _ _ _ rfl
theorem dX5_adds_67 : decode cX5_adds 67 = .ok (.putfield 87, 3) := dk_get _ da_cX5_adds_0 41 _ _ _ rfl
theorem dX5_adds_70 : decode cX5_adds 70 = .ok (.return_, 1) := dk_get _ da_cX5_adds_0 42 _ _ _ rfl
def dt_cX5_isAhead_0 : List (Nat × Instr × Nat) := [(0, .aload_n 0, 1), (1, .getfield 35, 3), (4, .iload_n 1, 1), (5, .iaload, 1), (6, .aload_n 0, 1), (7, .getfield 35, 3), (10, .iload_n 2, 1), (11, .iaload, 1), (12, .if_icmp .eq 26, 3), (15, .aload_n 0, 1), (16, .getfield 35, 3), (19, .iload_n 1, 1), (20, .iaload, 1), (21, .aload_n 0, 1), (22, .getfield 35, 3), (25, .iload_n 2, 1), (26, .iaload, 1), (27, .if_icmp .le 7, 3), (30, .iconst 1, 1), (31, .goto 27, 3), (34, .iconst 0, 1), (35, .goto 23, 3), (38, .aload_n 0, 1), (39, .getfield 32, 3), (42, .iload_n 1, 1), (43, .iaload, 1), (44, .aload_n 0, 1), (45, .getfield 32, 3), (48, .iload_n 2, 1), (49, .iaload, 1), (50, .if_icmp .ge 7, 3), (53, .iconst 1, 1), (54, .goto 4, 3), (57, .iconst 0, 1), (58, .ireturn, 1)]
theorem da_cX5_isAhead_0 : dk_all cX5_isAhead dt_cX5_isAhead_0 = true := by decide +kernel
theorem dX5_isAhead_0 : decode cX5_isAhead 0 = .ok (.aload_n 0, 1) := dk_get _ da_cX5_isAhead_0 0 _ _ _ rfl
theorem dX5_isAhead_1 : decode cX5_isAhead 1 = .ok (.getfield 35, 3) := dk_get _ da_cX5_isAhead_0 1 _ _ _ rfl
theorem dX5_isAhead_4 : decode cX5_isAhead 4 = .ok (.iload_n 1, 1) := dk_get _ da_cX5_isAhead_0 2 _ _ _ rfl
theorem dX5_isAhead_5 : decode cX5_isAhead 5 = .ok (.iaload, 1) := dk_get _ da_cX5_isAhead_0 3 _ _ _ rfl
theorem dX5_isAhead_6 : decode cX5_isAhead 6 = .ok (.aload_n 0, 1) := dk_get _ da_cX5_isAhead_0 4 _ _ _ rfl
theorem dX5_isAhead_7 : decode cX5_isAhead 7 = .ok (.getfield 35, 3) := dk_get _ da_cX5_isAhead_0 5 _ _ _ rfl
theorem dX5_isAhead_10 : decode cX5_isAhead 10 = .ok (.iload_n 2, 1) := dk_get _ da_cX5_isAhead_0 6 _ _ _ rfl
theorem dX5_isAhead_11 : decode cX5_isAhead 11 = .ok (.iaload, 1) := dk_get _ da_cX5_isAhead_0 7 _ _ _ rfl
theorem dX5_isAhead_12 : decode cX5_isAhead 12 = .ok (.if_icmp .eq 26, 3) := dk_get _ da_cX5_isAhead_0 8 _ _ _ rfl
theorem dX5_isAhead_15 : decode cX5_isAhead 15 = .ok (.aload_n 0, 1) := dk_get _ da_cX5_isAhead_0 9 _ _ _ rfl
theorem dX5_isAhead_16 : decode cX5_isAhead 16 = .ok (.getfield 35, 3) := dk_get _ da_cX5_isAhead_0 10 _ _ _ rfl
theorem dX5_isAhead_19 : decode cX5_isAhead 19 = .ok (.iload_n 1, 1) := dk_get _ da_cX5_isAhead_0 11 _ _ _ rfl
theorem dX5_isAhead_20 : decode cX5_isAhead 20 = .ok (.iaload, 1) := dk_get _ da_cX5_isAhead_0 12 _ _ _ rfl
theorem dX5_isAhead_21 : decode cX5_isAhead 21 = .ok (.aload_n 0, 1) := dk_get _ da_cX5_isAhead_0 13 _ _ _ rfl
theorem dX5_isAhead_22 : decode cX5_isAhead 22 = .ok (.getfield 35, 3) := dk_get _ da_cX5_isAhead_0 14 _ _ _ rfl
theorem dX5_isAhead_25 : decode cX5_isAhead 25 = .ok (.iload_n 2, 1) := dk_get _ da_cX5_isAhead_0 15 _ _ _ rfl
theorem dX5_isAhead_26 : decode cX5_isAhead 26 = .ok (.iaload, 1) := dk_get _ da_cX5_isAhead_0 16 _ _ _ rfl
theorem dX5_isAhead_27 : decode cX5_isAhead 27 = .ok (.if_icmp .le 7, 3) := dk_get _ da_cX5_isAhead_0 17 _ _ _ rfl
theorem dX5_isAhead_30 : decode cX5_isAhead 30 = .ok (.iconst 1, 1) := dk_get _ da_cX5_isAhead_0 18 _ _ _ rfl
theorem dX5_isAhead_31 : decode cX5_isAhead 31 = .ok (.goto 27, 3) := dk_get _ da_cX5_isAhead_0 19 _ _ _ rfl
theorem dX5_isAhead_34 : decode cX5_isAhead 34 = .ok (.iconst 0, 1) := dk_get _ da_cX5_isAhead_0 20 _ _ _ rfl
theorem dX5_isAhead_35 : decode cX5_isAhead 35 = .ok (.goto 23, 3) := dk_get _ da_cX5_isAhead_0 21 _ _ _ rfl
theorem dX5_isAhead_38 : decode cX5_isAhead 38 = .ok (.aload_n 0, 1) := dk_get _ da_cX5_isAhead_0 22 _ _ _ rfl
theorem dX5_isAhead_39 : decode cX5_isAhead 39 = .ok (.getfield 32, 3) := dk_get _ da_cX5_isAhead_0 23 _ _ _ rfl
theorem dX5_isAhead_42 : decode cX5_isAhead 42 = .ok (.iload_n 1, 1) := dk_get _ da_cX5_isAhead_0 24 _ _ _ rfl
theorem dX5_isAhead_43 : decode cX5_isAhead 43 = .ok (.iaload, 1) := dk_get _ da_cX5_isAhead_0 25 _ _ _ rfl
theorem dX5_isAhead_44 : decode cX5_isAhead 44 = .ok (.aload_n 0, 1) := dk_get _ da_cX5_isAhead_0 26 _ _ _ rfl
theorem dX5_isAhead_45 : decode cX5_isAhead 45 = .ok (.getfield 32, 3) := dk_get _ da_cX5_isAhead_0 27 _ _ _ rfl
theorem dX5_isAhead_48 : decode cX5_isAhead 48 = .ok (.iload_n 2, 1) := dk_get _ da_cX5_isAhead_0 28 _ _ _ rfl
theorem dX5_isAhead_49 : decode cX5_isAhead 49 = .ok (.iaload, 1) := dk_get _ da_cX5_isAhead_0 29 _ _ _ rfl
theorem dX5_isAhead_50 : decode cX5_isAhead 50 = .ok (.if_icmp .ge 7, 3) := dk_get _ da_cX5_isAhead_0 30 _ _ _ rfl
theorem dX5_isAhead_53 : decode cX5_isAhead 53 = .ok (.iconst 1, 1) := dk_get _ da_cX5_isAhead_0 31 _ _ _ rfl
theorem dX5_isAhead_54 : decode cX5_isAhead 54 = .ok (.goto 4, 3) := dk_get _ da_cX5_isAhead_0 32 _ _ _ rfl
theorem dX5_isAhead_57 : decode cX5_isAhead 57 = .ok (.iconst 0, 1) := dk_get _ da_cX5_isAhead_0 33 _ _ _ rfl
theorem dX5_isAhead_58 : decode cX5_isAhead 58 = .ok (.ireturn, 1) := dk_get _ da_cX5_isAhead_0 34 _ _ _ rfl
def dt_cX5_nodeOf_0 : List (Nat × Instr × Nat) := [(0, .iconst 0, 1), (1, .istore_n 3, 1), (2, .iload_n 3, 1), (3, .aload_n 0, 1), (4, .getfield 101, 3), (7, .if_icmp .ge 31, 3), (10, .aload_n 0, 1), (11, .getfield 38, 3), (14, .iload_n 3, 1), (15, .iaload, 1), (16, .iload_n 1, 1), (17, .if_icmp .ne 15, 3), (20, .aload_n 0, 1), (21, .getfield 41, 3), (24, .iload_n 3, 1), (25, .iaload, 1), (26, .iload_n 2, 1), (27, .if_icmp .ne 5, 3), (30, .iload_n 3, 1), (31, .ireturn, 1), (32, .iinc 3 1, 3), (35, .goto (-33), 3), (38, .bipush (-2), 2), (40, .ireturn, 1)]
theorem da_cX5_nodeOf_0 : dk_all cX5_nodeOf dt_cX5_nodeOf_0 = true := by decide +kernel
theorem dX5_nodeOf_0 : decode cX5_nodeOf 0 = .ok (.iconst 0, 1) := dk_get _ da_cX5_nodeOf_0 0 _ _ _ rfl
theorem dX5_nodeOf_1 : decode cX5_nodeOf 1 = .ok (.istore_n 3, 1) := dk_get _ da_cX5_nodeOf_0 1 _ _ _ rfl
theorem dX5_nodeOf_2 : decode cX5_nodeOf 2 = .ok (.iload_n 3, 1) := dk_get _ da_cX5_nodeOf_0 2 _ _ _ rfl
theorem dX5_nodeOf_3 : decode cX5_nodeOf 3 = .ok (.aload_n 0, 1) := dk_get _ da_cX5_nodeOf_0 3 _ _ _ rfl
theorem dX5_nodeOf_4 : decode cX5_nodeOf 4 = .ok (.getfield 101, 3) := dk_get _ da_cX5_nodeOf_0 4 _ _ _ rfl
theorem dX5_nodeOf_7 : decode cX5_nodeOf 7 = .ok (.if_icmp .ge 31, 3) := dk_get _ da_cX5_nodeOf_0 5 _ _ _ rfl
theorem dX5_nodeOf_10 : decode cX5_nodeOf 10 = .ok (.aload_n 0, 1) := dk_get _ da_cX5_nodeOf_0 6 _ _ _ rfl
theorem dX5_nodeOf_11 : decode cX5_nodeOf 11 = .ok (.getfield 38, 3) := dk_get _ da_cX5_nodeOf_0 7 _ _ _ rfl
theorem dX5_nodeOf_14 : decode cX5_nodeOf 14 = .ok (.iload_n 3, 1) := dk_get _ da_cX5_nodeOf_0 8 _ _ _ rfl
theorem dX5_nodeOf_15 : decode cX5_nodeOf 15 = .ok (.iaload, 1) := dk_get _ da_cX5_nodeOf_0 9 _ _ _ rfl
theorem dX5_nodeOf_16 : decode cX5_nodeOf 16 = .ok (.iload_n 1, 1) := dk_get _ da_cX5_nodeOf_0 10 _ _ _ rfl
theorem dX5_nodeOf_17 : decode cX5_nodeOf 17 = .ok (.if_icmp .ne 15, 3) := dk_get _ da_cX5_nodeOf_0 11 _ _ _ rfl
theorem dX5_nodeOf_20 : decode cX5_nodeOf 20 = .ok (.aload_n 0, 1) := dk_get _ da_cX5_nodeOf_0 12 _ _ _ rfl
theorem dX5_nodeOf_21 : decode cX5_nodeOf 21 = .ok (.getfield 41, 3) := dk_get _ da_cX5_nodeOf_0 13 _ _ _ rfl
theorem dX5_nodeOf_24 : decode cX5_nodeOf 24 = .ok (.iload_n 3, 1) := dk_get _ da_cX5_nodeOf_0 14 _ _ _ rfl
theorem dX5_nodeOf_25 : decode cX5_nodeOf 25 = .ok (.iaload, 1) := dk_get _ da_cX5_nodeOf_0 15 _ _ _ rfl
theorem dX5_nodeOf_26 : decode cX5_nodeOf 26 = .ok (.iload_n 2, 1) := dk_get _ da_cX5_nodeOf_0 16 _ _ _ rfl
theorem dX5_nodeOf_27 : decode cX5_nodeOf 27 = .ok (.if_icmp .ne 5, 3) := dk_get _ da_cX5_nodeOf_0 17 _ _ _ rfl
theorem dX5_nodeOf_30 : decode cX5_nodeOf 30 = .ok (.iload_n 3, 1) := dk_get _ da_cX5_nodeOf_0 18 _ _ _ rfl
theorem dX5_nodeOf_31 : decode cX5_nodeOf 31 = .ok (.ireturn, 1) := dk_get _ da_cX5_nodeOf_0 19 _ _ _ rfl
theorem dX5_nodeOf_32 : decode cX5_nodeOf 32 = .ok (.iinc 3 1, 3) := dk_get _ da_cX5_nodeOf_0 20 _ _ _ rfl
theorem dX5_nodeOf_35 : decode cX5_nodeOf 35 = .ok (.goto (-33), 3) := dk_get _ da_cX5_nodeOf_0 21 _ _ _ rfl
theorem dX5_nodeOf_38 : decode cX5_nodeOf 38 = .ok (.bipush (-2), 2) := dk_get _ da_cX5_nodeOf_0 22 _ _ _ rfl
theorem dX5_nodeOf_40 : decode cX5_nodeOf 40 = .ok (.ireturn, 1) := dk_get _ da_cX5_nodeOf_0 23 _ _ _ rfl
def dt_cX5_copies_0 : List (Nat × Instr × Nat) := [(0, .aload_n 0, 1), (1, .getfield 17, 3), (4, .iload_n 2, 1), (5, .aload_n 0, 1), (6, .getfield 17, 3), (9, .iload_n 1, 1), (10, .iaload, 1), (11, .iastore, 1), (12, .aload_n 0, 1), (13, .getfield 20, 3), (16, .iload_n 2, 1), (17, .aload_n 0, 1), (18, .getfield 20, 3), (21, .iload_n 1, 1), (22, .iaload, 1), (23, .iastore, 1), (24, .aload_n 0, 1), (25, .getfield 23, 3), (28, .iload_n 2, 1), (29, .aload_n 0, 1), (30, .getfield 23, 3), (33, .iload_n 1, 1), (34, .iaload, 1), (35, .iastore, 1), (36, .iconst 0, 1), (37, .istore_n 3, 1), (38, .iload_n 3, 1), (39, .bipush 6, 2), (41, .if_icmp .ge 53, 3), (44, .aload_n 0, 1), (45, .getfield 26, 3), (48, .bipush 6, 2), (50, .iload_n 2, 1), (51, .imul, 1), (52, .iload_n 3, 1), (53, .iadd, 1), (54, .aload_n 0, 1), (55, .getfield 26, 3), (58, .bipush 6, 2), (60, .iload_n 1, 1), (61, .imul, 1), (62, .iload_n 3, 1), (63, .iadd, 1), (64, .iaload, 1), (65, .iastore, 1), (66, .aload_n 0, 1), (67, .getfield 29, 3), (70, .bipush 6, 2), (72, .iload_n 2, 1), (73, .imul, 1), (74, .iload_n 3, 1), (75, .iadd, 1), (76, .aload_n 0, 1), (77, .getfield 29, 3), (80, .bipush 6, 2), (82, .iload_n 1, 1), (83, .imul, 1), (84, .iload_n 3, 1), (85, .iadd, 1), (86, .iaload, 1)]
theorem da_cX5_copies_0 : dk_all cX5_copies dt_cX5_copies_0 = true := by decide +kernel
theorem dX5_copies_0 : decode cX5_copies 0 = .ok (.aload_n 0, 1) := dk_get _ da_cX5_copies_0 0 _ _ _ rfl
theorem dX5_copies_1 : decode cX5_copies 1 = .ok (.getfield 17, 3) := dk_get _ da_cX5_copies_0 1 _ _ _ rfl
theorem dX5_copies_4 : decode cX5_copies 4 = .ok (.iload_n 2, 1) := dk_get _ da_cX5_copies_0 2 _ _ _ rfl
theorem dX5_copies_5 : decode cX5_copies 5 = .ok (.aload_n 0, 1) := dk_get _ da_cX5_copies_0 3 _ _ _ rfl
theorem dX5_copies_6 : decode cX5_copies 6 = .ok (.getfield 17, 3) := dk_get _ da_cX5_copies_0 4 _ _ _ rfl
theorem dX5_copies_9 : decode cX5_copies 9 = .ok (.iload_n 1, 1) := dk_get _ da_cX5_copies_0 5 _ _ _ rfl
theorem dX5_copies_10 : decode cX5_copies 10 = .ok (.iaload, 1) := dk_get _ da_cX5_copies_0 6 _ _ _ rfl
theorem dX5_copies_11 : decode cX5_copies 11 = .ok (.iastore, 1) := dk_get _ da_cX5_copies_0 7 _ _ _ rfl
theorem dX5_copies_12 : decode cX5_copies 12 = .ok (.aload_n 0, 1) := dk_get _ da_cX5_copies_0 8 _ _ _ rfl
theorem dX5_copies_13 : decode cX5_copies 13 = .ok (.getfield 20, 3) := dk_get _ da_cX5_copies_0 9 _ _ _ rfl
theorem dX5_copies_16 : decode cX5_copies 16 = .ok (.iload_n 2, 1) := dk_get _ da_cX5_copies_0 10 _ _ _ rfl
theorem dX5_copies_17 : decode cX5_copies 17 = .ok (.aload_n 0, 1) := dk_get _ da_cX5_copies_0 11 _ _ _ rfl
theorem dX5_copies_18 : decode cX5_copies 18 = .ok (.getfield 20, 3) := dk_get _ da_cX5_copies_0 12 _ _ _ rfl
theorem dX5_copies_21 : decode cX5_copies 21 = .ok (.iload_n 1, 1) := dk_get _ da_cX5_copies_0 13 _ _ _ rfl
theorem dX5_copies_22 : decode cX5_copies 22 = .ok (.iaload, 1) := dk_get _ da_cX5_copies_0 14 _ _ _ rfl
theorem dX5_copies_23 : decode cX5_copies 23 = .ok (.iastore, 1) := dk_get _ da_cX5_copies_0 15 _ _ _ rfl
theorem dX5_copies_24 : decode cX5_copies 24 = .ok (.aload_n 0, 1) := dk_get _ da_cX5_copies_0 16 _ _ _ rfl
theorem dX5_copies_25 : decode cX5_copies 25 = .ok (.getfield 23, 3) := dk_get _ da_cX5_copies_0 17 _ _ _ rfl
theorem dX5_copies_28 : decode cX5_copies 28 = .ok (.iload_n 2, 1) := dk_get _ da_cX5_copies_0 18 _ _ _ rfl
theorem dX5_copies_29 : decode cX5_copies 29 = .ok (.aload_n 0, 1) := dk_get _ da_cX5_copies_0 19 _ _ _ rfl
theorem dX5_copies_30 : decode cX5_copies 30 = .ok (.getfield 23, 3) := dk_get _ da_cX5_copies_0 20 _ _ _ rfl
theorem dX5_copies_33 : decode cX5_copies 33 = .ok (.iload_n 1, 1) := dk_get _ da_cX5_copies_0 21 _ _ _ rfl
theorem dX5_copies_34 : decode cX5_copies 34 = .ok (.iaload, 1) := dk_get _ da_cX5_copies_0 22 _ _ _ rfl
theorem dX5_copies_35 : decode cX5_copies 35 = .ok (.iastore, 1) := dk_get _ da_cX5_copies_0 23 _ _ _ rfl
theorem dX5_copies_36 : decode cX5_copies 36 = .ok (.iconst 0, 1) := dk_get _ da_cX5_copies_0 24 _ _ _ rfl
theorem dX5_copies_37 : decode cX5_copies 37 = .ok (.istore_n 3, 1) := dk_get _ da_cX5_copies_0 25 _ _ _ rfl
theorem dX5_copies_38 : decode cX5_copies 38 = .ok (.iload_n 3, 1) := dk_get _ da_cX5_copies_0 26 _ _ _ rfl
theorem dX5_copies_39 : decode cX5_copies 39 = .ok (.bipush 6, 2) := dk_get _ da_cX5_copies_0 27 _ _ _ rfl
theorem dX5_copies_41 : decode cX5_copies 41 = .ok (.if_icmp .ge 53, 3) := dk_get _ da_cX5_copies_0 28 _ _ _ rfl
theorem dX5_copies_44 : decode cX5_copies 44 = .ok (.aload_n 0, 1) := dk_get _ da_cX5_copies_0 29 _ _ _ rfl
theorem dX5_copies_45 : decode cX5_copies 45 = .ok (.getfield 26, 3) := dk_get _ da_cX5_copies_0 30 _ _ _ rfl
theorem dX5_copies_48 : decode cX5_copies 48 = .ok (.bipush 6, 2) := dk_get _ da_cX5_copies_0 31 _ _ _ rfl
theorem dX5_copies_50 : decode cX5_copies 50 = .ok (.iload_n 2, 1) := dk_get _ da_cX5_copies_0 32 _ _ _ rfl
theorem dX5_copies_51 : decode cX5_copies 51 = .ok (.imul, 1) := dk_get _ da_cX5_copies_0 33 _ _ _ rfl
theorem dX5_copies_52 : decode cX5_copies 52 = .ok (.iload_n 3, 1) := dk_get _ da_cX5_copies_0 34 _ _ _ rfl
theorem dX5_copies_53 : decode cX5_copies 53 = .ok (.iadd, 1) := dk_get _ da_cX5_copies_0 35 _ _ _ rfl
theorem dX5_copies_54 : decode cX5_copies 54 = .ok (.aload_n 0, 1) := dk_get _ da_cX5_copies_0 36 _ _ _ rfl
theorem dX5_copies_55 : decode cX5_copies 55 = .ok (.getfield 26, 3) := dk_get _ da_cX5_copies_0 37 _ _ _ rfl
theorem dX5_copies_58 : decode cX5_copies 58 = .ok (.bipush 6, 2) := dk_get _ da_cX5_copies_0 38 _ _ _ rfl
theorem dX5_copies_60 : decode cX5_copies 60 = .ok (.iload_n 1, 1) := dk_get _ da_cX5_copies_0 39 _ _ _ rfl
theorem dX5_copies_61 : decode cX5_copies 61 = .ok (.imul, 1) := dk_get _ da_cX5_copies_0 40 _ _ _ rfl
theorem dX5_copies_62 : decode cX5_copies 62 = .ok (.iload_n 3, 1) := dk_get _ da_cX5_copies_0 41 _ _ _ rfl
theorem dX5_copies_63 : decode cX5_copies 63 = .ok (.iadd, 1) := dk_get _ da_cX5_copies_0 42 _ _ _ rfl
theorem dX5_copies_64 : decode cX5_copies 64 = .ok (.iaload, 1) := dk_get _ da_cX5_copies_0 43 _ _ _ rfl
theorem dX5_copies_65 : decode cX5_copies 65 = .ok (.iastore, 1) := dk_get _ da_cX5_copies_0 44 _ _ _ rfl
theorem dX5_copies_66 : decode cX5_copies 66 = .ok (.aload_n 0, 1) := dk_get _ da_cX5_copies_0 45 _ _ _ rfl
theorem dX5_copies_67 : decode cX5_copies 67 = .ok (.getfield 29, 3) := dk_get _ da_cX5_copies_0 46 _ _ _ rfl
theorem dX5_copies_70 : decode cX5_copies 70 = .ok (.bipush 6, 2) := dk_get _ da_cX5_copies_0 47 _ _ _ rfl
theorem dX5_copies_72 : decode cX5_copies 72 = .ok (.iload_n 2, 1) := dk_get _ da_cX5_copies_0 48 _ _ _ rfl
theorem dX5_copies_73 : decode cX5_copies 73 = .ok (.imul, 1) := dk_get _ da_cX5_copies_0 49 _ _ _ rfl
theorem dX5_copies_74 : decode cX5_copies 74 = .ok (.iload_n 3, 1) := dk_get _ da_cX5_copies_0 50 _ _ _ rfl
theorem dX5_copies_75 : decode cX5_copies 75 = .ok (.iadd, 1) := dk_get _ da_cX5_copies_0 51 _ _ _ rfl
theorem dX5_copies_76 : decode cX5_copies 76 = .ok (.aload_n 0, 1) := dk_get _ da_cX5_copies_0 52 _ _ _ rfl
theorem dX5_copies_77 : decode cX5_copies 77 = .ok (.getfield 29, 3) := dk_get _ da_cX5_copies_0 53 _ _ _ rfl
theorem dX5_copies_80 : decode cX5_copies 80 = .ok (.bipush 6, 2) := dk_get _ da_cX5_copies_0 54 _ _ _ rfl
theorem dX5_copies_82 : decode cX5_copies 82 = .ok (.iload_n 1, 1) := dk_get _ da_cX5_copies_0 55 _ _ _ rfl
theorem dX5_copies_83 : decode cX5_copies 83 = .ok (.imul, 1) := dk_get _ da_cX5_copies_0 56 _ _ _ rfl
theorem dX5_copies_84 : decode cX5_copies 84 = .ok (.iload_n 3, 1) := dk_get _ da_cX5_copies_0 57 _ _ _ rfl
theorem dX5_copies_85 : decode cX5_copies 85 = .ok (.iadd, 1) := dk_get _ da_cX5_copies_0 58 _ _ _ rfl
theorem dX5_copies_86 : decode cX5_copies 86 = .ok (.iaload, 1) := dk_get _ da_cX5_copies_0 59 _ _ _ rfl
def dt_cX5_copies_1 : List (Nat × Instr × Nat) := [(87, .iastore, 1), (88, .iinc 3 1, 3), (91, .goto (-53), 3), (94, .return_, 1)]
theorem da_cX5_copies_1 : dk_all cX5_copies dt_cX5_copies_1 = true := by decide +kernel
theorem dX5_copies_87 : decode cX5_copies 87 = .ok (.iastore, 1) := dk_get _ da_cX5_copies_1 0 _ _ _ rfl
theorem dX5_copies_88 : decode cX5_copies 88 = .ok (.iinc 3 1, 3) := dk_get _ da_cX5_copies_1 1 _ _ _ rfl
theorem dX5_copies_91 : decode cX5_copies 91 = .ok (.goto (-53), 3) := dk_get _ da_cX5_copies_1 2 _ _ _ rfl
theorem dX5_copies_94 : decode cX5_copies 94 = .ok (.return_, 1) := dk_get _ da_cX5_copies_1 3 _ _ _ rfl
def dt_cX5_numberOf_0 : List (Nat × Instr × Nat) := [(0, .iconst 0, 1), (1, .istore_n 3, 1), (2, .iload_n 3, 1), (3, .aload_n 0, 1), (4, .getfield 17, 3), (7, .iload_n 1, 1), (8, .iaload, 1), (9, .if_icmp .ge 36, 3), (12, .aload_n 0, 1), (13, .getfield 26, 3), (16, .bipush 6, 2), (18, .iload_n 1, 1), (19, .imul, 1), (20, .iload_n 3, 1), (21, .iadd, 1), (22, .iaload, 1), (23, .iload_n 2, 1), (24, .if_icmp .ne 15, 3), (27, .aload_n 0, 1), (28, .getfield 29, 3), (31, .bipush 6, 2), (33, .iload_n 1, 1), (34, .imul, 1), (35, .iload_n 3, 1), (36, .iadd, 1), (37, .iaload, 1), (38, .ireturn, 1), (39, .iinc 3 1, 3), (42, .goto (-40), 3), (45, .iconst 0, 1), (46, .ireturn, 1)]
theorem da_cX5_numberOf_0 : dk_all cX5_numberOf dt_cX5_numberOf_0 = true := by decide +kernel
theorem dX5_numberOf_0 : decode cX5_numberOf 0 = .ok (.iconst 0, 1) := dk_get _ da_cX5_numberOf_0 0 _ _ _ rfl
theorem dX5_numberOf_1 : decode cX5_numberOf 1 = .ok (.istore_n 3, 1) := dk_get _ da_cX5_numberOf_0 1 _ _ _ rfl
theorem dX5_numberOf_2 : decode cX5_numberOf 2 = .ok (.iload_n 3, 1) := dk_get _ da_cX5_numberOf_0 2 _ _ _ rfl
theorem dX5_numberOf_3 : decode cX5_numberOf 3 = .ok (.aload_n 0, 1) := dk_get _ da_cX5_numberOf_0 3 _ _ _ rfl
theorem dX5_numberOf_4 : decode cX5_numberOf 4 = .ok (.getfield 17, 3) := dk_get _ da_cX5_numberOf_0 4 _ _ _ rfl
theorem dX5_numberOf_7 : decode cX5_numberOf 7 = .ok (.iload_n 1, 1) := dk_get _ da_cX5_numberOf_0 5 _ _ _ rfl
theorem dX5_numberOf_8 : decode cX5_numberOf 8 = .ok (.iaload, 1) := dk_get _ da_cX5_numberOf_0 6 _ _ _ rfl
theorem dX5_numberOf_9 : decode cX5_numberOf 9 = .ok (.if_icmp .ge 36, 3) := dk_get _ da_cX5_numberOf_0 7 _ _ _ rfl
theorem dX5_numberOf_12 : decode cX5_numberOf 12 = .ok (.aload_n 0, 1) := dk_get _ da_cX5_numberOf_0 8 _ _ _ rfl
theorem dX5_numberOf_13 : decode cX5_numberOf 13 = .ok (.getfield 26, 3) := dk_get _ da_cX5_numberOf_0 9 _ _ _ rfl
theorem dX5_numberOf_16 : decode cX5_numberOf 16 = .ok (.bipush 6, 2) := dk_get _ da_cX5_numberOf_0 10 _ _ _ rfl
theorem dX5_numberOf_18 : decode cX5_numberOf 18 = .ok (.iload_n 1, 1) := dk_get _ da_cX5_numberOf_0 11 _ _ _ rfl
theorem dX5_numberOf_19 : decode cX5_numberOf 19 = .ok (.imul, 1) := dk_get _ da_cX5_numberOf_0 12 _ _ _ rfl
theorem dX5_numberOf_20 : decode cX5_numberOf 20 = .ok (.iload_n 3, 1) := dk_get _ da_cX5_numberOf_0 13 _ _ _ rfl
theorem dX5_numberOf_21 : decode cX5_numberOf 21 = .ok (.iadd, 1) := dk_get _ da_cX5_numberOf_0 14 _ _ _ rfl
theorem dX5_numberOf_22 : decode cX5_numberOf 22 = .ok (.iaload, 1) := dk_get _ da_cX5_numberOf_0 15 _ _ _ rfl
theorem dX5_numberOf_23 : decode cX5_numberOf 23 = .ok (.iload_n 2, 1) := dk_get _ da_cX5_numberOf_0 16 _ _ _ rfl
theorem dX5_numberOf_24 : decode cX5_numberOf 24 = .ok (.if_icmp .ne 15, 3) := dk_get _ da_cX5_numberOf_0 17 _ _ _ rfl
theorem dX5_numberOf_27 : decode cX5_numberOf 27 = .ok (.aload_n 0, 1) := dk_get _ da_cX5_numberOf_0 18 _ _ _ rfl
theorem dX5_numberOf_28 : decode cX5_numberOf 28 = .ok (.getfield 29, 3) := dk_get _ da_cX5_numberOf_0 19 _ _ _ rfl
theorem dX5_numberOf_31 : decode cX5_numberOf 31 = .ok (.bipush 6, 2) := dk_get _ da_cX5_numberOf_0 20 _ _ _ rfl
theorem dX5_numberOf_33 : decode cX5_numberOf 33 = .ok (.iload_n 1, 1) := dk_get _ da_cX5_numberOf_0 21 _ _ _ rfl
theorem dX5_numberOf_34 : decode cX5_numberOf 34 = .ok (.imul, 1) := dk_get _ da_cX5_numberOf_0 22 _ _ _ rfl
theorem dX5_numberOf_35 : decode cX5_numberOf 35 = .ok (.iload_n 3, 1) := dk_get _ da_cX5_numberOf_0 23 _ _ _ rfl
theorem dX5_numberOf_36 : decode cX5_numberOf 36 = .ok (.iadd, 1) := dk_get _ da_cX5_numberOf_0 24 _ _ _ rfl
theorem dX5_numberOf_37 : decode cX5_numberOf 37 = .ok (.iaload, 1) := dk_get _ da_cX5_numberOf_0 25 _ _ _ rfl
theorem dX5_numberOf_38 : decode cX5_numberOf 38 = .ok (.ireturn, 1) := dk_get _ da_cX5_numberOf_0 26 _ _ _ rfl
theorem dX5_numberOf_39 : decode cX5_numberOf 39 = .ok (.iinc 3 1, 3) := dk_get _ da_cX5_numberOf_0 27 _ _ _ rfl
theorem dX5_numberOf_42 : decode cX5_numberOf 42 = .ok (.goto (-40), 3) := dk_get _ da_cX5_numberOf_0 28 _ _ _ rfl
theorem dX5_numberOf_45 : decode cX5_numberOf 45 = .ok (.iconst 0, 1) := dk_get _ da_cX5_numberOf_0 29 _ _ _ rfl
theorem dX5_numberOf_46 : decode cX5_numberOf 46 = .ok (.ireturn, 1) := dk_get _ da_cX5_numberOf_0 30 _ _ _ rfl
def dt_cX5_numbersOf_0 : List (Nat × Instr × Nat) := [(0, .iconst 0, 1), (1, .istore_n 2, 1), (2, .iconst 0, 1), (3, .istore_n 3, 1), (4, .iload_n 3, 1), (5, .aload_n 0, 1), (6, .getfield 17, 3), (9, .iload_n 1, 1), (10, .iaload, 1), (11, .if_icmp .ge 23, 3), (14, .iload_n 2, 1), (15, .aload_n 0, 1), (16, .getfield 29, 3), (19, .bipush 6, 2), (21, .iload_n 1, 1), (22, .imul, 1), (23, .iload_n 3, 1), (24, .iadd, 1), (25, .iaload, 1), (26, .iadd, 1), (27, .istore_n 2, 1), (28, .iinc 3 1, 3), (31, .goto (-27), 3), (34, .iload_n 2, 1), (35, .ireturn, 1)]
theorem da_cX5_numbersOf_0 : dk_all cX5_numbersOf dt_cX5_numbersOf_0 = true := by decide +kernel
theorem dX5_numbersOf_0 : decode cX5_numbersOf 0 = .ok (.iconst 0, 1) := dk_get _ da_cX5_numbersOf_0 0 _ _ _ rfl
theorem dX5_numbersOf_1 : decode cX5_numbersOf 1 = .ok (.istore_n 2, 1) := dk_get _ da_cX5_numbersOf_0 1 _ _ _ rfl
theorem dX5_numbersOf_2 : decode cX5_numbersOf 2 = .ok (.iconst 0, 1) := dk_get _ da_cX5_numbersOf_0 2 _ _ _ rfl
theorem dX5_numbersOf_3 : decode cX5_numbersOf 3 = .ok (.istore_n 3, 1) := dk_get _ da_cX5_numbersOf_0 3 _ _ _ rfl
theorem dX5_numbersOf_4 : decode cX5_numbersOf 4 = .ok (.iload_n 3, 1) := dk_get _ da_cX5_numbersOf_0 4 _ _ _ rfl
theorem dX5_numbersOf_5 : decode cX5_numbersOf 5 = .ok (.aload_n 0, 1) := dk_get _ da_cX5_numbersOf_0 5 _ _ _ rfl
theorem dX5_numbersOf_6 : decode cX5_numbersOf 6 = .ok (.getfield 17, 3) := dk_get _ da_cX5_numbersOf_0 6 _ _ _ rfl
theorem dX5_numbersOf_9 : decode cX5_numbersOf 9 = .ok (.iload_n 1, 1) := dk_get _ da_cX5_numbersOf_0 7 _ _ _ rfl
theorem dX5_numbersOf_10 : decode cX5_numbersOf 10 = .ok (.iaload, 1) := dk_get _ da_cX5_numbersOf_0 8 _ _ _ rfl
theorem dX5_numbersOf_11 : decode cX5_numbersOf 11 = .ok (.if_icmp .ge 23, 3) := dk_get _ da_cX5_numbersOf_0 9 _ _ _ rfl
theorem dX5_numbersOf_14 : decode cX5_numbersOf 14 = .ok (.iload_n 2, 1) := dk_get _ da_cX5_numbersOf_0 10 _ _ _ rfl
theorem dX5_numbersOf_15 : decode cX5_numbersOf 15 = .ok (.aload_n 0, 1) := dk_get _ da_cX5_numbersOf_0 11 _ _ _ rfl
theorem dX5_numbersOf_16 : decode cX5_numbersOf 16 = .ok (.getfield 29, 3) := dk_get _ da_cX5_numbersOf_0 12 _ _ _ rfl
theorem dX5_numbersOf_19 : decode cX5_numbersOf 19 = .ok (.bipush 6, 2) := dk_get _ da_cX5_numbersOf_0 13 _ _ _ rfl
theorem dX5_numbersOf_21 : decode cX5_numbersOf 21 = .ok (.iload_n 1, 1) := dk_get _ da_cX5_numbersOf_0 14 _ _ _ rfl
theorem dX5_numbersOf_22 : decode cX5_numbersOf 22 = .ok (.imul, 1) := dk_get _ da_cX5_numbersOf_0 15 _ _ _ rfl
theorem dX5_numbersOf_23 : decode cX5_numbersOf 23 = .ok (.iload_n 3, 1) := dk_get _ da_cX5_numbersOf_0 16 _ _ _ rfl
theorem dX5_numbersOf_24 : decode cX5_numbersOf 24 = .ok (.iadd, 1) := dk_get _ da_cX5_numbersOf_0 17 _ _ _ rfl
theorem dX5_numbersOf_25 : decode cX5_numbersOf 25 = .ok (.iaload, 1) := dk_get _ da_cX5_numbersOf_0 18 _ _ _ rfl
theorem dX5_numbersOf_26 : decode cX5_numbersOf 26 = .ok (.iadd, 1) := dk_get _ da_cX5_numbersOf_0 19 _ _ _ rfl
theorem dX5_numbersOf_27 : decode cX5_numbersOf 27 = .ok (.istore_n 2, 1) := dk_get _ da_cX5_numbersOf_0 20 _ _ _ rfl
theorem dX5_numbersOf_28 : decode cX5_numbersOf 28 = .ok (.iinc 3 1, 3) := dk_get _ da_cX5_numbersOf_0 21 _ _ _ rfl
theorem dX5_numbersOf_31 : decode cX5_numbersOf 31 = .ok (.goto (-27), 3) := dk_get _ da_cX5_numbersOf_0 22 _ _ _ rfl
theorem dX5_numbersOf_34 : decode cX5_numbersOf 34 = .ok (.iload_n 2, 1) := dk_get _ da_cX5_numbersOf_0 23 _ _ _ rfl
theorem dX5_numbersOf_35 : decode cX5_numbersOf 35 = .ok (.ireturn, 1) := dk_get _ da_cX5_numbersOf_0 24 _ _ _ rfl

