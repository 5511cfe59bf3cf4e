theorem nmX0 : ∀ a, a < 2 → ∀ b, b < 2 → a ≠ b → (TX0 a).2.1 ≠ (TX0 b).2.1 := by decide +kernel
theorem tyX0_ok : ∀ k, k < 2 → parseFieldDescriptor (TX0 k).2.2.1 = some (tyX0 k) := by decide +kernel
abbrev cX0_hasPlace : ByteArray := prog_2_method_2_code
def yX0_hasPlace : MethodName := ⟨RX0, "hasPlace", "(I)Z"⟩
abbrev cX0_hasRange : ByteArray := prog_2_method_3_code
def yX0_hasRange : MethodName := ⟨RX0, "hasRange", "(II)Z"⟩
abbrev cX0_append : ByteArray := prog_2_method_4_code
def yX0_append : MethodName := ⟨RX0, "append", "(I)V"⟩
abbrev cX0_putIn : ByteArray := prog_2_method_5_code
def yX0_putIn : MethodName := ⟨RX0, "putIn", "(II)V"⟩
def wsX0_hasPlace : List Cond := .code yX0_hasPlace cX0_hasPlace 2 (some .boolean) :: ([.fieldLink RX0 15 "MajorityIndex$Row" "length" "I"] ++ wsX00)
def wsX0_hasRange : List Cond := .code yX0_hasRange cX0_hasRange 3 (some .boolean) :: ([.fieldLink RX0 15 "MajorityIndex$Row" "length" "I"] ++ wsX00)
def wsX0_append : List Cond := .code yX0_append cX0_append 2 none :: ([.fieldLink RX0 15 "MajorityIndex$Row" "length" "I", .fieldLink RX0 9 "MajorityIndex$Row" "cell" "[I"] ++ wsX00)
def wsX0_putIn : List Cond := .code yX0_putIn cX0_putIn 4 none :: ([.fieldLink RX0 15 "MajorityIndex$Row" "length" "I", .fieldLink RX0 9 "MajorityIndex$Row" "cell" "[I"] ++ wsX00)
def dt_cX0_hasPlace_0 : List (Nat × Nat × Nat × Nat) := [(0, 27, 0, 0), (1, 155, 2, 15), (4, 27, 0, 0), (5, 42, 0, 0), (6, 180, 2, 15), (9, 162, 2, 7), (12, 4, 0, 0), (13, 167, 2, 4), (16, 3, 0, 0), (17, 172, 0, 0)]
theorem da_cX0_hasPlace_0 : fw dt_cX0_hasPlace_0 0 cX0_hasPlace.data.toList = true := by decide +kernel
theorem dX0_hasPlace_0 : decode cX0_hasPlace 0 = .ok (.iload_n 1, 1) := fo_27 (fw_get da_cX0_hasPlace_0 0 rfl)
theorem dX0_hasPlace_1 : decode cX0_hasPlace 1 = .ok (.ifCond .lt 15, 3) := fo_155 (fw_get da_cX0_hasPlace_0 1 rfl) (by decide +kernel)
theorem dX0_hasPlace_4 : decode cX0_hasPlace 4 = .ok (.iload_n 1, 1) := fo_27 (fw_get da_cX0_hasPlace_0 2 rfl)
theorem dX0_hasPlace_5 : decode cX0_hasPlace 5 = .ok (.aload_n 0, 1) := fo_42 (fw_get da_cX0_hasPlace_0 3 rfl)
theorem dX0_hasPlace_6 : decode cX0_hasPlace 6 = .ok (.getfield 15, 3) := fo_180 (fw_get da_cX0_hasPlace_0 4 rfl)
theorem dX0_hasPlace_9 : decode cX0_hasPlace 9 = .ok (.if_icmp .ge 7, 3) := fo_162 (fw_get da_cX0_hasPlace_0 5 rfl) (by decide +kernel)
theorem dX0_hasPlace_12 : decode cX0_hasPlace 12 = .ok (.iconst 1, 1) := fo_4 (fw_get da_cX0_hasPlace_0 6 rfl)
theorem dX0_hasPlace_13 : decode cX0_hasPlace 13 = .ok (.goto 4, 3) := fo_167 (fw_get da_cX0_hasPlace_0 7 rfl) (by decide +kernel)
theorem dX0_hasPlace_16 : decode cX0_hasPlace 16 = .ok (.iconst 0, 1) := fo_3 (fw_get da_cX0_hasPlace_0 8 rfl)
theorem dX0_hasPlace_17 : decode cX0_hasPlace 17 = .ok (.ireturn, 1) := fo_172 (fw_get da_cX0_hasPlace_0 9 rfl)
def dt_cX0_hasRange_0 : List (Nat × Nat × Nat × Nat) := [(0, 27, 0, 0), (1, 155, 2, 20), (4, 27, 0, 0), (5, 28, 0, 0), (6, 162, 2, 15), (9, 28, 0, 0), (10, 42, 0, 0), (11, 180, 2, 15), (14, 163, 2, 7), (17, 4, 0, 0), (18, 167, 2, 4), (21, 3, 0, 0), (22, 172, 0, 0)]
theorem da_cX0_hasRange_0 : fw dt_cX0_hasRange_0 0 cX0_hasRange.data.toList = true := by decide +kernel
theorem dX0_hasRange_0 : decode cX0_hasRange 0 = .ok (.iload_n 1, 1) := fo_27 (fw_get da_cX0_hasRange_0 0 rfl)
theorem dX0_hasRange_1 : decode cX0_hasRange 1 = .ok (.ifCond .lt 20, 3) := fo_155 (fw_get da_cX0_hasRange_0 1 rfl) (by decide +kernel)
theorem dX0_hasRange_4 : decode cX0_hasRange 4 = .ok (.iload_n 1, 1) := fo_27 (fw_get da_cX0_hasRange_0 2 rfl)
theorem dX0_hasRange_5 : decode cX0_hasRange 5 = .ok (.iload_n 2, 1) := fo_28 (fw_get da_cX0_hasRange_0 3 rfl)
theorem dX0_hasRange_6 : decode cX0_hasRange 6 = .ok (.if_icmp .ge 15, 3) := fo_162 (fw_get da_cX0_hasRange_0 4 rfl) (by decide +kernel)
theorem dX0_hasRange_9 : decode cX0_hasRange 9 = .ok (.iload_n 2, 1) := fo_28 (fw_get da_cX0_hasRange_0 5 rfl)
theorem dX0_hasRange_10 : decode cX0_hasRange 10 = .ok (.aload_n 0, 1) := fo_42 (fw_get da_cX0_hasRange_0 6 rfl)
theorem dX0_hasRange_11 : decode cX0_hasRange 11 = .ok (.getfield 15, 3) := fo_180 (fw_get da_cX0_hasRange_0 7 rfl)
theorem dX0_hasRange_14 : decode cX0_hasRange 14 = .ok (.if_icmp .gt 7, 3) := fo_163 (fw_get da_cX0_hasRange_0 8 rfl) (by decide +kernel)
theorem dX0_hasRange_17 : decode cX0_hasRange 17 = .ok (.iconst 1, 1) := fo_4 (fw_get da_cX0_hasRange_0 9 rfl)
theorem dX0_hasRange_18 : decode cX0_hasRange 18 = .ok (.goto 4, 3) := fo_167 (fw_get da_cX0_hasRange_0 10 rfl) (by decide +kernel)
theorem dX0_hasRange_21 : decode cX0_hasRange 21 = .ok (.iconst 0, 1) := fo_3 (fw_get da_cX0_hasRange_0 11 rfl)
theorem dX0_hasRange_22 : decode cX0_hasRange 22 = .ok (.ireturn, 1) := fo_172 (fw_get da_cX0_hasRange_0 12 rfl)
def dt_cX0_append_0 : List (Nat × Nat × Nat × Nat) := [(0, 42, 0, 0), (1, 180, 2, 15), (4, 17, 2, 160), (7, 162, 2, 23), (10, 42, 0, 0), (11, 180, 2, 9), (14, 42, 0, 0), (15, 180, 2, 15), (18, 27, 0, 0), (19, 79, 0, 0), (20, 42, 0, 0), (21, 89, 0, 0), (22, 180, 2, 15), (25, 4, 0, 0), (26, 96, 0, 0), (27, 181, 2, 15), (30, 177, 0, 0)]
theorem da_cX0_append_0 : fw dt_cX0_append_0 0 cX0_append.data.toList = true := by decide +kernel
theorem dX0_append_0 : decode cX0_append 0 = .ok (.aload_n 0, 1) := fo_42 (fw_get da_cX0_append_0 0 rfl)
theorem dX0_append_1 : decode cX0_append 1 = .ok (.getfield 15, 3) := fo_180 (fw_get da_cX0_append_0 1 rfl)
theorem dX0_append_4 : decode cX0_append 4 = .ok (.sipush 160, 3) := fo_17 (fw_get da_cX0_append_0 2 rfl) (by decide +kernel)
theorem dX0_append_7 : decode cX0_append 7 = .ok (.if_icmp .ge 23, 3) := fo_162 (fw_get da_cX0_append_0 3 rfl) (by decide +kernel)
theorem dX0_append_10 : decode cX0_append 10 = .ok (.aload_n 0, 1) := fo_42 (fw_get da_cX0_append_0 4 rfl)
theorem dX0_append_11 : decode cX0_append 11 = .ok (.getfield 9, 3) := fo_180 (fw_get da_cX0_append_0 5 rfl)
theorem dX0_append_14 : decode cX0_append 14 = .ok (.aload_n 0, 1) := fo_42 (fw_get da_cX0_append_0 6 rfl)
theorem dX0_append_15 : decode cX0_append 15 = .ok (.getfield 15, 3) := fo_180 (fw_get da_cX0_append_0 7 rfl)
theorem dX0_append_18 : decode cX0_append 18 = .ok (.iload_n 1, 1) := fo_27 (fw_get da_cX0_append_0 8 rfl)
theorem dX0_append_19 : decode cX0_append 19 = .ok (.iastore, 1) := fo_79 (fw_get da_cX0_append_0 9 rfl)
theorem dX0_append_20 : decode cX0_append 20 = .ok (.aload_n 0, 1) := fo_42 (fw_get da_cX0_append_0 10 rfl)
theorem dX0_append_21 : decode cX0_append 21 = .ok (.dup, 1) := fo_89 (fw_get da_cX0_append_0 11 rfl)
theorem dX0_append_22 : decode cX0_append 22 = .ok (.getfield 15, 3) := fo_180 (fw_get da_cX0_append_0 12 rfl)
theorem dX0_append_25 : decode cX0_append 25 = .ok (.iconst 1, 1) := fo_4 (fw_get da_cX0_append_0 13 rfl)
theorem dX0_append_26 : decode cX0_append 26 = .ok (.iadd, 1) := fo_96 (fw_get da_cX0_append_0 14 rfl)
theorem dX0_append_27 : decode cX0_append 27 = .ok (.putfield 15, 3) := fo_181 (fw_get da_cX0_append_0 15 rfl)
theorem dX0_append_30 : decode cX0_append 30 = .ok (.return_, 1) := fo_177 (fw_get da_cX0_append_0 16 rfl)
def dt_cX0_putIn_0 : List (Nat × Nat × Nat × Nat) := [(0, 27, 0, 0), (1, 155, 2, 21), (4, 27, 0, 0), (5, 42, 0, 0), (6, 180, 2, 15), (9, 163, 2, 13), (12, 42, 0, 0), (13, 180, 2, 15), (16, 17, 2, 160), (19, 161, 2, 4), (23, 42, 0, 0), (24, 180, 2, 15), (27, 62, 0, 0), (28, 29, 0, 0), (29, 27, 0, 0), (30, 164, 2, 23), (33, 42, 0, 0), (34, 180, 2, 9), (37, 29, 0, 0), (38, 42, 0, 0)]
theorem da_cX0_putIn_0 : fw dt_cX0_putIn_0 0 cX0_putIn.data.toList = true := by decide +kernel
theorem dX0_putIn_0 : decode cX0_putIn 0 = .ok (.iload_n 1, 1) := fo_27 (fw_get da_cX0_putIn_0 0 rfl)
theorem dX0_putIn_1 : decode cX0_putIn 1 = .ok (.ifCond .lt 21, 3) := fo_155 (fw_get da_cX0_putIn_0 1 rfl) (by decide +kernel)
theorem dX0_putIn_4 : decode cX0_putIn 4 = .ok (.iload_n 1, 1) := fo_27 (fw_get da_cX0_putIn_0 2 rfl)
theorem dX0_putIn_5 : decode cX0_putIn 5 = .ok (.aload_n 0, 1) := fo_42 (fw_get da_cX0_putIn_0 3 rfl)
theorem dX0_putIn_6 : decode cX0_putIn 6 = .ok (.getfield 15, 3) := fo_180 (fw_get da_cX0_putIn_0 4 rfl)
theorem dX0_putIn_9 : decode cX0_putIn 9 = .ok (.if_icmp .gt 13, 3) := fo_163 (fw_get da_cX0_putIn_0 5 rfl) (by decide +kernel)
theorem dX0_putIn_12 : decode cX0_putIn 12 = .ok (.aload_n 0, 1) := fo_42 (fw_get da_cX0_putIn_0 6 rfl)
theorem dX0_putIn_13 : decode cX0_putIn 13 = .ok (.getfield 15, 3) := fo_180 (fw_get da_cX0_putIn_0 7 rfl)
theorem dX0_putIn_16 : decode cX0_putIn 16 = .ok (.sipush 160, 3) := fo_17 (fw_get da_cX0_putIn_0 8 rfl) (by decide +kernel)
theorem dX0_putIn_19 : decode cX0_putIn 19 = .ok (.if_icmp .lt 4, 3) := fo_161 (fw_get da_cX0_putIn_0 9 rfl) (by decide +kernel)
theorem dX0_putIn_23 : decode cX0_putIn 23 = .ok (.aload_n 0, 1) := fo_42 (fw_get da_cX0_putIn_0 10 rfl)
theorem dX0_putIn_24 : decode cX0_putIn 24 = .ok (.getfield 15, 3) := fo_180 (fw_get da_cX0_putIn_0 11 rfl)
theorem dX0_putIn_27 : decode cX0_putIn 27 = .ok (.istore_n 3, 1) := fo_62 (fw_get da_cX0_putIn_0 12 rfl)
theorem dX0_putIn_28 : decode cX0_putIn 28 = .ok (.iload_n 3, 1) := fo_29 (fw_get da_cX0_putIn_0 13 rfl)
theorem dX0_putIn_29 : decode cX0_putIn 29 = .ok (.iload_n 1, 1) := fo_27 (fw_get da_cX0_putIn_0 14 rfl)
theorem dX0_putIn_30 : decode cX0_putIn 30 = .ok (.if_icmp .le 23, 3) := fo_164 (fw_get da_cX0_putIn_0 15 rfl) (by decide +kernel)
theorem dX0_putIn_33 : decode cX0_putIn 33 = .ok (.aload_n 0, 1) := fo_42 (fw_get da_cX0_putIn_0 16 rfl)
theorem dX0_putIn_34 : decode cX0_putIn 34 = .ok (.getfield 9, 3) := fo_180 (fw_get da_cX0_putIn_0 17 rfl)
theorem dX0_putIn_37 : decode cX0_putIn 37 = .ok (.iload_n 3, 1) := fo_29 (fw_get da_cX0_putIn_0 18 rfl)
theorem dX0_putIn_38 : decode cX0_putIn 38 = .ok (.aload_n 0, 1) := fo_42 (fw_get da_cX0_putIn_0 19 rfl)
def dt_cX0_putIn_1 : List (Nat × Nat × Nat × Nat) := [(39, 180, 2, 9), (42, 29, 0, 0), (43, 4, 0, 0), (44, 100, 0, 0), (45, 46, 0, 0), (46, 79, 0, 0), (47, 132, 2, 1023), (50, 167, 2, 65514), (53, 42, 0, 0), (54, 180, 2, 9), (57, 27, 0, 0), (58, 28, 0, 0), (59, 79, 0, 0), (60, 42, 0, 0), (61, 89, 0, 0), (62, 180, 2, 15), (65, 4, 0, 0), (66, 96, 0, 0), (67, 181, 2, 15), (70, 177, 0, 0)]
theorem da_cX0_putIn_1 : fw dt_cX0_putIn_1 0 cX0_putIn.data.toList = true := by decide +kernel
theorem dX0_putIn_39 : decode cX0_putIn 39 = .ok (.getfield 9, 3) := fo_180 (fw_get da_cX0_putIn_1 0 rfl)
theorem dX0_putIn_42 : decode cX0_putIn 42 = .ok (.iload_n 3, 1) := fo_29 (fw_get da_cX0_putIn_1 1 rfl)
theorem dX0_putIn_43 : decode cX0_putIn 43 = .ok (.iconst 1, 1) := fo_4 (fw_get da_cX0_putIn_1 2 rfl)
theorem dX0_putIn_44 : decode cX0_putIn 44 = .ok (.isub, 1) := fo_100 (fw_get da_cX0_putIn_1 3 rfl)
theorem dX0_putIn_45 : decode cX0_putIn 45 = .ok (.iaload, 1) := fo_46 (fw_get da_cX0_putIn_1 4 rfl)
theorem dX0_putIn_46 : decode cX0_putIn 46 = .ok (.iastore, 1) := fo_79 (fw_get da_cX0_putIn_1 5 rfl)
theorem dX0_putIn_47 : decode cX0_putIn 47 = .ok (.iinc 3 (-1), 3) := fo_132 (fw_get da_cX0_putIn_1 6 rfl) rfl (by decide +kernel)
theorem dX0_putIn_50 : decode cX0_putIn 50 = .ok (.goto (-22), 3) := fo_167 (fw_get da_cX0_putIn_1 7 rfl) (by decide +kernel)
theorem dX0_putIn_53 : decode cX0_putIn 53 = .ok (.aload_n 0, 1) := fo_42 (fw_get da_cX0_putIn_1 8 rfl)
theorem dX0_putIn_54 : decode cX0_putIn 54 = .ok (.getfield 9, 3) := fo_180 (fw_get da_cX0_putIn_1 9 rfl)
theorem dX0_putIn_57 : decode cX0_putIn 57 = .ok (.iload_n 1, 1) := fo_27 (fw_get da_cX0_putIn_1 10 rfl)
theorem dX0_putIn_58 : decode cX0_putIn 58 = .ok (.iload_n 2, 1) := fo_28 (fw_get da_cX0_putIn_1 11 rfl)
theorem dX0_putIn_59 : decode cX0_putIn 59 = .ok (.iastore, 1) := fo_79 (fw_get da_cX0_putIn_1 12 rfl)
theorem dX0_putIn_60 : decode cX0_putIn 60 = .ok (.aload_n 0, 1) := fo_42 (fw_get da_cX0_putIn_1 13 rfl)
theorem dX0_putIn_61 : decode cX0_putIn 61 = .ok (.dup, 1) := fo_89 (fw_get da_cX0_putIn_1 14 rfl)
theorem dX0_putIn_62 : decode cX0_putIn 62 = .ok (.getfield 15, 3) := fo_180 (fw_get da_cX0_putIn_1 15 rfl)
theorem dX0_putIn_65 : decode cX0_putIn 65 = .ok (.iconst 1, 1) := fo_4 (fw_get da_cX0_putIn_1 16 rfl)
theorem dX0_putIn_66 : decode cX0_putIn 66 = .ok (.iadd, 1) := fo_96 (fw_get da_cX0_putIn_1 17 rfl)
theorem dX0_putIn_67 : decode cX0_putIn 67 = .ok (.putfield 15, 3) := fo_181 (fw_get da_cX0_putIn_1 18 rfl)
theorem dX0_putIn_70 : decode cX0_putIn 70 = .ok (.return_, 1) := fo_177 (fw_get da_cX0_putIn_1 19 rfl)

