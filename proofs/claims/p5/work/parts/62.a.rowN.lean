theorem nmX0 : ∀ a, a < 2 → ∀ b, b < 2 → a ≠ b → (TX0 a).2.1 ≠ (TX0 b).2.1 := by decide +kernel
theorem tyX0_ok : ∀ k, k < 2 → parseFieldDescriptor (TX0 k).2.2.1 = some (tyX0 k) := by decide +kernel
abbrev cX0_hasPlace : ByteArray := prog_2_method_2_code
def yX0_hasPlace : MethodName := ⟨RX0, "hasPlace", "(I)Z"⟩
abbrev cX0_hasRange : ByteArray := prog_2_method_3_code
def yX0_hasRange : MethodName := ⟨RX0, "hasRange", "(II)Z"⟩
abbrev cX0_append : ByteArray := prog_2_method_4_code
def yX0_append : MethodName := ⟨RX0, "append", "(I)V"⟩
abbrev cX0_putIn : ByteArray := prog_2_method_5_code
def yX0_putIn : MethodName := ⟨RX0, "putIn", "(II)V"⟩
def wsX0_hasPlace : List Cond := .code yX0_hasPlace cX0_hasPlace 2 (some .boolean) :: ([.fieldLink RX0 15 "MajorityIndex$Row" "length" "I"] ++ wsX00)
def wsX0_hasRange : List Cond := .code yX0_hasRange cX0_hasRange 3 (some .boolean) :: ([.fieldLink RX0 15 "MajorityIndex$Row" "length" "I"] ++ wsX00)
def wsX0_append : List Cond := .code yX0_append cX0_append 2 none :: ([.fieldLink RX0 15 "MajorityIndex$Row" "length" "I", .fieldLink RX0 9 "MajorityIndex$Row" "cell" "[I"] ++ wsX00)
def wsX0_putIn : List Cond := .code yX0_putIn cX0_putIn 4 none :: ([.fieldLink RX0 15 "MajorityIndex$Row" "length" "I", .fieldLink RX0 9 "MajorityIndex$Row" "cell" "[I"] ++ wsX00)
def dt_cX0_hasPlace_0 : List (Nat × Instr × Nat) := [(0, .iload_n 1, 1), (1, .ifCond .lt 15, 3), (4, .iload_n 1, 1), (5, .aload_n 0, 1), (6, .getfield 15, 3), (9, .if_icmp .ge 7, 3), (12, .iconst 1, 1), (13, .goto 4, 3), (16, .iconst 0, 1), (17, .ireturn, 1)]
theorem da_cX0_hasPlace_0 : dk_all cX0_hasPlace dt_cX0_hasPlace_0 = true := by decide +kernel
theorem dX0_hasPlace_0 : decode cX0_hasPlace 0 = .ok (.iload_n 1, 1) := dk_get _ da_cX0_hasPlace_0 0 _ _ _ rfl
theorem dX0_hasPlace_1 : decode cX0_hasPlace 1 = .ok (.ifCond .lt 15, 3) := dk_get _ da_cX0_hasPlace_0 1 _ _ _ rfl
theorem dX0_hasPlace_4 : decode cX0_hasPlace 4 = .ok (.iload_n 1, 1) := dk_get _ da_cX0_hasPlace_0 2 _ _ _ rfl
theorem dX0_hasPlace_5 : decode cX0_hasPlace 5 = .ok (.aload_n 0, 1) := dk_get _ da_cX0_hasPlace_0 3 _ _ _ rfl
theorem dX0_hasPlace_6 : decode cX0_hasPlace 6 = .ok (.getfield 15, 3) := dk_get _ da_cX0_hasPlace_0 4 _ _ _ rfl
theorem dX0_hasPlace_9 : decode cX0_hasPlace 9 = .ok (.if_icmp .ge 7, 3) := dk_get _ da_cX0_hasPlace_0 5 _ _ _ rfl
theorem dX0_hasPlace_12 : decode cX0_hasPlace 12 = .ok (.iconst 1, 1) := dk_get _ da_cX0_hasPlace_0 6 _ _ _ rfl
theorem dX0_hasPlace_13 : decode cX0_hasPlace 13 = .ok (.goto 4, 3) := dk_get _ da_cX0_hasPlace_0 7 _ _ _ rfl
theorem dX0_hasPlace_16 : decode cX0_hasPlace 16 = .ok (.iconst 0, 1) := dk_get _ da_cX0_hasPlace_0 8 _ _ _ rfl
theorem dX0_hasPlace_17 : decode cX0_hasPlace 17 = .ok (.ireturn, 1) := dk_get _ da_cX0_hasPlace_0 9 _ _ _ rfl
def dt_cX0_hasRange_0 : List (Nat × Instr × Nat) := [(0, .iload_n 1, 1), (1, .ifCond .lt 20, 3), (4, .iload_n 1, 1), (5, .iload_n 2, 1), (6, .if_icmp .ge 15, 3), (9, .iload_n 2, 1), (10, .aload_n 0, 1), (11, .getfield 15, 3), (14, .if_icmp .gt 7, 3), (17, .iconst 1, 1), (18, .goto 4, 3), (21, .iconst 0, 1), (22, .ireturn, 1)]
theorem da_cX0_hasRange_0 : dk_all cX0_hasRange dt_cX0_hasRange_0 = true := by decide +kernel
theorem dX0_hasRange_0 : decode cX0_hasRange 0 = .ok (.iload_n 1, 1) := dk_get _ da_cX0_hasRange_0 0 _ _ _ rfl
theorem dX0_hasRange_1 : decode cX0_hasRange 1 = .ok (.ifCond .lt 20, 3) := dk_get _ da_cX0_hasRange_0 1 _ _ _ rfl
theorem dX0_hasRange_4 : decode cX0_hasRange 4 = .ok (.iload_n 1, 1) := dk_get _ da_cX0_hasRange_0 2 _ _ _ rfl
theorem dX0_hasRange_5 : decode cX0_hasRange 5 = .ok (.iload_n 2, 1) := dk_get _ da_cX0_hasRange_0 3 _ _ _ rfl
theorem dX0_hasRange_6 : decode cX0_hasRange 6 = .ok (.if_icmp .ge 15, 3) := dk_get _ da_cX0_hasRange_0 4 _ _ _ rfl
theorem dX0_hasRange_9 : decode cX0_hasRange 9 = .ok (.iload_n 2, 1) := dk_get _ da_cX0_hasRange_0 5 _ _ _ rfl
theorem dX0_hasRange_10 : decode cX0_hasRange 10 = .ok (.aload_n 0, 1) := dk_get _ da_cX0_hasRange_0 6 _ _ _ rfl
theorem dX0_hasRange_11 : decode cX0_hasRange 11 = .ok (.getfield 15, 3) := dk_get _ da_cX0_hasRange_0 7 _ _ _ rfl
theorem dX0_hasRange_14 : decode cX0_hasRange 14 = .ok (.if_icmp .gt 7, 3) := dk_get _ da_cX0_hasRange_0 8 _ _ _ rfl
theorem dX0_hasRange_17 : decode cX0_hasRange 17 = .ok (.iconst 1, 1) := dk_get _ da_cX0_hasRange_0 9 _ _ _ rfl
theorem dX0_hasRange_18 : decode cX0_hasRange 18 = .ok (.goto 4, 3) := dk_get _ da_cX0_hasRange_0 10 _ _ _ rfl
theorem dX0_hasRange_21 : decode cX0_hasRange 21 = .ok (.iconst 0, 1) := dk_get _ da_cX0_hasRange_0 11 _ _ _ rfl
theorem dX0_hasRange_22 : decode cX0_hasRange 22 = .ok (.ireturn, 1) := dk_get _ da_cX0_hasRange_0 12 _ _ _ rfl
def dt_cX0_append_0 : List (Nat × Instr × Nat) := [(0, .aload_n 0, 1), (1, .getfield 15, 3), (4, .sipush 160, 3), (7, .if_icmp .ge 23, 3), (10, .aload_n 0, 1), (11, .getfield 9, 3), (14, .aload_n 0, 1), (15, .getfield 15, 3), (18, .iload_n 1, 1), (19, .iastore, 1), (20, .aload_n 0, 1), (21, .dup, 1), (22, .getfield 15, 3), (25, .iconst 1, 1), (26, .iadd, 1), (27, .putfield 15, 3), (30, .return_, 1)]
theorem da_cX0_append_0 : dk_all cX0_append dt_cX0_append_0 = true := by decide +kernel
theorem dX0_append_0 : decode cX0_append 0 = .ok (.aload_n 0, 1) := dk_get _ da_cX0_append_0 0 _ _ _ rfl
theorem dX0_append_1 : decode cX0_append 1 = .ok (.getfield 15, 3) := dk_get _ da_cX0_append_0 1 _ _ _ rfl
theorem dX0_append_4 : decode cX0_append 4 = .ok (.sipush 160, 3) := dk_get _ da_cX0_append_0 2 _ _ _ rfl
theorem dX0_append_7 : decode cX0_append 7 = .ok (.if_icmp .ge 23, 3) := dk_get _ da_cX0_append_0 3 _ _ _ rfl
theorem dX0_append_10 : decode cX0_append 10 = .ok (.aload_n 0, 1) := dk_get _ da_cX0_append_0 4 _ _ _ rfl
theorem dX0_append_11 : decode cX0_append 11 = .ok (.getfield 9, 3) := dk_get _ da_cX0_append_0 5 _ _ _ rfl
theorem dX0_append_14 : decode cX0_append 14 = .ok (.aload_n 0, 1) := dk_get _ da_cX0_append_0 6 _ _ _ rfl
theorem dX0_append_15 : decode cX0_append 15 = .ok (.getfield 15, 3) := dk_get _ da_cX0_append_0 7 _ _ _ rfl
theorem dX0_append_18 : decode cX0_append 18 = .ok (.iload_n 1, 1) := dk_get _ da_cX0_append_0 8 _ _ _ rfl
theorem dX0_append_19 : decode cX0_append 19 = .ok (.iastore, 1) := dk_get _ da_cX0_append_0 9 _ _ _ rfl
theorem dX0_append_20 : decode cX0_append 20 = .ok (.aload_n 0, 1) := dk_get _ da_cX0_append_0 10 _ _ _ rfl
theorem dX0_append_21 : decode cX0_append 21 = .ok (.dup, 1) := dk_get _ da_cX0_append_0 11 _ _ _ rfl
theorem dX0_append_22 : decode cX0_append 22 = .ok (.getfield 15, 3) := dk_get _ da_cX0_append_0 12 _ _ _ rfl
theorem dX0_append_25 : decode cX0_append 25 = .ok (.iconst 1, 1) := dk_get _ da_cX0_append_0 13 _ _ _ rfl
theorem dX0_append_26 : decode cX0_append 26 = .ok (.iadd, 1) := dk_get _ da_cX0_append_0 14 _ _ _ rfl
theorem dX0_append_27 : decode cX0_append 27 = .ok (.putfield 15, 3) := dk_get _ da_cX0_append_0 15 _ _ _ rfl
theorem dX0_append_30 : decode cX0_append 30 = .ok (.return_, 1) := dk_get _ da_cX0_append_0 16 _ _ _ rfl
def dt_cX0_putIn_0 : List (Nat × Instr × Nat) := [(0, .iload_n 1, 1), (1, .ifCond .lt 21, 3), (4, .iload_n 1, 1), (5, .aload_n 0, 1), (6, .getfield 15, 3), (9, .if_icmp .gt 13, 3), (12, .aload_n 0, 1), (13, .getfield 15, 3), (16, .sipush 160, 3), (19, .if_icmp .lt 4, 3), (23, .aload_n 0, 1), (24, .getfield 15, 3), (27, .istore_n 3, 1), (28, .iload_n 3, 1), (29, .iload_n 1, 1), (30, .if_icmp .le 23, 3), (33, .aload_n 0, 1), (34, .getfield 9, 3), (37, .iload_n 3, 1), (38, .aload_n 0, 1), (39, .getfield 9, 3), (42, .iload_n 3, 1), (43, .iconst 1, 1), (44, .isub, 1), (45, .iaload, 1), (46, .iastore, 1), (47, .iinc 3 (-1), 3), (50, .goto (-22), 3), (53, .aload_n 0, 1), (54, .getfield 9, 3), (57, .iload_n 1, 1), (58, .iload_n 2, 1), (59, .iastore, 1), (60, .aload_n 0, 1), (61, .dup, 1), (62, .getfield 15, 3), (65, .iconst 1, 1), (66, .iadd, 1), (67, .putfield 15, 3), (70, .return_, 1)]
theorem da_cX0_putIn_0 : dk_all cX0_putIn dt_cX0_putIn_0 = true := by decide +kernel
theorem dX0_putIn_0 : decode cX0_putIn 0 = .ok (.iload_n 1, 1) := dk_get _ da_cX0_putIn_0 0 _ _ _ rfl
theorem dX0_putIn_1 : decode cX0_putIn 1 = .ok (.ifCond .lt 21, 3) := dk_get _ da_cX0_putIn_0 1 _ _ _ rfl
theorem dX0_putIn_4 : decode cX0_putIn 4 = .ok (.iload_n 1, 1) := dk_get _ da_cX0_putIn_0 2 _ _ _ rfl
theorem dX0_putIn_5 : decode cX0_putIn 5 = .ok (.aload_n 0, 1) := dk_get _ da_cX0_putIn_0 3 _ _ _ rfl
theorem dX0_putIn_6 : decode cX0_putIn 6 = .ok (.getfield 15, 3) := dk_get _ da_cX0_putIn_0 4 _ _ _ rfl
theorem dX0_putIn_9 : decode cX0_putIn 9 = .ok (.if_icmp .gt 13, 3) := dk_get _ da_cX0_putIn_0 5 _ _ _ rfl
theorem dX0_putIn_12 : decode cX0_putIn 12 = .ok (.aload_n 0, 1) := dk_get _ da_cX0_putIn_0 6 _ _ _ rfl
theorem dX0_putIn_13 : decode cX0_putIn 13 = .ok (.getfield 15, 3) := dk_get _ da_cX0_putIn_0 7 _ _ _ rfl
theorem dX0_putIn_16 : decode cX0_putIn 16 = .ok (.sipush 160, 3) := dk_get _ da_cX0_putIn_0 8 _ _ _ rfl
theorem dX0_putIn_19 : decode cX0_putIn 19 = .ok (.if_icmp .lt 4, 3) := dk_get _ da_cX0_putIn_0 9 _ _ _ rfl
theorem dX0_putIn_23 : decode cX0_putIn 23 = .ok (.aload_n 0, 1) := dk_get _ da_cX0_putIn_0 10 _ _ _ rfl
theorem dX0_putIn_24 : decode cX0_putIn 24 = .ok (.getfield 15, 3) := dk_get _ da_cX0_putIn_0 11 _ _ _ rfl
theorem dX0_putIn_27 : decode cX0_putIn 27 = .ok (.istore_n 3, 1) := dk_get _ da_cX0_putIn_0 12 _ _ _ rfl
theorem dX0_putIn_28 : decode cX0_putIn 28 = .ok (.iload_n 3, 1) := dk_get _ da_cX0_putIn_0 13 _ _ _ rfl
theorem dX0_putIn_29 : decode cX0_putIn 29 = .ok (.iload_n 1, 1) := dk_get _ da_cX0_putIn_0 14 _ _ _ rfl
theorem dX0_putIn_30 : decode cX0_putIn 30 = .ok (.if_icmp .le 23, 3) := dk_get _ da_cX0_putIn_0 15 _ _ _ rfl
theorem dX0_putIn_33 : decode cX0_putIn 33 = .ok (.aload_n 0, 1) := dk_get _ da_cX0_putIn_0 16 _ _ _ rfl
theorem dX0_putIn_34 : decode cX0_putIn 34 = .ok (.getfield 9, 3) := dk_get _ da_cX0_putIn_0 17 _ _ _ rfl
theorem dX0_putIn_37 : decode cX0_putIn 37 = .ok (.iload_n 3, 1) := dk_get _ da_cX0_putIn_0 18 _ _ _ rfl
theorem dX0_putIn_38 : decode cX0_putIn 38 = .ok (.aload_n 0, 1) := dk_get _ da_cX0_putIn_0 19 _ _ _ rfl
theorem dX0_putIn_39 : decode cX0_putIn 39 = .ok (.getfield 9, 3) := dk_get _ da_cX0_putIn_0 20 _ _ _ rfl
theorem dX0_putIn_42 : decode cX0_putIn 42 = .ok (.iload_n 3, 1) := dk_get _ da_cX0_putIn_0 21 _ _ _ rfl
theorem dX0_putIn_43 : decode cX0_putIn 43 = .ok (.iconst 1, 1) := dk_get _ da_cX0_putIn_0 22 _ _ _ rfl
theorem dX0_putIn_44 : decode cX0_putIn 44 = .ok (.isub, 1) := dk_get _ da_cX0_putIn_0 23 _ _ _ rfl
theorem dX0_putIn_45 : decode cX0_putIn 45 = .ok (.iaload, 1) := dk_get _ da_cX0_putIn_0 24 _ _ _ rfl
theorem dX0_putIn_46 : decode cX0_putIn 46 = .ok (.iastore, 1) := dk_get _ da_cX0_putIn_0 25 _ _ _ rfl
theorem dX0_putIn_47 : decode cX0_putIn 47 = .ok (.iinc 3 (-1), 3) := dk_get _ da_cX0_putIn_0 26 _ _ _ rfl
theorem dX0_putIn_50 : decode cX0_putIn 50 = .ok (.goto (-22), 3) := dk_get _ da_cX0_putIn_0 27 _ _ _ rfl
theorem dX0_putIn_53 : decode cX0_putIn 53 = .ok (.aload_n 0, 1) := dk_get _ da_cX0_putIn_0 28 _ _ _ rfl
theorem dX0_putIn_54 : decode cX0_putIn 54 = .ok (.getfield 9, 3) := dk_get _ da_cX0_putIn_0 29 _ _ _ rfl
theorem dX0_putIn_57 : decode cX0_putIn 57 = .ok (.iload_n 1, 1) := dk_get _ da_cX0_putIn_0 30 _ _ _ rfl
theorem dX0_putIn_58 : decode cX0_putIn 58 = .ok (.iload_n 2, 1) := dk_get _ da_cX0_putIn_0 31 _ _ _ rfl
theorem dX0_putIn_59 : decode cX0_putIn 59 = .ok (.iastore, 1) := dk_get _ da_cX0_putIn_0 32 _ _ _ rfl
theorem dX0_putIn_60 : decode cX0_putIn 60 = .ok (.aload_n 0, 1) := dk_get _ da_cX0_putIn_0 33 _ _ _ rfl
theorem dX0_putIn_61 : decode cX0_putIn 61 = .ok (.dup, 1) := dk_get _ da_cX0_putIn_0 34 _ _ _ rfl
theorem dX0_putIn_62 : decode cX0_putIn 62 = .ok (.getfield 15, 3) := dk_get _ da_cX0_putIn_0 35 _ _ _ rfl
theorem dX0_putIn_65 : decode cX0_putIn 65 = .ok (.iconst 1, 1) := dk_get _ da_cX0_putIn_0 36 _ _ _ rfl
theorem dX0_putIn_66 : decode cX0_putIn 66 = .ok (.iadd, 1) := dk_get _ da_cX0_putIn_0 37 _ _ _ rfl
theorem dX0_putIn_67 : decode cX0_putIn 67 = .ok (.putfield 15, 3) := dk_get _ da_cX0_putIn_0 38 _ _ _ rfl
theorem dX0_putIn_70 : decode cX0_putIn 70 = .ok (.return_, 1) := dk_get _ da_cX0_putIn_0 39 _ _ _ rfl

