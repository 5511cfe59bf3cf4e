theorem nmX0 : ∀ a, a < 2 → ∀ b, b < 2 → a ≠ b → (TX0 a).2.1 ≠ (TX0 b).2.1 := by decide +kernel
theorem tyX0_ok : ∀ k, k < 2 → parseFieldDescriptor (TX0 k).2.2.1 = some (tyX0 k) := by decide +kernel
abbrev cX0_hasPlace : ByteArray := prog_2_method_2_code
def yX0_hasPlace : MethodName := ⟨RX0, "hasPlace", "(I)Z"⟩
abbrev cX0_hasRange : ByteArray := prog_2_method_3_code
def yX0_hasRange : MethodName := ⟨RX0, "hasRange", "(II)Z"⟩
abbrev cX0_append : ByteArray := prog_2_method_4_code
def yX0_append : MethodName := ⟨RX0, "append", "(I)V"⟩
abbrev cX0_putIn : ByteArray := prog_2_method_5_code
def yX0_putIn : MethodName := ⟨RX0, "putIn", "(II)V"⟩
def wsX0_hasPlace : List Cond := .code yX0_hasPlace cX0_hasPlace 2 (some .boolean) :: ([.fieldLink RX0 15 "MajorityIndex$Row" "length" "I"] ++ wsX00)
def wsX0_hasRange : List Cond := .code yX0_hasRange cX0_hasRange 3 (some .boolean) :: ([.fieldLink RX0 15 "MajorityIndex$Row" "length" "I"] ++ wsX00)
def wsX0_append : List Cond := .code yX0_append cX0_append 2 none :: ([.fieldLink RX0 15 "MajorityIndex$Row" "length" "I", .fieldLink RX0 9 "MajorityIndex$Row" "cell" "[I"] ++ wsX00)
def wsX0_putIn : List Cond := .code yX0_putIn cX0_putIn 4 none :: ([.fieldLink RX0 15 "MajorityIndex$Row" "length" "I", .fieldLink RX0 9 "MajorityIndex$Row" "cell" "[I"] ++ wsX00)
theorem dX0_hasPlace_0 : decode cX0_hasPlace 0 = .ok (.iload_n 1, 1) := by decide +kernel
theorem dX0_hasPlace_1 : decode cX0_hasPlace 1 = .ok (.ifCond .lt 15, 3) := by decide +kernel
theorem dX0_hasPlace_4 : decode cX0_hasPlace 4 = .ok (.iload_n 1, 1) := by decide +kernel
theorem dX0_hasPlace_5 : decode cX0_hasPlace 5 = .ok (.aload_n 0, 1) := by decide +kernel
theorem dX0_hasPlace_6 : decode cX0_hasPlace 6 = .ok (.getfield 15, 3) := by decide +kernel
theorem dX0_hasPlace_9 : decode cX0_hasPlace 9 = .ok (.if_icmp .ge 7, 3) := by decide +kernel
theorem dX0_hasPlace_12 : decode cX0_hasPlace 12 = .ok (.iconst 1, 1) := by decide +kernel
theorem dX0_hasPlace_13 : decode cX0_hasPlace 13 = .ok (.goto 4, 3) := by decide +kernel
theorem dX0_hasPlace_16 : decode cX0_hasPlace 16 = .ok (.iconst 0, 1) := by decide +kernel
theorem dX0_hasPlace_17 : decode cX0_hasPlace 17 = .ok (.ireturn, 1) := by decide +kernel
theorem dX0_hasRange_0 : decode cX0_hasRange 0 = .ok (.iload_n 1, 1) := by decide +kernel
theorem dX0_hasRange_1 : decode cX0_hasRange 1 = .ok (.ifCond .lt 20, 3) := by decide +kernel
theorem dX0_hasRange_4 : decode cX0_hasRange 4 = .ok (.iload_n 1, 1) := by decide +kernel
theorem dX0_hasRange_5 : decode cX0_hasRange 5 = .ok (.iload_n 2, 1) := by decide +kernel
theorem dX0_hasRange_6 : decode cX0_hasRange 6 = .ok (.if_icmp .ge 15, 3) := by decide +kernel
theorem dX0_hasRange_9 : decode cX0_hasRange 9 = .ok (.iload_n 2, 1) := by decide +kernel
theorem dX0_hasRange_10 : decode cX0_hasRange 10 = .ok (.aload_n 0, 1) := by decide +kernel
theorem dX0_hasRange_11 : decode cX0_hasRange 11 = .ok (.getfield 15, 3) := by decide +kernel
theorem dX0_hasRange_14 : decode cX0_hasRange 14 = .ok (.if_icmp .gt 7, 3) := by decide +kernel
theorem dX0_hasRange_17 : decode cX0_hasRange 17 = .ok (.iconst 1, 1) := by decide +kernel
theorem dX0_hasRange_18 : decode cX0_hasRange 18 = .ok (.goto 4, 3) := by decide +kernel
theorem dX0_hasRange_21 : decode cX0_hasRange 21 = .ok (.iconst 0, 1) := by decide +kernel
theorem dX0_hasRange_22 : decode cX0_hasRange 22 = .ok (.ireturn, 1) := by decide +kernel
theorem dX0_append_0 : decode cX0_append 0 = .ok (.aload_n 0, 1) := by decide +kernel
theorem dX0_append_1 : decode cX0_append 1 = .ok (.getfield 15, 3) := by decide +kernel
theorem dX0_append_4 : decode cX0_append 4 = .ok (.sipush 160, 3) := by decide +kernel
theorem dX0_append_7 : decode cX0_append 7 = .ok (.if_icmp .ge 23, 3) := by decide +kernel
theorem dX0_append_10 : decode cX0_append 10 = .ok (.aload_n 0, 1) := by decide +kernel
theorem dX0_append_11 : decode cX0_append 11 = .ok (.getfield 9, 3) := by decide +kernel
theorem dX0_append_14 : decode cX0_append 14 = .ok (.aload_n 0, 1) := by decide +kernel
theorem dX0_append_15 : decode cX0_append 15 = .ok (.getfield 15, 3) := by decide +kernel
theorem dX0_append_18 : decode cX0_append 18 = .ok (.iload_n 1, 1) := by decide +kernel
theorem dX0_append_19 : decode cX0_append 19 = .ok (.iastore, 1) := by decide +kernel
theorem dX0_append_20 : decode cX0_append 20 = .ok (.aload_n 0, 1) := by decide +kernel
theorem dX0_append_21 : decode cX0_append 21 = .ok (.dup, 1) := by decide +kernel
theorem dX0_append_22 : decode cX0_append 22 = .ok (.getfield 15, 3) := by decide +kernel
theorem dX0_append_25 : decode cX0_append 25 = .ok (.iconst 1, 1) := by decide +kernel
theorem dX0_append_26 : decode cX0_append 26 = .ok (.iadd, 1) := by decide +kernel
theorem dX0_append_27 : decode cX0_append 27 = .ok (.putfield 15, 3) := by decide +kernel
theorem dX0_append_30 : decode cX0_append 30 = .ok (.return_, 1) := by decide +kernel
theorem dX0_putIn_0 : decode cX0_putIn 0 = .ok (.iload_n 1, 1) := by decide +kernel
theorem dX0_putIn_1 : decode cX0_putIn 1 = .ok (.ifCond .lt 21, 3) := by decide +kernel
theorem dX0_putIn_4 : decode cX0_putIn 4 = .ok (.iload_n 1, 1) := by decide +kernel
theorem dX0_putIn_5 : decode cX0_putIn 5 = .ok (.aload_n 0, 1) := by decide +kernel
theorem dX0_putIn_6 : decode cX0_putIn 6 = .ok (.getfield 15, 3) := by decide +kernel
theorem dX0_putIn_9 : decode cX0_putIn 9 = .ok (.if_icmp .gt 13, 3) := by decide +kernel
theorem dX0_putIn_12 : decode cX0_putIn 12 = .ok (.aload_n 0, 1) := by decide +kernel
theorem dX0_putIn_13 : decode cX0_putIn 13 = .ok (.getfield 15, 3) := by decide +kernel
theorem dX0_putIn_16 : decode cX0_putIn 16 = .ok (.sipush 160, 3) := by decide +kernel
theorem dX0_putIn_19 : decode cX0_putIn 19 = .ok (.if_icmp .lt 4, 3) := by decide +kernel
theorem dX0_putIn_23 : decode cX0_putIn 23 = .ok (.aload_n 0, 1) := by decide +kernel
theorem dX0_putIn_24 : decode cX0_putIn 24 = .ok (.getfield 15, 3) := by decide +kernel
theorem dX0_putIn_27 : decode cX0_putIn 27 = .ok (.istore_n 3, 1) := by decide +kernel
theorem dX0_putIn_28 : decode cX0_putIn 28 = .ok (.iload_n 3, 1) := by decide +kernel
theorem dX0_putIn_29 : decode cX0_putIn 29 = .ok (.iload_n 1, 1) := by decide +kernel
theorem dX0_putIn_30 : decode cX0_putIn 30 = .ok (.if_icmp .le 23, 3) := by decide +kernel
theorem dX0_putIn_33 : decode cX0_putIn 33 = .ok (.aload_n 0, 1) := by decide +kernel
theorem dX0_putIn_34 : decode cX0_putIn 34 = .ok (.getfield 9, 3) := by decide +kernel
theorem dX0_putIn_37 : decode cX0_putIn 37 = .ok (.iload_n 3, 1) := by decide +kernel
theorem dX0_putIn_38 : decode cX0_putIn 38 = .ok (.aload_n 0, 1) := by decide +kernel
theorem dX0_putIn_39 : decode cX0_putIn 39 = .ok (.getfield 9, 3) := by decide +kernel
theorem dX0_putIn_42 : decode cX0_putIn 42 = .ok (.iload_n 3, 1) := by decide +kernel
theorem dX0_putIn_43 : decode cX0_putIn 43 = .ok (.iconst 1, 1) := by decide +kernel
theorem dX0_putIn_44 : decode cX0_putIn 44 = .ok (.isub, 1) := by decide +kernel
theorem dX0_putIn_45 : decode cX0_putIn 45 = .ok (.iaload, 1) := by decide +kernel
theorem dX0_putIn_46 : decode cX0_putIn 46 = .ok (.iastore, 1) := by decide +kernel
theorem dX0_putIn_47 : decode cX0_putIn 47 = .ok (.iinc 3 (-1), 3) := by decide +kernel
theorem dX0_putIn_50 : decode cX0_putIn 50 = .ok (.goto (-22), 3) := by decide +kernel
theorem dX0_putIn_53 : decode cX0_putIn 53 = .ok (.aload_n 0, 1) := by decide +kernel
theorem dX0_putIn_54 : decode cX0_putIn 54 = .ok (.getfield 9, 3) := by decide +kernel
theorem dX0_putIn_57 : decode cX0_putIn 57 = .ok (.iload_n 1, 1) := by decide +kernel
theorem dX0_putIn_58 : decode cX0_putIn 58 = .ok (.iload_n 2, 1) := by decide +kernel
theorem dX0_putIn_59 : decode cX0_putIn 59 = .ok (.iastore, 1) := by decide +kernel
theorem dX0_putIn_60 : decode cX0_putIn 60 = .ok (.aload_n 0, 1) := by decide +kernel
theorem dX0_putIn_61 : decode cX0_putIn 61 = .ok (.dup, 1) := by decide +kernel
theorem dX0_putIn_62 : decode cX0_putIn 62 = .ok (.getfield 15, 3) := by decide +kernel
theorem dX0_putIn_65 : decode cX0_putIn 65 = .ok (.iconst 1, 1) := by decide +kernel
theorem dX0_putIn_66 : decode cX0_putIn 66 = .ok (.iadd, 1) := by decide +kernel
theorem dX0_putIn_67 : decode cX0_putIn 67 = .ok (.putfield 15, 3) := by decide +kernel
theorem dX0_putIn_70 : decode cX0_putIn 70 = .ok (.return_, 1) := by decide +kernel

