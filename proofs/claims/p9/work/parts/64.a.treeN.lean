abbrev wsX20 : List Cond := u_ws RX2 TX2 11
theorem nmX2 : ∀ a, a < 11 → ∀ b, b < 11 → a ≠ b → (TX2 a).2.1 ≠ (TX2 b).2.1 := by decide +kernel
theorem tyX2_ok : ∀ k, k < 11 → parseFieldDescriptor (TX2 k).2.2.1 = some (tyX2 k) := by decide +kernel
abbrev cX2_layRanges : ByteArray := prog_4_method_2_code
def yX2_layRanges : MethodName := ⟨RX2, "layRanges", "()V"⟩
abbrev cX2_layBelow : ByteArray := prog_4_method_3_code
def yX2_layBelow : MethodName := ⟨RX2, "layBelow", "(I)V"⟩
abbrev cX2_rightBelow : ByteArray := prog_4_method_4_code
def yX2_rightBelow : MethodName := ⟨RX2, "rightBelow", "(I)I"⟩
def wsX2_rightBelow : List Cond := .code yX2_rightBelow cX2_rightBelow 3 (some .int) :: ([.fieldLink RX2 18 "MajorityIndex$Tree" "from" "[I", .fieldLink RX2 22 "MajorityIndex$Tree" "to" "[I"] ++ wsX20)
def wsX2_layBelow : List Cond := .code yX2_layBelow cX2_layBelow 4 none :: ([.fieldLink RX2 18 "MajorityIndex$Tree" "from" "[I", .fieldLink RX2 22 "MajorityIndex$Tree" "to" "[I", .methodLink RX2 57 yX2_rightBelow, .instanceMethod yX2_rightBelow, .selects RX2 yX2_rightBelow yX2_rightBelow, .initialized RX2, .code yX2_rightBelow cX2_rightBelow 3 (some .int)] ++ wsX20)
def wsX2_layRanges : List Cond := .code yX2_layRanges cX2_layRanges 2 none :: ([.fieldLink RX2 40 "MajorityIndex$Tree" "row" "LMajorityIndex$Row;", .fieldLink RX2 44 "MajorityIndex$Row" "length" "I", .fieldLink RX2 50 "MajorityIndex$Tree" "nodes" "I", .fieldLink RX2 18 "MajorityIndex$Tree" "from" "[I", .fieldLink RX2 22 "MajorityIndex$Tree" "to" "[I", .methodLink RX2 53 yX2_layBelow, .instanceMethod yX2_layBelow, .selects RX2 yX2_layBelow yX2_layBelow, .initialized RX2, .code yX2_layBelow cX2_layBelow 4 none, .methodLink RX2 57 yX2_rightBelow, .instanceMethod yX2_rightBelow, .selects RX2 yX2_rightBelow yX2_rightBelow, .code yX2_rightBelow cX2_rightBelow 3 (some .int)] ++ wsX20 ++ wsX00)
set_option maxRecDepth 20000 in
theorem ggX2_layRanges_X2_layBelow : GoodIn wsX2_layRanges wsX2_layBelow := goodIn_r _ [10, 4, 5, 11, 12, 13, 9, 14, 15, 16, 17, 18, 19, 20, 21, 22, 23, 24, 25] rfl (by decide +kernel)
set_option maxRecDepth 20000 in
theorem gX2_layRanges_X2_layBelow : GoodIn wsX2_layRanges (wsV RX2 53 RX2 yX2_layBelow wsX2_layBelow) := goodIn_app (goodIn_of _ (by decide +kernel)) ggX2_layRanges_X2_layBelow
theorem dX2_layRanges_0 : decode cX2_layRanges 0 = .ok (.aload_n 0, 1) := by decide +kernel
theorem dX2_layRanges_1 : decode cX2_layRanges 1 = .ok (.aload_n 0, 1) := by decide +kernel
theorem dX2_layRanges_2 : decode cX2_layRanges 2 = .ok (.getfield 40, 3) := by decide +kernel
theorem dX2_layRanges_5 : decode cX2_layRanges 5 = .ok (.getfield 44, 3) := by decide +kernel
theorem dX2_layRanges_8 : decode cX2_layRanges 8 = .ok (.ifCond .ne 7, 3) := by decide +kernel
theorem dX2_layRanges_11 : decode cX2_layRanges 11 = .ok (.iconst 0, 1) := by decide +kernel
theorem dX2_layRanges_12 : decode cX2_layRanges 12 = .ok (.goto 14, 3) := by decide +kernel
theorem dX2_layRanges_15 : decode cX2_layRanges 15 = .ok (.iconst 2, 1) := by decide +kernel
theorem dX2_layRanges_16 : decode cX2_layRanges 16 = .ok (.aload_n 0, 1) := by decide +kernel
theorem dX2_layRanges_17 : decode cX2_layRanges 17 = .ok (.getfield 40, 3) := by decide +kernel
theorem dX2_layRanges_20 : decode cX2_layRanges 20 = .ok (.getfield 44, 3) := by decide +kernel
theorem dX2_layRanges_23 : decode cX2_layRanges 23 = .ok (.imul, 1) := by decide +kernel
theorem dX2_layRanges_24 : decode cX2_layRanges 24 = .ok (.iconst 1, 1) := by decide +kernel
theorem dX2_layRanges_25 : decode cX2_layRanges 25 = .ok (.isub, 1) := by decide +kernel
theorem dX2_layRanges_26 : decode cX2_layRanges 26 = .ok (.putfield 50, 3) := by decide +kernel
theorem dX2_layRanges_29 : decode cX2_layRanges 29 = .ok (.aload_n 0, 1) := by decide +kernel
theorem dX2_layRanges_30 : decode cX2_layRanges 30 = .ok (.getfield 18, 3) := by decide +kernel
theorem dX2_layRanges_33 : decode cX2_layRanges 33 = .ok (.iconst 0, 1) := by decide +kernel
theorem dX2_layRanges_34 : decode cX2_layRanges 34 = .ok (.iconst 0, 1) := by decide +kernel
theorem dX2_layRanges_35 : decode cX2_layRanges 35 = .ok (.iastore, 1) := by decide +kernel
theorem dX2_layRanges_36 : decode cX2_layRanges 36 = .ok (.aload_n 0, 1) := by decide +kernel
theorem dX2_layRanges_37 : decode cX2_layRanges 37 = .ok (.getfield 22, 3) := by decide +kernel
theorem dX2_layRanges_40 : decode cX2_layRanges 40 = .ok (.iconst 0, 1) := by decide +kernel
theorem dX2_layRanges_41 : decode cX2_layRanges 41 = .ok (.aload_n 0, 1) := by decide +kernel
theorem dX2_layRanges_42 : decode cX2_layRanges 42 = .ok (.getfield 40, 3) := by decide +kernel
theorem dX2_layRanges_45 : decode cX2_layRanges 45 = .ok (.getfield 44, 3) := by decide +kernel
theorem dX2_layRanges_48 : decode cX2_layRanges 48 = .ok (.iastore, 1) := by decide +kernel
theorem dX2_layRanges_49 : decode cX2_layRanges 49 = .ok (.iconst 0, 1) := by decide +kernel
theorem dX2_layRanges_50 : decode cX2_layRanges 50 = .ok (.istore_n 1, 1) := by decide +kernel
theorem dX2_layRanges_51 : decode cX2_layRanges 51 = .ok (.iload_n 1, 1) := by decide +kernel
theorem dX2_layRanges_52 : decode cX2_layRanges 52 = .ok (.aload_n 0, 1) := by decide +kernel
theorem dX2_layRanges_53 : decode cX2_layRanges 53 = .ok (.getfield 50, 3) := by decide +kernel
theorem dX2_layRanges_56 : decode cX2_layRanges 56 = .ok (.if_icmp .ge 31, 3) := by decide +kernel
theorem dX2_layRanges_59 : decode cX2_layRanges 59 = .ok (.aload_n 0, 1) := by decide +kernel
theorem dX2_layRanges_60 : decode cX2_layRanges 60 = .ok (.getfield 22, 3) := by decide +kernel
theorem dX2_layRanges_63 : decode cX2_layRanges 63 = .ok (.iload_n 1, 1) := by decide +kernel
theorem dX2_layRanges_64 : decode cX2_layRanges 64 = .ok (.iaload, 1) := by decide +kernel
theorem dX2_layRanges_65 : decode cX2_layRanges 65 = .ok (.aload_n 0, 1) := by decide +kernel
theorem dX2_layRanges_66 : decode cX2_layRanges 66 = .ok (.getfield 18, 3) := by decide +kernel
theorem dX2_layRanges_69 : decode cX2_layRanges 69 = .ok (.iload_n 1, 1) := by decide +kernel
theorem dX2_layRanges_70 : decode cX2_layRanges 70 = .ok (.iaload, 1) := by decide +kernel
theorem dX2_layRanges_71 : decode cX2_layRanges 71 = .ok (.isub, 1) := by decide +kernel
theorem dX2_layRanges_72 : decode cX2_layRanges 72 = .ok (.iconst 1, 1) := by decide +kernel
theorem dX2_layRanges_73 : decode cX2_layRanges 73 = .ok (.if_icmp .le 8, 3) := by decide +kernel
theorem dX2_layRanges_76 : decode cX2_layRanges 76 = .ok (.aload_n 0, 1) := by decide +kernel
theorem dX2_layRanges_77 : decode cX2_layRanges 77 = .ok (.iload_n 1, 1) := by decide +kernel
theorem dX2_layRanges_78 : decode cX2_layRanges 78 = .ok (.invokevirtual 53, 3) := by decide +kernel
theorem dX2_layRanges_81 : decode cX2_layRanges 81 = .ok (.iinc 1 1, 3) := by decide +kernel
theorem dX2_layRanges_84 : decode cX2_layRanges 84 = .ok (.goto (-33), 3) := by decide +kernel
theorem dX2_layRanges_87 : decode cX2_layRanges 87 = .ok (.return_, 1) := by decide +kernel
set_option maxRecDepth 20000 in
theorem ggX2_layBelow_X2_rightBelow : GoodIn wsX2_layBelow wsX2_rightBelow := goodIn_r _ [7, 1, 2, 8, 9, 10, 11, 12, 13, 14, 15, 16, 17, 18] rfl (by decide +kernel)
set_option maxRecDepth 20000 in
theorem gX2_layBelow_X2_rightBelow : GoodIn wsX2_layBelow (wsV RX2 57 RX2 yX2_rightBelow wsX2_rightBelow) := goodIn_app (goodIn_of _ (by decide +kernel)) ggX2_layBelow_X2_rightBelow
theorem dX2_layBelow_0 : decode cX2_layBelow 0 = .ok (.aload_n 0, 1) := by decide +kernel
theorem dX2_layBelow_1 : decode cX2_layBelow 1 = .ok (.getfield 18, 3) := by decide +kernel
theorem dX2_layBelow_4 : decode cX2_layBelow 4 = .ok (.iload_n 1, 1) := by decide +kernel
theorem dX2_layBelow_5 : decode cX2_layBelow 5 = .ok (.iaload, 1) := by decide +kernel
theorem dX2_layBelow_6 : decode cX2_layBelow 6 = .ok (.aload_n 0, 1) := by decide +kernel
theorem dX2_layBelow_7 : decode cX2_layBelow 7 = .ok (.getfield 22, 3) := by decide +kernel
theorem dX2_layBelow_10 : decode cX2_layBelow 10 = .ok (.iload_n 1, 1) := by decide +kernel
theorem dX2_layBelow_11 : decode cX2_layBelow 11 = .ok (.iaload, 1) := by decide +kernel
theorem dX2_layBelow_12 : decode cX2_layBelow 12 = .ok (.iadd, 1) := by decide +kernel
theorem dX2_layBelow_13 : decode cX2_layBelow 13 = .ok (.iconst 2, 1) := by decide +kernel
theorem dX2_layBelow_14 : decode cX2_layBelow 14 = .ok (.idiv, 1) := by decide +kernel
theorem dX2_layBelow_15 : decode cX2_layBelow 15 = .ok (.istore_n 2, 1) := by decide +kernel
theorem dX2_layBelow_16 : decode cX2_layBelow 16 = .ok (.aload_n 0, 1) := by decide +kernel
theorem dX2_layBelow_17 : decode cX2_layBelow 17 = .ok (.iload_n 1, 1) := by decide +kernel
theorem dX2_layBelow_18 : decode cX2_layBelow 18 = .ok (.invokevirtual 57, 3) := by decide +kernel
theorem dX2_layBelow_21 : decode cX2_layBelow 21 = .ok (.istore_n 3, 1) := by decide +kernel
theorem dX2_layBelow_22 : decode cX2_layBelow 22 = .ok (.aload_n 0, 1) := by decide +kernel
theorem dX2_layBelow_23 : decode cX2_layBelow 23 = .ok (.getfield 18, 3) := by decide +kernel
theorem dX2_layBelow_26 : decode cX2_layBelow 26 = .ok (.iload_n 1, 1) := by decide +kernel
theorem dX2_layBelow_27 : decode cX2_layBelow 27 = .ok (.iconst 1, 1) := by decide +kernel
theorem dX2_layBelow_28 : decode cX2_layBelow 28 = .ok (.iadd, 1) := by decide +kernel
theorem dX2_layBelow_29 : decode cX2_layBelow 29 = .ok (.aload_n 0, 1) := by decide +kernel
theorem dX2_layBelow_30 : decode cX2_layBelow 30 = .ok (.getfield 18, 3) := by decide +kernel
theorem dX2_layBelow_33 : decode cX2_layBelow 33 = .ok (.iload_n 1, 1) := by decide +kernel
theorem dX2_layBelow_34 : decode cX2_layBelow 34 = .ok (.iaload, 1) := by decide +kernel
theorem dX2_layBelow_35 : decode cX2_layBelow 35 = .ok (.iastore, 1) := by decide +kernel
theorem dX2_layBelow_36 : decode cX2_layBelow 36 = .ok (.aload_n 0, 1) := by decide +kernel
theorem dX2_layBelow_37 : decode cX2_layBelow 37 = .ok (.getfield 22, 3) := by decide +kernel
theorem dX2_layBelow_40 : decode cX2_layBelow 40 = .ok (.iload_n 1, 1) := by decide +kernel
theorem dX2_layBelow_41 : decode cX2_layBelow 41 = .ok (.iconst 1, 1) := by decide +kernel
theorem dX2_layBelow_42 : decode cX2_layBelow 42 = .ok (.iadd, 1) := by decide +kernel
theorem dX2_layBelow_43 : decode cX2_layBelow 43 = .ok (.iload_n 2, 1) := by decide +kernel
theorem dX2_layBelow_44 : decode cX2_layBelow 44 = .ok (.iastore, 1) := by decide +kernel
theorem dX2_layBelow_45 : decode cX2_layBelow 45 = .ok (.aload_n 0, 1) := by decide +kernel
theorem dX2_layBelow_46 : decode cX2_layBelow 46 = .ok (.getfield 18, 3) := by decide +kernel
theorem dX2_layBelow_49 : decode cX2_layBelow 49 = .ok (.iload_n 3, 1) := by decide +kernel
theorem dX2_layBelow_50 : decode cX2_layBelow 50 = .ok (.iload_n 2, 1) := by decide +kernel
theorem dX2_layBelow_51 : decode cX2_layBelow 51 = .ok (.iastore, 1) := by decide +kernel
theorem dX2_layBelow_52 : decode cX2_layBelow 52 = .ok (.aload_n 0, 1) := by decide +kernel
theorem dX2_layBelow_53 : decode cX2_layBelow 53 = .ok (.getfield 22, 3) := by decide +kernel
theorem dX2_layBelow_56 : decode cX2_layBelow 56 = .ok (.iload_n 3, 1) := by decide +kernel
theorem dX2_layBelow_57 : decode cX2_layBelow 57 = .ok (.aload_n 0, 1) := by decide +kernel
theorem dX2_layBelow_58 : decode cX2_layBelow 58 = .ok (.getfield 22, 3) := by decide +kernel
theorem dX2_layBelow_61 : decode cX2_layBelow 61 = .ok (.iload_n 1, 1) := by decide +kernel
theorem dX2_layBelow_62 : decode cX2_layBelow 62 = .ok (.iaload, 1) := by decide +kernel
theorem dX2_layBelow_63 : decode cX2_layBelow 63 = .ok (.iastore, 1) := by decide +kernel
theorem dX2_layBelow_64 : decode cX2_layBelow 64 = .ok (.return_, 1) := by decide +kernel
theorem dX2_rightBelow_0 : decode cX2_rightBelow 0 = .ok (.aload_n 0, 1) := by decide +kernel
theorem dX2_rightBelow_1 : decode cX2_rightBelow 1 = .ok (.getfield 18, 3) := by decide +kernel
theorem dX2_rightBelow_4 : decode cX2_rightBelow 4 = .ok (.iload_n 1, 1) := by decide +kernel
theorem dX2_rightBelow_5 : decode cX2_rightBelow 5 = .ok (.iaload, 1) := by decide +kernel
theorem dX2_rightBelow_6 : decode cX2_rightBelow 6 = .ok (.aload_n 0, 1) := by decide +kernel
theorem dX2_rightBelow_7 : decode cX2_rightBelow 7 = .ok (.getfield 22, 3) := by decide +kernel
theorem dX2_rightBelow_10 : decode cX2_rightBelow 10 = .ok (.iload_n 1, 1) := by decide +kernel
theorem dX2_rightBelow_11 : decode cX2_rightBelow 11 = .ok (.iaload, 1) := by decide +kernel
theorem dX2_rightBelow_12 : decode cX2_rightBelow 12 = .ok (.iadd, 1) := by decide +kernel
theorem dX2_rightBelow_13 : decode cX2_rightBelow 13 = .ok (.iconst 2, 1) := by decide +kernel
theorem dX2_rightBelow_14 : decode cX2_rightBelow 14 = .ok (.idiv, 1) := by decide +kernel
theorem dX2_rightBelow_15 : decode cX2_rightBelow 15 = .ok (.istore_n 2, 1) := by decide +kernel
theorem dX2_rightBelow_16 : decode cX2_rightBelow 16 = .ok (.iload_n 1, 1) := by decide +kernel
theorem dX2_rightBelow_17 : decode cX2_rightBelow 17 = .ok (.iconst 2, 1) := by decide +kernel
theorem dX2_rightBelow_18 : decode cX2_rightBelow 18 = .ok (.iload_n 2, 1) := by decide +kernel
theorem dX2_rightBelow_19 : decode cX2_rightBelow 19 = .ok (.aload_n 0, 1) := by decide +kernel
theorem dX2_rightBelow_20 : decode cX2_rightBelow 20 = .ok (.getfield 18, 3) := by decide +kernel
theorem dX2_rightBelow_23 : decode cX2_rightBelow 23 = .ok (.iload_n 1, 1) := by decide +kernel
theorem dX2_rightBelow_24 : decode cX2_rightBelow 24 = .ok (.iaload, 1) := by decide +kernel
theorem dX2_rightBelow_25 : decode cX2_rightBelow 25 = .ok (.isub, 1) := by decide +kernel
theorem dX2_rightBelow_26 : decode cX2_rightBelow 26 = .ok (.imul, 1) := by decide +kernel
theorem dX2_rightBelow_27 : decode cX2_rightBelow 27 = .ok (.iadd, 1) := by decide +kernel
theorem dX2_rightBelow_28 : decode cX2_rightBelow 28 = .ok (.ireturn, 1) := by decide +kernel

