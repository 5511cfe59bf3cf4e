abbrev cX5_sorts : ByteArray := prog_7_method_11_code
def yX5_sorts : MethodName := ⟨RX5, "sorts", "()V"⟩
def wsX5_sorts : List Cond := .code yX5_sorts cX5_sorts 4 none :: ([.fieldLink RX5 87 "MajorityIndexModel" "allMany" "I", .fieldLink RX5 32 "MajorityIndexModel" "allValue" "[I", .fieldLink RX5 35 "MajorityIndexModel" "allNumber" "[I", .methodLink RX5 90 yX5_isAhead, .instanceMethod yX5_isAhead, .selects RX5 yX5_isAhead yX5_isAhead, .initialized RX5, .code yX5_isAhead cX5_isAhead 3 (some .boolean)] ++ wsX50)
set_option maxRecDepth 20000 in
theorem ggX5_sorts_X5_isAhead : GoodIn wsX5_sorts wsX5_isAhead := goodIn_r _ [8, 3, 2, 9, 10, 11, 12, 13, 14, 15, 16, 17, 18, 19, 20, 21, 22, 23, 24, 25, 26, 27, 28, 29, 30, 31, 32, 33, 34, 35, 36, 37, 38] rfl (by decide +kernel)
set_option maxRecDepth 20000 in
theorem gX5_sorts_X5_isAhead : GoodIn wsX5_sorts (wsV RX5 90 RX5 yX5_isAhead wsX5_isAhead) := goodIn_app (goodIn_of _ (by decide +kernel)) ggX5_sorts_X5_isAhead
theorem dX5_sorts_0 : decode cX5_sorts 0 = .ok (.iconst 0, 1) := by decide +kernel
theorem dX5_sorts_1 : decode cX5_sorts 1 = .ok (.istore_n 1, 1) := by decide +kernel
theorem dX5_sorts_2 : decode cX5_sorts 2 = .ok (.iload_n 1, 1) := by decide +kernel
theorem dX5_sorts_3 : decode cX5_sorts 3 = .ok (.aload_n 0, 1) := by decide +kernel
theorem dX5_sorts_4 : decode cX5_sorts 4 = .ok (.getfield 87, 3) := by decide +kernel
theorem dX5_sorts_7 : decode cX5_sorts 7 = .ok (.if_icmp .ge 91, 3) := by decide +kernel
theorem dX5_sorts_10 : decode cX5_sorts 10 = .ok (.iload_n 1, 1) := by decide +kernel
theorem dX5_sorts_11 : decode cX5_sorts 11 = .ok (.iconst 1, 1) := by decide +kernel
theorem dX5_sorts_12 : decode cX5_sorts 12 = .ok (.iadd, 1) := by decide +kernel
theorem dX5_sorts_13 : decode cX5_sorts 13 = .ok (.istore_n 2, 1) := by decide +kernel
theorem dX5_sorts_14 : decode cX5_sorts 14 = .ok (.iload_n 2, 1) := by decide +kernel
theorem dX5_sorts_15 : decode cX5_sorts 15 = .ok (.aload_n 0, 1) := by decide +kernel
theorem dX5_sorts_16 : decode cX5_sorts 16 = .ok (.getfield 87, 3) := by decide +kernel
theorem dX5_sorts_19 : decode cX5_sorts 19 = .ok (.if_icmp .ge 73, 3) := by decide +kernel
theorem dX5_sorts_22 : decode cX5_sorts 22 = .ok (.aload_n 0, 1) := by decide +kernel
theorem dX5_sorts_23 : decode cX5_sorts 23 = .ok (.iload_n 2, 1) := by decide +kernel
theorem dX5_sorts_24 : decode cX5_sorts 24 = .ok (.iload_n 1, 1) := by decide +kernel
theorem dX5_sorts_25 : decode cX5_sorts 25 = .ok (.invokevirtual 90, 3) := by decide +kernel
theorem dX5_sorts_28 : decode cX5_sorts 28 = .ok (.ifCond .ne 6, 3) := by decide +kernel
theorem dX5_sorts_31 : decode cX5_sorts 31 = .ok (.goto 55, 3) := by decide +kernel
theorem dX5_sorts_34 : decode cX5_sorts 34 = .ok (.aload_n 0, 1) := by decide +kernel
theorem dX5_sorts_35 : decode cX5_sorts 35 = .ok (.getfield 32, 3) := by decide +kernel
theorem dX5_sorts_38 : decode cX5_sorts 38 = .ok (.iload_n 1, 1) := by decide +kernel
theorem dX5_sorts_39 : decode cX5_sorts 39 = .ok (.iaload, 1) := by decide +kernel
theorem dX5_sorts_40 : decode cX5_sorts 40 = .ok (.istore_n 3, 1) := by decide +kernel
theorem dX5_sorts_41 : decode cX5_sorts 41 = .ok (.aload_n 0, 1) := by decide +kernel
theorem dX5_sorts_42 : decode cX5_sorts 42 = .ok (.getfield 32, 3) := by decide +kernel
theorem dX5_sorts_45 : decode cX5_sorts 45 = .ok (.iload_n 1, 1) := by decide +kernel
theorem dX5_sorts_46 : decode cX5_sorts 46 = .ok (.aload_n 0, 1) := by decide +kernel
theorem dX5_sorts_47 : decode cX5_sorts 47 = .ok (.getfield 32, 3) := by decide +kernel
theorem dX5_sorts_50 : decode cX5_sorts 50 = .ok (.iload_n 2, 1) := by decide +kernel
theorem dX5_sorts_51 : decode cX5_sorts 51 = .ok (.iaload, 1) := by decide +kernel
theorem dX5_sorts_52 : decode cX5_sorts 52 = .ok (.iastore, 1) := by decide +kernel
theorem dX5_sorts_53 : decode cX5_sorts 53 = .ok (.aload_n 0, 1) := by decide +kernel
theorem dX5_sorts_54 : decode cX5_sorts 54 = .ok (.getfield 32, 3) := by decide +kernel
theorem dX5_sorts_57 : decode cX5_sorts 57 = .ok (.iload_n 2, 1) := by decide +kernel
theorem dX5_sorts_58 : decode cX5_sorts 58 = .ok (.iload_n 3, 1) := by decide +kernel
theorem dX5_sorts_59 : decode cX5_sorts 59 = .ok (.iastore, 1) := by decide +kernel
theorem dX5_sorts_60 : decode cX5_sorts 60 = .ok (.aload_n 0, 1) := by decide +kernel
theorem dX5_sorts_61 : decode cX5_sorts 61 = .ok (.getfield 35, 3) := by decide +kernel
theorem dX5_sorts_64 : decode cX5_sorts 64 = .ok (.iload_n 1, 1) := by decide +kernel
theorem dX5_sorts_65 : decode cX5_sorts 65 = .ok (.iaload, 1) := by decide +kernel
theorem dX5_sorts_66 : decode cX5_sorts 66 = .ok (.istore_n 3, 1) := by decide +kernel
theorem dX5_sorts_67 : decode cX5_sorts 67 = .ok (.aload_n 0, 1) := by decide +kernel
theorem dX5_sorts_68 : decode cX5_sorts 68 = .ok (.getfield 35, 3) := by decide +kernel
theorem dX5_sorts_71 : decode cX5_sorts 71 = .ok (.iload_n 1, 1) := by decide +kernel
theorem dX5_sorts_72 : decode cX5_sorts 72 = .ok (.aload_n 0, 1) := by decide +kernel
theorem dX5_sorts_73 : decode cX5_sorts 73 = .ok (.getfield 35, 3) := by decide +kernel
theorem dX5_sorts_76 : decode cX5_sorts 76 = .ok (.iload_n 2, 1) := by decide +kernel
theorem dX5_sorts_77 : decode cX5_sorts 77 = .ok (.iaload, 1) := by decide +kernel
theorem dX5_sorts_78 : decode cX5_sorts 78 = .ok (.iastore, 1) := by decide +kernel
theorem dX5_sorts_79 : decode cX5_sorts 79 = .ok (.aload_n 0, 1) := by decide +kernel
theorem dX5_sorts_80 : decode cX5_sorts 80 = .ok (.getfield 35, 3) := by decide +kernel
theorem dX5_sorts_83 : decode cX5_sorts 83 = .ok (.iload_n 2, 1) := by decide +kernel
theorem dX5_sorts_84 : decode cX5_sorts 84 = .ok (.iload_n 3, 1) := by decide +kernel
theorem dX5_sorts_85 : decode cX5_sorts 85 = .ok (.iastore, 1) := by decide +kernel
theorem dX5_sorts_86 : decode cX5_sorts 86 = .ok (.iinc 2 1, 3) := by decide +kernel
theorem dX5_sorts_89 : decode cX5_sorts 89 = .ok (.goto (-75), 3) := by decide +kernel
theorem dX5_sorts_92 : decode cX5_sorts 92 = .ok (.iinc 1 1, 3) := by decide +kernel
theorem dX5_sorts_95 : decode cX5_sorts 95 = .ok (.goto (-93), 3) := by decide +kernel
theorem dX5_sorts_98 : decode cX5_sorts 98 = .ok (.return_, 1) := by decide +kernel

