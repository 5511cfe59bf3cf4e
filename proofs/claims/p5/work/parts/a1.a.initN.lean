abbrev cX0_init : ByteArray := prog_2_method_1_code
def yX0_init : MethodName := ⟨RX0, "<init>", "()V"⟩
abbrev cX1_init : ByteArray := prog_3_method_1_code
def yX1_init : MethodName := ⟨RX1, "<init>", "()V"⟩
abbrev cX2_init : ByteArray := prog_4_method_1_code
def yX2_init : MethodName := ⟨RX2, "<init>", "(LMajorityIndex$Row;)V"⟩
abbrev cX3_init : ByteArray := prog_5_method_1_code
def yX3_init : MethodName := ⟨RX3, "<init>", "()V"⟩
abbrev cX4_init : ByteArray := prog_1_method_1_code
def yX4_init : MethodName := ⟨RX4, "<init>", "()V"⟩
abbrev cX5_init : ByteArray := prog_7_method_1_code
def yX5_init : MethodName := ⟨RX5, "<init>", "()V"⟩
def wsX0_init : List Cond := .code yX0_init cX0_init 1 none :: ([.methodLink RX0 3 objectInit, .instanceMethod objectInit, .code objectInit ⟨#[0xb1]⟩ 1 none, .arrayClass .int, .fieldLink RX0 9 "MajorityIndex$Row" "cell" "[I"] ++ wsX00)
def wsX1_init : List Cond := .code yX1_init cX1_init 1 none :: ([.methodLink RX1 3 objectInit, .instanceMethod objectInit, .code objectInit ⟨#[0xb1]⟩ 1 none, .arrayClass .int, .fieldLink RX1 9 "MajorityIndex$Tally" "kind" "[I", .fieldLink RX1 15 "MajorityIndex$Tally" "often" "[I"] ++ wsX10)
def wsX3_init : List Cond := .code yX3_init cX3_init 1 none :: ([.methodLink RX3 3 objectInit, .instanceMethod objectInit, .code objectInit ⟨#[0xb1]⟩ 1 none, .arrayClass .int, .fieldLink RX3 9 "MajorityIndex$Votes" "value" "[I", .fieldLink RX3 15 "MajorityIndex$Votes" "number" "[I"] ++ wsX30)
def wsX2_init : List Cond := .code yX2_init cX2_init 2 none :: ([.methodLink RX2 3 objectInit, .instanceMethod objectInit, .code objectInit ⟨#[0xb1]⟩ 1 none, .classLink RX2 9 RX3, .instantiable RX3 5, .initialized RX3, .fieldLink RX2 12 "MajorityIndex$Tree" "joined" "LMajorityIndex$Votes;", .arrayClass .int, .fieldLink RX2 18 "MajorityIndex$Tree" "from" "[I", .fieldLink RX2 22 "MajorityIndex$Tree" "to" "[I", .fieldLink RX2 25 "MajorityIndex$Tree" "size" "[I", .fieldLink RX2 28 "MajorityIndex$Tree" "lossOf" "[I", .fieldLink RX2 31 "MajorityIndex$Tree" "lessBy" "[I", .fieldLink RX2 34 "MajorityIndex$Tree" "value" "[I", .fieldLink RX2 37 "MajorityIndex$Tree" "number" "[I", .fieldLink RX2 40 "MajorityIndex$Tree" "row" "LMajorityIndex$Row;", .instanceMethod yX3_init, .code yX3_init cX3_init 1 none, .methodLink RX3 3 objectInit, .fieldLink RX3 9 "MajorityIndex$Votes" "value" "[I", .fieldLink RX3 15 "MajorityIndex$Votes" "number" "[I"] ++ wsX30 ++ wsX20)
def wsX4_init_r1 : List Cond := [Cond.methodLink RX4 3 objectInit, Cond.instanceMethod objectInit, Cond.code objectInit ⟨#[0xb1]⟩ 1 none, Cond.classLink RX4 9 RX0, Cond.instantiable RX0 2, Cond.initialized RX0, Cond.fieldLink RX4 12 "MajorityIndex" "row" "LMajorityIndex$Row;", Cond.classLink RX4 16 RX2, Cond.instantiable RX2 11, Cond.initialized RX2, Cond.fieldLink RX4 21 "MajorityIndex" "tree" "LMajorityIndex$Tree;", Cond.classLink RX4 25 RX1, Cond.instantiable RX1 4, Cond.initialized RX1, Cond.fieldLink RX4 28 "MajorityIndex" "tally" "LMajorityIndex$Tally;", Cond.classLink RX4 32 RX3, Cond.instantiable RX3 5, Cond.initialized RX3, Cond.fieldLink RX4 35 "MajorityIndex" "votes" "LMajorityIndex$Votes;", Cond.fieldLink RX4 39 "MajorityIndex" "otherVotes" "LMajorityIndex$Votes;", Cond.arrayClass .int, Cond.fieldLink RX4 42 "MajorityIndex" "wins" "[I", Cond.fieldLink RX4 46 "MajorityIndex" "fewest" "[I", Cond.fieldLink RX4 49 "MajorityIndex" "slotsNow" "I"]
def wsX4_init_r2 : List Cond := [Cond.fieldLink RX4 53 "MajorityIndex" "treeIsOld" "Z", Cond.instanceMethod yX0_init, Cond.code yX0_init cX0_init 1 none, Cond.methodLink RX0 3 objectInit, Cond.fieldLink RX0 9 "MajorityIndex$Row" "cell" "[I", Cond.methodLink RX4 18 yX2_init, Cond.instanceMethod yX2_init, Cond.code yX2_init cX2_init 2 none, Cond.methodLink RX2 3 objectInit, Cond.classLink RX2 9 RX3, Cond.fieldLink RX2 12 "MajorityIndex$Tree" "joined" "LMajorityIndex$Votes;", Cond.fieldLink RX2 18 "MajorityIndex$Tree" "from" "[I", Cond.fieldLink RX2 22 "MajorityIndex$Tree" "to" "[I", Cond.fieldLink RX2 25 "MajorityIndex$Tree" "size" "[I", Cond.fieldLink RX2 28 "MajorityIndex$Tree" "lossOf" "[I", Cond.fieldLink RX2 31 "MajorityIndex$Tree" "lessBy" "[I", Cond.fieldLink RX2 34 "MajorityIndex$Tree" "value" "[I", Cond.fieldLink RX2 37 "MajorityIndex$Tree" "number" "[I", Cond.fieldLink RX2 40 "MajorityIndex$Tree" "row" "LMajorityIndex$Row;", Cond.instanceMethod yX3_init, Cond.code yX3_init cX3_init 1 none, Cond.methodLink RX3 3 objectInit, Cond.fieldLink RX3 9 "MajorityIndex$Votes" "value" "[I", Cond.fieldLink RX3 15 "MajorityIndex$Votes" "number" "[I"]
def wsX4_init_r3 : List Cond := [Cond.instanceMethod yX1_init, Cond.code yX1_init cX1_init 1 none, Cond.methodLink RX1 3 objectInit, Cond.fieldLink RX1 9 "MajorityIndex$Tally" "kind" "[I", Cond.fieldLink RX1 15 "MajorityIndex$Tally" "often" "[I"]
def wsX4_init : List Cond := .code yX4_init cX4_init 1 none :: ((wsX4_init_r1 ++ (wsX4_init_r2 ++ wsX4_init_r3)) ++ wsX00 ++ wsX40 ++ wsX20 ++ wsX10 ++ wsX30)
def wsX5_init_r1 : List Cond := [Cond.methodLink RX5 1 objectInit, Cond.instanceMethod objectInit, Cond.code objectInit ⟨#[0xb1]⟩ 1 none, Cond.arrayClass .int, Cond.fieldLink RX5 7 "MajorityIndexModel" "row" "[I", Cond.fieldLink RX5 13 "MajorityIndexModel" "slots" "I", Cond.fieldLink RX5 17 "MajorityIndexModel" "many" "[I", Cond.fieldLink RX5 20 "MajorityIndexModel" "loss" "[I", Cond.fieldLink RX5 23 "MajorityIndexModel" "less" "[I", Cond.fieldLink RX5 26 "MajorityIndexModel" "voteValue" "[I", Cond.fieldLink RX5 29 "MajorityIndexModel" "voteNumber" "[I", Cond.fieldLink RX5 32 "MajorityIndexModel" "allValue" "[I", Cond.fieldLink RX5 35 "MajorityIndexModel" "allNumber" "[I", Cond.fieldLink RX5 38 "MajorityIndexModel" "nodeL" "[I", Cond.fieldLink RX5 41 "MajorityIndexModel" "nodeR" "[I", Cond.fieldLink RX5 44 "MajorityIndexModel" "part" "[I", Cond.fieldLink RX5 47 "MajorityIndexModel" "wasMany" "[I", Cond.fieldLink RX5 50 "MajorityIndexModel" "wasLoss" "[I", Cond.fieldLink RX5 53 "MajorityIndexModel" "wasValue" "[I", Cond.fieldLink RX5 56 "MajorityIndexModel" "wasNumber" "[I", Cond.fieldLink RX5 59 "MajorityIndexModel" "path" "[I", Cond.fieldLink RX5 62 "MajorityIndexModel" "heavyValue" "[I", Cond.fieldLink RX5 65 "MajorityIndexModel" "heavyTimes" "[I", Cond.fieldLink RX5 68 "MajorityIndexModel" "fewest" "[I"]
def wsX5_init_r2 : List Cond := [Cond.fieldLink RX5 71 "MajorityIndexModel" "which" "[I", Cond.fieldLink RX5 74 "MajorityIndexModel" "met" "[I"]
def wsX5_init : List Cond := .code yX5_init cX5_init 1 none :: ((wsX5_init_r1 ++ wsX5_init_r2) ++ wsX50)
def dt_cX0_init_0 : List (Nat × Instr × Nat) := [(0, .aload_n 0, 1), (1, .invokespecial 3, 3), (4, .aload_n 0, 1), (5, .sipush 160, 3), (8, .newarray .int, 2), (10, .putfield 9, 3), (13, .return_, 1)]
theorem da_cX0_init_0 : dk_all cX0_init dt_cX0_init_0 = true := by decide +kernel
theorem dX0_init_0 : decode cX0_init 0 = .ok (.aload_n 0, 1) := dk_get _ da_cX0_init_0 0 _ _ _ rfl
theorem dX0_init_1 : decode cX0_init 1 = .ok (.invokespecial 3, 3) := dk_get _ da_cX0_init_0 1 _ _ _ rfl
theorem dX0_init_4 : decode cX0_init 4 = .ok (.aload_n 0, 1) := dk_get _ da_cX0_init_0 2 _ _ _ rfl
theorem dX0_init_5 : decode cX0_init 5 = .ok (.sipush 160, 3) := dk_get _ da_cX0_init_0 3 _ _ _ rfl
theorem dX0_init_8 : decode cX0_init 8 = .ok (.newarray .int, 2) := dk_get _ da_cX0_init_0 4 _ _ _ rfl
theorem dX0_init_10 : decode cX0_init 10 = .ok (.putfield 9, 3) := dk_get _ da_cX0_init_0 5 _ _ _ rfl
theorem dX0_init_13 : decode cX0_init 13 = .ok (.return_, 1) := dk_get _ da_cX0_init_0 6 _ _ _ rfl
def dt_cX1_init_0 : List (Nat × Instr × Nat) := [(0, .aload_n 0, 1), (1, .invokespecial 3, 3), (4, .aload_n 0, 1), (5, .sipush 160, 3), (8, .newarray .int, 2), (10, .putfield 9, 3), (13, .aload_n 0, 1), (14, .sipush 160, 3), (17, .newarray .int, 2), (19, .putfield 15, 3), (22, .return_, 1)]
theorem da_cX1_init_0 : dk_all cX1_init dt_cX1_init_0 = true := by decide +kernel
theorem dX1_init_0 : decode cX1_init 0 = .ok (.aload_n 0, 1) := dk_get _ da_cX1_init_0 0 _ _ _ rfl
theorem dX1_init_1 : decode cX1_init 1 = .ok (.invokespecial 3, 3) := dk_get _ da_cX1_init_0 1 _ _ _ rfl
theorem dX1_init_4 : decode cX1_init 4 = .ok (.aload_n 0, 1) := dk_get _ da_cX1_init_0 2 _ _ _ rfl
theorem dX1_init_5 : decode cX1_init 5 = .ok (.sipush 160, 3) := dk_get _ da_cX1_init_0 3 _ _ _ rfl
theorem dX1_init_8 : decode cX1_init 8 = .ok (.newarray .int, 2) := dk_get _ da_cX1_init_0 4 _ _ _ rfl
theorem dX1_init_10 : decode cX1_init 10 = .ok (.putfield 9, 3) := dk_get _ da_cX1_init_0 5 _ _ _ rfl
theorem dX1_init_13 : decode cX1_init 13 = .ok (.aload_n 0, 1) := dk_get _ da_cX1_init_0 6 _ _ _ rfl
theorem dX1_init_14 : decode cX1_init 14 = .ok (.sipush 160, 3) := dk_get _ da_cX1_init_0 7 _ _ _ rfl
theorem dX1_init_17 : decode cX1_init 17 = .ok (.newarray .int, 2) := dk_get _ da_cX1_init_0 8 _ _ _ rfl
theorem dX1_init_19 : decode cX1_init 19 = .ok (.putfield 15, 3) := dk_get _ da_cX1_init_0 9 _ _ _ rfl
theorem dX1_init_22 : decode cX1_init 22 = .ok (.return_, 1) := dk_get _ da_cX1_init_0 10 _ _ _ rfl
set_option maxRecDepth 20000 in
theorem ggX2_init_X3_init : GoodIn wsX2_init wsX3_init := goodIn_r _ [18, 19, 2, 3, 8, 20, 21, 22, 23, 24, 25, 26] rfl (by decide +kernel)
def dt_cX2_init_0 : List (Nat × Instr × Nat) := [(0, .aload_n 0, 1), (1, .invokespecial 3, 3), (4, .aload_n 0, 1), (5, .new 9, 3), (8, .dup, 1), (9, .invokespecial 11, 3), (12, .putfield 12, 3), (15, .aload_n 0, 1), (16, .sipush 319, 3), (19, .newarray .int, 2), (21, .putfield 18, 3), (24, .aload_n 0, 1), (25, .sipush 319, 3), (28, .newarray .int, 2), (30, .putfield 22, 3), (33, .aload_n 0, 1), (34, .sipush 319, 3), (37, .newarray .int, 2), (39, .putfield 25, 3), (42, .aload_n 0, 1), (43, .sipush 319, 3), (46, .newarray .int, 2), (48, .putfield 28, 3), (51, .aload_n 0, 1), (52, .sipush 319, 3), (55, .newarray .int, 2), (57, .putfield 31, 3), (60, .aload_n 0, 1), (61, .sipush 1914, 3), (64, .newarray .int, 2), (66, .putfield 34, 3), (69, .aload_n 0, 1), (70, .sipush 1914, 3), (73, .newarray .int, 2), (75, .putfield 37, 3), (78, .aload_n 0, 1), (79, .aload_n 1, 1), (80, .putfield 40, 3), (83, .return_, 1)]
theorem da_cX2_init_0 : dk_all cX2_init dt_cX2_init_0 = true := by decide +kernel
theorem dX2_init_0 : decode cX2_init 0 = .ok (.aload_n 0, 1) := dk_get _ da_cX2_init_0 0 _ _ _ rfl
theorem dX2_init_1 : decode cX2_init 1 = .ok (.invokespecial 3, 3) := dk_get _ da_cX2_init_0 1 _ _ _ rfl
theorem dX2_init_4 : decode cX2_init 4 = .ok (.aload_n 0, 1) := dk_get _ da_cX2_init_0 2 _ _ _ rfl
theorem dX2_init_5 : decode cX2_init 5 = .ok (.new 9, 3) := dk_get _ da_cX2_init_0 3 _ _ _ rfl
theorem dX2_init_8 : decode cX2_init 8 = .ok (.dup, 1) := dk_get _ da_cX2_init_0 4 _ _ _ rfl
theorem dX2_init_9 : decode cX2_init 9 = .ok (.invokespecial 11, 3) := dk_get _ da_cX2_init_0 5 _ _ _ rfl
theorem dX2_init_12 : decode cX2_init 12 = .ok (.putfield 12, 3) := dk_get _ da_cX2_init_0 6 _ _ _ rfl
theorem dX2_init_15 : decode cX2_init 15 = .ok (.aload_n 0, 1) := dk_get _ da_cX2_init_0 7 _ _ _ rfl
theorem dX2_init_16 : decode cX2_init 16 = .ok (.sipush 319, 3) := dk_get _ da_cX2_init_0 8 _ _ _ rfl
theorem dX2_init_19 : decode cX2_init 19 = .ok (.newarray .int, 2) := dk_get _ da_cX2_init_0 9 _ _ _ rfl
theorem dX2_init_21 : decode cX2_init 21 = .ok (.putfield 18, 3) := dk_get _ da_cX2_init_0 10 _ _ _ rfl
theorem dX2_init_24 : decode cX2_init 24 = .ok (.aload_n 0, 1) := dk_get _ da_cX2_init_0 11 _ _ _ rfl
theorem dX2_init_25 : decode cX2_init 25 = .ok (.sipush 319, 3) := dk_get _ da_cX2_init_0 12 _ _ _ rfl
theorem dX2_init_28 : decode cX2_init 28 = .ok (.newarray .int, 2) := dk_get _ da_cX2_init_0 13 _ _ _ rfl
theorem dX2_init_30 : decode cX2_init 30 = .ok (.putfield 22, 3) := dk_get _ da_cX2_init_0 14 _ _ _ rfl
theorem dX2_init_33 : decode cX2_init 33 = .ok (.aload_n 0, 1) := dk_get _ da_cX2_init_0 15 _ _ _ rfl
theorem dX2_init_34 : decode cX2_init 34 = .ok (.sipush 319, 3) := dk_get _ da_cX2_init_0 16 _ _ _ rfl
theorem dX2_init_37 : decode cX2_init 37 = .ok (.newarray .int, 2) := dk_get _ da_cX2_init_0 17 _ _ _ rfl
theorem dX2_init_39 : decode cX2_init 39 = .ok (.putfield 25, 3) := dk_get _ da_cX2_init_0 18 _ _ _ rfl
theorem dX2_init_42 : decode cX2_init 42 = .ok (.aload_n 0, 1) := dk_get _ da_cX2_init_0 19 _ _ _ rfl
theorem dX2_init_43 : decode cX2_init 43 = .ok (.sipush 319, 3) := dk_get _ da_cX2_init_0 20 _ _ _ rfl
theorem dX2_init_46 : decode cX2_init 46 = .ok (.newarray .int, 2) := dk_get _ da_cX2_init_0 21 _ _ _ rfl
theorem dX2_init_48 : decode cX2_init 48 = .ok (.putfield 28, 3) := dk_get _ da_cX2_init_0 22 _ _ _ rfl
theorem dX2_init_51 : decode cX2_init 51 = .ok (.aload_n 0, 1) := dk_get _ da_cX2_init_0 23 _ _ _ rfl
theorem dX2_init_52 : decode cX2_init 52 = .ok (.sipush 319, 3) := dk_get _ da_cX2_init_0 24 _ _ _ rfl
theorem dX2_init_55 : decode cX2_init 55 = .ok (.newarray .int, 2) := dk_get _ da_cX2_init_0 25 _ _ _ rfl
theorem dX2_init_57 : decode cX2_init 57 = .ok (.putfield 31, 3) := dk_get _ da_cX2_init_0 26 _ _ _ rfl
theorem dX2_init_60 : decode cX2_init 60 = .ok (.aload_n 0, 1) := dk_get _ da_cX2_init_0 27 _ _ _ rfl
theorem dX2_init_61 : decode cX2_init 61 = .ok (.sipush 1914, 3) := dk_get _ da_cX2_init_0 28 _ _ _ rfl
theorem dX2_init_64 : decode cX2_init 64 = .ok (.newarray .int, 2) := dk_get _ da_cX2_init_0 29 _ _ _ rfl
theorem dX2_init_66 : decode cX2_init 66 = .ok (.putfield 34, 3) := dk_get _ da_cX2_init_0 30 _ _ _ rfl
theorem dX2_init_69 : decode cX2_init 69 = .ok (.aload_n 0, 1) := dk_get _ da_cX2_init_0 31 _ _ _ rfl
theorem dX2_init_70 : decode cX2_init 70 = .ok (.sipush 1914, 3) := dk_get _ da_cX2_init_0 32 _ _ _ rfl
theorem dX2_init_73 : decode cX2_init 73 = .ok (.newarray .int, 2) := dk_get _ da_cX2_init_0 33 _ _ _ rfl
theorem dX2_init_75 : decode cX2_init 75 = .ok (.putfield 37, 3) := dk_get _ da_cX2_init_0 34 _ _ _ rfl
theorem dX2_init_78 : decode cX2_init 78 = .ok (.aload_n 0, 1) := dk_get _ da_cX2_init_0 35 _ _ _ rfl
theorem dX2_init_79 : decode cX2_init 79 = .ok (.aload_n 1, 1) := dk_get _ da_cX2_init_0 36 _ _ _ rfl
theorem dX2_init_80 : decode cX2_init 80 = .ok (.putfield 40, 3) := dk_get _ da_cX2_init_0 37 _ _ _ rfl
theorem dX2_init_83 : decode cX2_init 83 = .ok (.return_, 1) := dk_get _ da_cX2_init_0 38 _ _ _ rfl
def dt_cX3_init_0 : List (Nat × Instr × Nat) := [(0, .aload_n 0, 1), (1, .invokespecial 3, 3), (4, .aload_n 0, 1), (5, .bipush 12, 2), (7, .newarray .int, 2), (9, .putfield 9, 3), (12, .aload_n 0, 1), (13, .bipush 12, 2), (15, .newarray .int, 2), (17, .putfield 15, 3), (20, .return_, 1)]
theorem da_cX3_init_0 : dk_all cX3_init dt_cX3_init_0 = true := by decide +kernel
theorem dX3_init_0 : decode cX3_init 0 = .ok (.aload_n 0, 1) := dk_get _ da_cX3_init_0 0 _ _ _ rfl
theorem dX3_init_1 : decode cX3_init 1 = .ok (.invokespecial 3, 3) := dk_get _ da_cX3_init_0 1 _ _ _ rfl
theorem dX3_init_4 : decode cX3_init 4 = .ok (.aload_n 0, 1) := dk_get _ da_cX3_init_0 2 _ _ _ rfl
theorem dX3_init_5 : decode cX3_init 5 = .ok (.bipush 12, 2) := dk_get _ da_cX3_init_0 3 _ _ _ rfl
theorem dX3_init_7 : decode cX3_init 7 = .ok (.newarray .int, 2) := dk_get _ da_cX3_init_0 4 _ _ _ rfl
theorem dX3_init_9 : decode cX3_init 9 = .ok (.putfield 9, 3) := dk_get _ da_cX3_init_0 5 _ _ _ rfl
theorem dX3_init_12 : decode cX3_init 12 = .ok (.aload_n 0, 1) := dk_get _ da_cX3_init_0 6 _ _ _ rfl
theorem dX3_init_13 : decode cX3_init 13 = .ok (.bipush 12, 2) := dk_get _ da_cX3_init_0 7 _ _ _ rfl
theorem dX3_init_15 : decode cX3_init 15 = .ok (.newarray .int, 2) := dk_get _ da_cX3_init_0 8 _ _ _ rfl
theorem dX3_init_17 : decode cX3_init 17 = .ok (.putfield 15, 3) := dk_get _ da_cX3_init_0 9 _ _ _ rfl
theorem dX3_init_20 : decode cX3_init 20 = .ok (.return_, 1) := dk_get _ da_cX3_init_0 10 _ _ _ rfl
theorem mi_wsX4_init_wsX4_init_r2 : ∀ w ∈ wsX4_init_r2, w ∈ wsX4_init := fun _ h => (List.mem_cons_of_mem _ (List.mem_append_left _ (List.mem_append_left _ (List.mem_append_left _ (List.mem_append_left _ (List.mem_append_left _ (List.mem_append_right _ (List.mem_append_left _ h))))))))
theorem mi_wsX4_init_wsX4_init_r1 : ∀ w ∈ wsX4_init_r1, w ∈ wsX4_init := fun _ h => (List.mem_cons_of_mem _ (List.mem_append_left _ (List.mem_append_left _ (List.mem_append_left _ (List.mem_append_left _ (List.mem_append_left _ (List.mem_append_left _ h)))))))
theorem mi_wsX4_init_wsX00 : ∀ w ∈ wsX00, w ∈ wsX4_init := fun _ h => (List.mem_cons_of_mem _ (List.mem_append_left _ (List.mem_append_left _ (List.mem_append_left _ (List.mem_append_left _ (List.mem_append_right _ h))))))
set_option maxRecDepth 20000 in
theorem ggX4_init_X0_init : GoodIn wsX4_init wsX0_init := goodIn_k _ [(wsX4_init_r2, [2, 3]), (wsX4_init_r1, [1, 2, 20]), (wsX4_init_r2, [4]), (wsX00, [0, 1])] (gk_c mi_wsX4_init_wsX4_init_r2 (gk_c mi_wsX4_init_wsX4_init_r1 (gk_c mi_wsX4_init_wsX4_init_r2 (gk_c mi_wsX4_init_wsX00 gk_n)))) rfl (by decide +kernel)
theorem mi_wsX4_init_wsX30 : ∀ w ∈ wsX30, w ∈ wsX4_init := fun _ h => (List.mem_cons_of_mem _ (List.mem_append_right _ h))
theorem mi_wsX4_init_wsX20 : ∀ w ∈ wsX20, w ∈ wsX4_init := fun _ h => (List.mem_cons_of_mem _ (List.mem_append_left _ (List.mem_append_left _ (List.mem_append_right _ h))))
set_option maxRecDepth 20000 in
theorem ggX4_init_X2_init : GoodIn wsX4_init wsX2_init := goodIn_k _ [(wsX4_init_r2, [7, 8]), (wsX4_init_r1, [1, 2]), (wsX4_init_r2, [9]), (wsX4_init_r1, [16, 17]), (wsX4_init_r2, [10]), (wsX4_init_r1, [20]), (wsX4_init_r2, [11, 12, 13, 14, 15, 16, 17, 18, 19, 20, 21, 22, 23]), (wsX30, [0, 1, 2, 3, 4]), (wsX20, [0, 1, 2, 3, 4, 5, 6, 7, 8, 9, 10])] (gk_c mi_wsX4_init_wsX4_init_r2 (gk_c mi_wsX4_init_wsX4_init_r1 (gk_c mi_wsX4_init_wsX4_init_r2 (gk_c mi_wsX4_init_wsX4_init_r1 (gk_c mi_wsX4_init_wsX4_init_r2 (gk_c mi_wsX4_init_wsX4_init_r1 (gk_c mi_wsX4_init_wsX4_init_r2 (gk_c mi_wsX4_init_wsX30 (gk_c mi_wsX4_init_wsX20 gk_n))))))))) rfl (by decide +kernel)
theorem mi_wsX4_init_wsX4_init_r3 : ∀ w ∈ wsX4_init_r3, w ∈ wsX4_init := fun _ h => (List.mem_cons_of_mem _ (List.mem_append_left _ (List.mem_append_left _ (List.mem_append_left _ (List.mem_append_left _ (List.mem_append_left _ (List.mem_append_right _ (List.mem_append_right _ h))))))))
theorem mi_wsX4_init_wsX10 : ∀ w ∈ wsX10, w ∈ wsX4_init := fun _ h => (List.mem_cons_of_mem _ (List.mem_append_left _ (List.mem_append_right _ h)))
set_option maxRecDepth 20000 in
theorem ggX4_init_X1_init : GoodIn wsX4_init wsX1_init := goodIn_k _ [(wsX4_init_r3, [1, 2]), (wsX4_init_r1, [1, 2, 20]), (wsX4_init_r3, [3, 4]), (wsX10, [0, 1, 2, 3])] (gk_c mi_wsX4_init_wsX4_init_r3 (gk_c mi_wsX4_init_wsX4_init_r1 (gk_c mi_wsX4_init_wsX4_init_r3 (gk_c mi_wsX4_init_wsX10 gk_n)))) rfl (by decide +kernel)
set_option maxRecDepth 20000 in
theorem ggX4_init_X3_init : GoodIn wsX4_init wsX3_init := goodIn_k _ [(wsX4_init_r2, [20, 21]), (wsX4_init_r1, [1, 2, 20]), (wsX4_init_r2, [22, 23]), (wsX30, [0, 1, 2, 3, 4])] (gk_c mi_wsX4_init_wsX4_init_r2 (gk_c mi_wsX4_init_wsX4_init_r1 (gk_c mi_wsX4_init_wsX4_init_r2 (gk_c mi_wsX4_init_wsX30 gk_n)))) rfl (by decide +kernel)
def dt_cX4_init_0 : List (Nat × Instr × Nat) := [(0, .aload_n 0, 1), (1, .invokespecial 3, 3), (4, .aload_n 0, 1), (5, .new 9, 3), (8, .dup, 1), (9, .invokespecial 11, 3), (12, .putfield 12, 3), (15, .aload_n 0, 1), (16, .new 16, 3), (19, .dup, 1), (20, .aload_n 0, 1), (21, .getfield 12, 3), (24, .invokespecial 18, 3), (27, .putfield 21, 3), (30, .aload_n 0, 1), (31, .new 25, 3), (34, .dup, 1), (35, .invokespecial 27, 3), (38, .putfield 28, 3), (41, .aload_n 0, 1), (42, .new 32, 3), (45, .dup, 1), (46, .invokespecial 34, 3), (49, .putfield 35, 3), (52, .aload_n 0, 1), (53, .new 32, 3), (56, .dup, 1), (57, .invokespecial 34, 3), (60, .putfield 39, 3), (63, .aload_n 0, 1), (64, .sipush 160, 3), (67, .newarray .int, 2), (69, .putfield 42, 3), (72, .aload_n 0, 1), (73, .sipush 161, 3), (76, .newarray .int, 2), (78, .putfield 46, 3), (81, .aload_n 0, 1), (82, .iconst 2, 1), (83, .putfield 49, 3), (86, .aload_n 0, 1), (87, .iconst 1, 1), (88, .putfield 53, 3), (91, .return_, 1)]
theorem da_cX4_init_0 : dk_all cX4_init dt_cX4_init_0 = true := by decide +kernel
theorem dX4_init_0 : decode cX4_init 0 = .ok (.aload_n 0, 1) := dk_get _ da_cX4_init_0 0 _ _ _ rfl
theorem dX4_init_1 : decode cX4_init 1 = .ok (.invokespecial 3, 3) := dk_get _ da_cX4_init_0 1 _ _ _ rfl
theorem dX4_init_4 : decode cX4_init 4 = .ok (.aload_n 0, 1) := dk_get _ da_cX4_init_0 2 _ _ _ rfl
theorem dX4_init_5 : decode cX4_init 5 = .ok (.new 9, 3) := dk_get _ da_cX4_init_0 3 _ _ _ rfl
theorem dX4_init_8 : decode cX4_init 8 = .ok (.dup, 1) := dk_get _ da_cX4_init_0 4 _ _ _ rfl
theorem dX4_init_9 : decode cX4_init 9 = .ok (.invokespecial 11, 3) := dk_get _ da_cX4_init_0 5 _ _ _ rfl
theorem dX4_init_12 : decode cX4_init 12 = .ok (.putfield 12, 3) := dk_get _ da_cX4_init_0 6 _ _ _ rfl
theorem dX4_init_15 : decode cX4_init 15 = .ok (.aload_n 0, 1) := dk_get _ da_cX4_init_0 7 _ _ _ rfl
theorem dX4_init_16 : decode cX4_init 16 = .ok (.new 16, 3) := dk_get _ da_cX4_init_0 8 _ _ _ rfl
theorem dX4_init_19 : decode cX4_init 19 = .ok (.dup, 1) := dk_get _ da_cX4_init_0 9 _ _ _ rfl
theorem dX4_init_20 : decode cX4_init 20 = .ok (.aload_n 0, 1) := dk_get _ da_cX4_init_0 10 _ _ _ rfl
theorem dX4_init_21 : decode cX4_init 21 = .ok (.getfield 12, 3) := dk_get _ da_cX4_init_0 11 _ _ _ rfl
theorem dX4_init_24 : decode cX4_init 24 = .ok (.invokespecial 18, 3) := dk_get _ da_cX4_init_0 12 _ _ _ rfl
theorem dX4_init_27 : decode cX4_init 27 = .ok (.putfield 21, 3) := dk_get _ da_cX4_init_0 13 _ _ _ rfl
theorem dX4_init_30 : decode cX4_init 30 = .ok (.aload_n 0, 1) := dk_get _ da_cX4_init_0 14 _ _ _ rfl
theorem dX4_init_31 : decode cX4_init 31 = .ok (.new 25, 3) := dk_get _ da_cX4_init_0 15 _ _ _ rfl
theorem dX4_init_34 : decode cX4_init 34 = .ok (.dup, 1) := dk_get _ da_cX4_init_0 16 _ _ _ rfl
theorem dX4_init_35 : decode cX4_init 35 = .ok (.invokespecial 27, 3) := dk_get _ da_cX4_init_0 17 _ _ _ rfl
theorem dX4_init_38 : decode cX4_init 38 = .ok (.putfield 28, 3) := dk_get _ da_cX4_init_0 18 _ _ _ rfl
theorem dX4_init_41 : decode cX4_init 41 = .ok (.aload_n 0, 1) := dk_get _ da_cX4_init_0 19 _ _ _ rfl
theorem dX4_init_42 : decode cX4_init 42 = .ok (.new 32, 3) := dk_get _ da_cX4_init_0 20 _ _ _ rfl
theorem dX4_init_45 : decode cX4_init 45 = .ok (.dup, 1) := dk_get _ da_cX4_init_0 21 _ _ _ rfl
theorem dX4_init_46 : decode cX4_init 46 = .ok (.invokespecial 34, 3) := dk_get _ da_cX4_init_0 22 _ _ _ rfl
theorem dX4_init_49 : decode cX4_init 49 = .ok (.putfield 35, 3) := dk_get _ da_cX4_init_0 23 _ _ _ rfl
theorem dX4_init_52 : decode cX4_init 52 = .ok (.aload_n 0, 1) := dk_get _ da_cX4_init_0 24 _ _ _ rfl
theorem dX4_init_53 : decode cX4_init 53 = .ok (.new 32, 3) := dk_get _ da_cX4_init_0 25 _ _ _ rfl
theorem dX4_init_56 : decode cX4_init 56 = .ok (.dup, 1) := dk_get _ da_cX4_init_0 26 _ _ _ rfl
theorem dX4_init_57 : decode cX4_init 57 = .ok (.invokespecial 34, 3) := dk_get _ da_cX4_init_0 27 _ _ _ rfl
theorem dX4_init_60 : decode cX4_init 60 = .ok (.putfield 39, 3) := dk_get _ da_cX4_init_0 28 _ _ _ rfl
theorem dX4_init_63 : decode cX4_init 63 = .ok (.aload_n 0, 1) := dk_get _ da_cX4_init_0 29 _ _ _ rfl
theorem dX4_init_64 : decode cX4_init 64 = .ok (.sipush 160, 3) := dk_get _ da_cX4_init_0 30 _ _ _ rfl
theorem dX4_init_67 : decode cX4_init 67 = .ok (.newarray .int, 2) := dk_get _ da_cX4_init_0 31 _ _ _ rfl
theorem dX4_init_69 : decode cX4_init 69 = .ok (.putfield 42, 3) := dk_get _ da_cX4_init_0 32 _ _ _ rfl
theorem dX4_init_72 : decode cX4_init 72 = .ok (.aload_n 0, 1) := dk_get _ da_cX4_init_0 33 _ _ _ rfl
theorem dX4_init_73 : decode cX4_init 73 = .ok (.sipush 161, 3) := dk_get _ da_cX4_init_0 34 _ _ _ rfl
theorem dX4_init_76 : decode cX4_init 76 = .ok (.newarray .int, 2) := dk_get _ da_cX4_init_0 35 _ _ _ rfl
theorem dX4_init_78 : decode cX4_init 78 = .ok (.putfield 46, 3) := dk_get _ da_cX4_init_0 36 _ _ _ rfl
theorem dX4_init_81 : decode cX4_init 81 = .ok (.aload_n 0, 1) := dk_get _ da_cX4_init_0 37 _ _ _ rfl
theorem dX4_init_82 : decode cX4_init 82 = .ok (.iconst 2, 1) := dk_get _ da_cX4_init_0 38 _ _ _ rfl
theorem dX4_init_83 : decode cX4_init 83 = .ok (.putfield 49, 3) := dk_get _ da_cX4_init_0 39 _ _ _ rfl
theorem dX4_init_86 : decode cX4_init 86 = .ok (.aload_n 0, 1) := dk_get _ da_cX4_init_0 40 _ _ _ rfl
theorem dX4_init_87 : decode cX4_init 87 = .ok (.iconst 1, 1) := dk_get _ da_cX4_init_0 41 _ _ _ rfl
theorem dX4_init_88 : decode cX4_init 88 = .ok (.putfield 53, 3) := dk_get _ da_cX4_init_0 42 _ _ _ rfl
theorem dX4_init_91 : decode cX4_init 91 = .ok (.return_, 1) := dk_get _ da_cX4_init_0 43 _ _ _ rfl
def dt_cX5_init_0 : List (Nat × Instr × Nat) := [(0, .aload_n 0, 1), (1, .invokespecial 1, 3), (4, .aload_n 0, 1), (5, .sipush 160, 3), (8, .newarray .int, 2), (10, .putfield 7, 3), (13, .aload_n 0, 1), (14, .iconst 2, 1), (15, .putfield 13, 3), (18, .aload_n 0, 1), (19, .sipush 324, 3), (22, .newarray .int, 2), (24, .putfield 17, 3), (27, .aload_n 0, 1), (28, .sipush 324, 3), (31, .newarray .int, 2), (33, .putfield 20, 3), (36, .aload_n 0, 1), (37, .sipush 324, 3), (40, .newarray .int, 2), (42, .putfield 23, 3), (45, .aload_n 0, 1), (46, .sipush 1944, 3), (49, .newarray .int, 2), (51, .putfield 26, 3), (54, .aload_n 0, 1), (55, .sipush 1944, 3), (58, .newarray .int, 2), (60, .putfield 29, 3), (63, .aload_n 0, 1), (64, .bipush 12, 2), (66, .newarray .int, 2), (68, .putfield 32, 3), (71, .aload_n 0, 1), (72, .bipush 12, 2), (74, .newarray .int, 2), (76, .putfield 35, 3), (79, .aload_n 0, 1), (80, .sipush 320, 3), (83, .newarray .int, 2), (85, .putfield 38, 3), (88, .aload_n 0, 1), (89, .sipush 320, 3), (92, .newarray .int, 2), (94, .putfield 41, 3), (97, .aload_n 0, 1), (98, .sipush 320, 3), (101, .newarray .int, 2), (103, .putfield 44, 3), (106, .aload_n 0, 1), (107, .sipush 320, 3), (110, .newarray .int, 2), (112, .putfield 47, 3), (115, .aload_n 0, 1), (116, .sipush 320, 3), (119, .newarray .int, 2), (121, .putfield 50, 3), (124, .aload_n 0, 1), (125, .sipush 1920, 3), (128, .newarray .int, 2)]
theorem da_cX5_init_0 : dk_all cX5_init dt_cX5_init_0 = true := by decide +kernel
theorem dX5_init_0 : decode cX5_init 0 = .ok (.aload_n 0, 1) := dk_get _ da_cX5_init_0 0 _ _ _ rfl
theorem dX5_init_1 : decode cX5_init 1 = .ok (.invokespecial 1, 3) := dk_get _ da_cX5_init_0 1 _ _ _ rfl
theorem dX5_init_4 : decode cX5_init 4 = .ok (.aload_n 0, 1) := dk_get _ da_cX5_init_0 2 _ _ _ rfl
theorem dX5_init_5 : decode cX5_init 5 = .ok (.sipush 160, 3) := dk_get _ da_cX5_init_0 3 _ _ _ rfl
theorem dX5_init_8 : decode cX5_init 8 = .ok (.newarray .int, 2) := dk_get _ da_cX5_init_0 4 _ _ _ rfl
theorem dX5_init_10 : decode cX5_init 10 = .ok (.putfield 7, 3) := dk_get _ da_cX5_init_0 5 _ _ _ rfl
theorem dX5_init_13 : decode cX5_init 13 = .ok (.aload_n 0, 1) := dk_get _ da_cX5_init_0 6 _ _ _ rfl
theorem dX5_init_14 : decode cX5_init 14 = .ok (.iconst 2, 1) := dk_get _ da_cX5_init_0 7 _ _ _ rfl
theorem dX5_init_15 : decode cX5_init 15 = .ok (.putfield 13, 3) := dk_get _ da_cX5_init_0 8 _ _ _ rfl
theorem dX5_init_18 : decode cX5_init 18 = .ok (.aload_n 0, 1) := dk_get _ da_cX5_init_0 9 _ _ _ rfl
theorem dX5_init_19 : decode cX5_init 19 = .ok (.sipush 324, 3) := dk_get _ da_cX5_init_0 10 _ _ _ rfl
theorem dX5_init_22 : decode cX5_init 22 = .ok (.newarray .int, 2) := dk_get _ da_cX5_init_0 11 _ _ _ rfl
theorem dX5_init_24 : decode cX5_init 24 = .ok (.putfield 17, 3) := dk_get _ da_cX5_init_0 12 _ _ _ rfl
theorem dX5_init_27 : decode cX5_init 27 = .ok (.aload_n 0, 1) := dk_get _ da_cX5_init_0 13 _ _ _ rfl
theorem dX5_init_28 : decode cX5_init 28 = .ok (.sipush 324, 3) := dk_get _ da_cX5_init_0 14 _ _ _ rfl
theorem dX5_init_31 : decode cX5_init 31 = .ok (.newarray .int, 2) := dk_get _ da_cX5_init_0 15 _ _ _ rfl
theorem dX5_init_33 : decode cX5_init 33 = .ok (.putfield 20, 3) := dk_get _ da_cX5_init_0 16 _ _ _ rfl
theorem dX5_init_36 : decode cX5_init 36 = .ok (.aload_n 0, 1) := dk_get _ da_cX5_init_0 17 _ _ _ rfl
theorem dX5_init_37 : decode cX5_init 37 = .ok (.sipush 324, 3) := dk_get _ da_cX5_init_0 18 _ _ _ rfl
theorem dX5_init_40 : decode cX5_init 40 = .ok (.newarray .int, 2) := dk_get _ da_cX5_init_0 19 _ _ _ rfl
theorem dX5_init_42 : decode cX5_init 42 = .ok (.putfield 23, 3) := dk_get _ da_cX5_init_0 20 _ _ _ rfl
theorem dX5_init_45 : decode cX5_init 45 = .ok (.aload_n 0, 1) := dk_get _ da_cX5_init_0 21 _ _ _ rfl
theorem dX5_init_46 : decode cX5_init 46 = .ok (.sipush 1944, 3) := dk_get _ da_cX5_init_0 22 _ _ _ rfl
theorem dX5_init_49 : decode cX5_init 49 = .ok (.newarray .int, 2) := dk_get _ da_cX5_init_0 23 _ _ _ rfl
theorem dX5_init_51 : decode cX5_init 51 = .ok (.putfield 26, 3) := dk_get _ da_cX5_init_0 24 _ _ _ rfl
theorem dX5_init_54 : decode cX5_init 54 = .ok (.aload_n 0, 1) := dk_get _ da_cX5_init_0 25 _ _ _ rfl
theorem dX5_init_55 : decode cX5_init 55 = .ok (.sipush 1944, 3) := dk_get _ da_cX5_init_0 26 _ _ _ rfl
theorem dX5_init_58 : decode cX5_init 58 = .ok (.newarray .int, 2) := dk_get _ da_cX5_init_0 27 _ _ _ rfl
theorem dX5_init_60 : decode cX5_init 60 = .ok (.putfield 29, 3) := dk_get _ da_cX5_init_0 28 _ _ _ rfl
theorem dX5_init_63 : decode cX5_init 63 = .ok (.aload_n 0, 1) := dk_get _ da_cX5_init_0 29 _ _ _ rfl
theorem dX5_init_64 : decode cX5_init 64 = .ok (.bipush 12, 2) := dk_get _ da_cX5_init_0 30 _ _ _ rfl
theorem dX5_init_66 : decode cX5_init 66 = .ok (.newarray .int, 2) := dk_get _ da_cX5_init_0 31 _ _ _ rfl
theorem dX5_init_68 : decode cX5_init 68 = .ok (.putfield 32, 3) := dk_get _ da_cX5_init_0 32 _ _ _ rfl
theorem dX5_init_71 : decode cX5_init 71 = .ok (.aload_n 0, 1) := dk_get _ da_cX5_init_0 33 _ _ _ rfl
theorem dX5_init_72 : decode cX5_init 72 = .ok (.bipush 12, 2) := dk_get _ da_cX5_init_0 34 _ _ _ rfl
theorem dX5_init_74 : decode cX5_init 74 = .ok (.newarray .int, 2) := dk_get _ da_cX5_init_0 35 _ _ _ rfl
theorem dX5_init_76 : decode cX5_init 76 = .ok (.putfield 35, 3) := dk_get _ da_cX5_init_0 36 _ _ _ rfl
theorem dX5_init_79 : decode cX5_init 79 = .ok (.aload_n 0, 1) := dk_get _ da_cX5_init_0 37 _ _ _ rfl
theorem dX5_init_80 : decode cX5_init 80 = .ok (.sipush 320, 3) := dk_get _ da_cX5_init_0 38 _ _ _ rfl
theorem dX5_init_83 : decode cX5_init 83 = .ok (.newarray .int, 2) := dk_get _ da_cX5_init_0 39 _ _ _ rfl
theorem dX5_init_85 : decode cX5_init 85 = .ok (.putfield 38, 3) := dk_get _ da_cX5_init_0 40 _ _ _ rfl
theorem dX5_init_88 : decode cX5_init 88 = .ok (.aload_n 0, 1) := dk_get _ da_cX5_init_0 41 _ _ _ rfl
theorem dX5_init_89 : decode cX5_init 89 = .ok (.sipush 320, 3) := dk_get _ da_cX5_init_0 42 _ _ _ rfl
theorem dX5_init_92 : decode cX5_init 92 = .ok (.newarray .int, 2) := dk_get _ da_cX5_init_0 43 _ _ _ rfl
theorem dX5_init_94 : decode cX5_init 94 = .ok (.putfield 41, 3) := dk_get _ da_cX5_init_0 44 _ _ _ rfl
theorem dX5_init_97 : decode cX5_init 97 = .ok (.aload_n 0, 1) := dk_get _ da_cX5_init_0 45 _ _ _ rfl
theorem dX5_init_98 : decode cX5_init 98 = .ok (.sipush 320, 3) := dk_get _ da_cX5_init_0 46 _ _ _ rfl
theorem dX5_init_101 : decode cX5_init 101 = .ok (.newarray .int, 2) := dk_get _ da_cX5_init_0 47 _ _ _ rfl
theorem dX5_init_103 : decode cX5_init 103 = .ok (.putfield 44, 3) := dk_get _ da_cX5_init_0 48 _ _ _ rfl
theorem dX5_init_106 : decode cX5_init 106 = .ok (.aload_n 0, 1) := dk_get _ da_cX5_init_0 49 _ _ _ rfl
theorem dX5_init_107 : decode cX5_init 107 = .ok (.sipush 320, 3) := dk_get _ da_cX5_init_0 50 _ _ _ rfl
theorem dX5_init_110 : decode cX5_init 110 = .ok (.newarray .int, 2) := dk_get _ da_cX5_init_0 51 _ _ _ rfl
theorem dX5_init_112 : decode cX5_init 112 = .ok (.putfield 47, 3) := dk_get _ da_cX5_init_0 52 _ _ _ rfl
theorem dX5_init_115 : decode cX5_init 115 = .ok (.aload_n 0, 1) := dk_get _ da_cX5_init_0 53 _ _ _ rfl
theorem dX5_init_116 : decode cX5_init 116 = .ok (.sipush 320, 3) := dk_get _ da_cX5_init_0 54 _ _ _ rfl
theorem dX5_init_119 : decode cX5_init 119 = .ok (.newarray .int, 2) := dk_get _ da_cX5_init_0 55 _ _ _ rfl
theorem dX5_init_121 : decode cX5_init 121 = .ok (.putfield 50, 3) := dk_get _ da_cX5_init_0 56 _ _ _ rfl
theorem dX5_init_124 : decode cX5_init 124 = .ok (.aload_n 0, 1) := dk_get _ da_cX5_init_0 57 _ _ _ rfl
theorem dX5_init_125 : decode cX5_init 125 = .ok (.sipush 1920, 3) := dk_get _ da_cX5_init_0 58 _ _ _ rfl
theorem dX5_init_128 : decode cX5_init 128 = .ok (.newarray .int, 2) := dk_get _ da_cX5_init_0 59 _ _ _ rfl
def dt_cX5_init_1 : List (Nat × Instr × Nat) := [(130, .putfield 53, 3), (133, .aload_n 0, 1), (134, .sipush 1920, 3), (137, .newarray .int, 2), (139, .putfield 56, 3), (142, .aload_n 0, 1), (143, .bipush 12, 2), (145, .newarray .int, 2), (147, .putfield 59, 3), (150, .aload_n 0, 1), (151, .sipush 160, 3), (154, .newarray .int, 2), (156, .putfield 62, 3), (159, .aload_n 0, 1), (160, .sipush 160, 3), (163, .newarray .int, 2), (165, .putfield 65, 3), (168, .aload_n 0, 1), (169, .sipush 161, 3), (172, .newarray .int, 2), (174, .putfield 68, 3), (177, .aload_n 0, 1), (178, .sipush 160, 3), (181, .newarray .int, 2), (183, .putfield 71, 3), (186, .aload_n 0, 1), (187, .sipush 160, 3), (190, .newarray .int, 2), (192, .putfield 74, 3), (195, .return_, 1)]
theorem da_cX5_init_1 : dk_all cX5_init dt_cX5_init_1 = true := by decide +kernel
theorem dX5_init_130 : decode cX5_init 130 = .ok (.putfield 53, 3) := dk_get _ da_cX5_init_1 0 _ _ _ rfl
theorem dX5_init_133 : decode cX5_init 133 = .ok (.aload_n 0, 1) := dk_get _ da_cX5_init_1 1 _ _ _ rfl
theorem dX5_init_134 : decode cX5_init 134 = .ok (.sipush 1920, 3) := dk_get _ da_cX5_init_1 2 _ _ _ rfl
theorem dX5_init_137 : decode cX5_init 137 = .ok (.newarray .int, 2) := dk_get _ da_cX5_init_1 3 _ _ _ rfl
theorem dX5_init_139 : decode cX5_init 139 = .ok (.putfield 56, 3) := dk_get _ da_cX5_init_1 4 _ _ _ rfl
theorem dX5_init_142 : decode cX5_init 142 = .ok (.aload_n 0, 1) := dk_get _ da_cX5_init_1 5 _ _ _ rfl
theorem dX5_init_143 : decode cX5_init 143 = .ok (.bipush 12, 2) := dk_get _ da_cX5_init_1 6 _ _ _ rfl
theorem dX5_init_145 : decode cX5_init 145 = .ok (.newarray .int, 2) := dk_get _ da_cX5_init_1 7 _ _ _ rfl
theorem dX5_init_147 : decode cX5_init 147 = .ok (.putfield 59, 3) := dk_get _ da_cX5_init_1 8 _ _ _ rfl
theorem dX5_init_150 : decode cX5_init 150 = .ok (.aload_n 0, 1) := dk_get _ da_cX5_init_1 9 _ _ _ rfl
theorem dX5_init_151 : decode cX5_init 151 = .ok (.sipush 160, 3) := dk_get _ da_cX5_init_1 10 _ _ _ rfl
theorem dX5_init_154 : decode cX5_init 154 = .ok (.newarray .int, 2) := dk_get _ da_cX5_init_1 11 _ _ _ rfl
theorem dX5_init_156 : decode cX5_init 156 = .ok (.putfield 62, 3) := dk_get _ da_cX5_init_1 12 _ _ _ rfl
theorem dX5_init_159 : decode cX5_init 159 = .ok (.aload_n 0, 1) := dk_get _ da_cX5_init_1 13 _ _ _ rfl
theorem dX5_init_160 : decode cX5_init 160 = .ok (.sipush 160, 3) := dk_get _ da_cX5_init_1 14 _ _ _ rfl
theorem dX5_init_163 : decode cX5_init 163 = .ok (.newarray .int, 2) := dk_get _ da_cX5_init_1 15 _ _ _ rfl
theorem dX5_init_165 : decode cX5_init 165 = .ok (.putfield 65, 3) := dk_get _ da_cX5_init_1 16 _ _ _ rfl
theorem dX5_init_168 : decode cX5_init 168 = .ok (.aload_n 0, 1) := dk_get _ da_cX5_init_1 17 _ _ _ rfl
theorem dX5_init_169 : decode cX5_init 169 = .ok (.sipush 161, 3) := dk_get _ da_cX5_init_1 18 _ _ _ rfl
theorem dX5_init_172 : decode cX5_init 172 = .ok (.newarray .int, 2) := dk_get _ da_cX5_init_1 19 _ _ _ rfl
theorem dX5_init_174 : decode cX5_init 174 = .ok (.putfield 68, 3) := dk_get _ da_cX5_init_1 20 _ _ _ rfl
theorem dX5_init_177 : decode cX5_init 177 = .ok (.aload_n 0, 1) := dk_get _ da_cX5_init_1 21 _ _ _ rfl
theorem dX5_init_178 : decode cX5_init 178 = .ok (.sipush 160, 3) := dk_get _ da_cX5_init_1 22 _ _ _ rfl
theorem dX5_init_181 : decode cX5_init 181 = .ok (.newarray .int, 2) := dk_get _ da_cX5_init_1 23 _ _ _ rfl
theorem dX5_init_183 : decode cX5_init 183 = .ok (.putfield 71, 3) := dk_get _ da_cX5_init_1 24 _ _ _ rfl
theorem dX5_init_186 : decode cX5_init 186 = .ok (.aload_n 0, 1) := dk_get _ da_cX5_init_1 25 _ _ _ rfl
theorem dX5_init_187 : decode cX5_init 187 = .ok (.sipush 160, 3) := dk_get _ da_cX5_init_1 26 _ _ _ rfl
theorem dX5_init_190 : decode cX5_init 190 = .ok (.newarray .int, 2) := dk_get _ da_cX5_init_1 27 _ _ _ rfl
theorem dX5_init_192 : decode cX5_init 192 = .ok (.putfield 74, 3) := dk_get _ da_cX5_init_1 28 _ _ _ rfl
theorem dX5_init_195 : decode cX5_init 195 = .ok (.return_, 1) := dk_get _ da_cX5_init_1 29 _ _ _ rfl

