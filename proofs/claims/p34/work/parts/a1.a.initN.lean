abbrev cX0_init : ByteArray := prog_2_method_1_code
def yX0_init : MethodName := ⟨RX0, "<init>", "()V"⟩
abbrev cX1_init : ByteArray := prog_3_method_1_code
def yX1_init : MethodName := ⟨RX1, "<init>", "()V"⟩
abbrev cX2_init : ByteArray := prog_4_method_1_code
def yX2_init : MethodName := ⟨RX2, "<init>", "(LMajorityIndex$Row;)V"⟩
abbrev cX3_init : ByteArray := prog_5_method_1_code
def yX3_init : MethodName := ⟨RX3, "<init>", "()V"⟩
abbrev cX4_init : ByteArray := prog_1_method_1_code
def yX4_init : MethodName := ⟨RX4, "<init>", "()V"⟩
abbrev cX5_init : ByteArray := prog_7_method_1_code
def yX5_init : MethodName := ⟨RX5, "<init>", "()V"⟩
def wsX0_init : List Cond := .code yX0_init cX0_init 1 none :: ([.methodLink RX0 3 objectInit, .instanceMethod objectInit, .code objectInit ⟨#[0xb1]⟩ 1 none, .arrayClass .int, .fieldLink RX0 9 "MajorityIndex$Row" "cell" "[I"] ++ wsX00)
def wsX1_init : List Cond := .code yX1_init cX1_init 1 none :: ([.methodLink RX1 3 objectInit, .instanceMethod objectInit, .code objectInit ⟨#[0xb1]⟩ 1 none, .arrayClass .int, .fieldLink RX1 9 "MajorityIndex$Tally" "kind" "[I", .fieldLink RX1 15 "MajorityIndex$Tally" "often" "[I"] ++ wsX10)
def wsX3_init : List Cond := .code yX3_init cX3_init 1 none :: ([.methodLink RX3 3 objectInit, .instanceMethod objectInit, .code objectInit ⟨#[0xb1]⟩ 1 none, .arrayClass .int, .fieldLink RX3 9 "MajorityIndex$Votes" "value" "[I", .fieldLink RX3 15 "MajorityIndex$Votes" "number" "[I"] ++ wsX30)
def wsX2_init : List Cond := .code yX2_init cX2_init 2 none :: ([.methodLink RX2 3 objectInit, .instanceMethod objectInit, .code objectInit ⟨#[0xb1]⟩ 1 none, .classLink RX2 9 RX3, .instantiable RX3 5, .initialized RX3, .fieldLink RX2 12 "MajorityIndex$Tree" "joined" "LMajorityIndex$Votes;", .arrayClass .int, .fieldLink RX2 18 "MajorityIndex$Tree" "from" "[I", .fieldLink RX2 22 "MajorityIndex$Tree" "to" "[I", .fieldLink RX2 25 "MajorityIndex$Tree" "size" "[I", .fieldLink RX2 28 "MajorityIndex$Tree" "lossOf" "[I", .fieldLink RX2 31 "MajorityIndex$Tree" "lessBy" "[I", .fieldLink RX2 34 "MajorityIndex$Tree" "value" "[I", .fieldLink RX2 37 "MajorityIndex$Tree" "number" "[I", .fieldLink RX2 40 "MajorityIndex$Tree" "row" "LMajorityIndex$Row;", .instanceMethod yX3_init, .code yX3_init cX3_init 1 none, .methodLink RX3 3 objectInit, .fieldLink RX3 9 "MajorityIndex$Votes" "value" "[I", .fieldLink RX3 15 "MajorityIndex$Votes" "number" "[I"] ++ wsX30 ++ wsX20)
def wsX4_init_r1 : List Cond := [Cond.methodLink RX4 3 objectInit, Cond.instanceMethod objectInit, Cond.code objectInit ⟨#[0xb1]⟩ 1 none, Cond.classLink RX4 9 RX0, Cond.instantiable RX0 2, Cond.initialized RX0, Cond.fieldLink RX4 12 "MajorityIndex" "row" "LMajorityIndex$Row;", Cond.classLink RX4 16 RX2, Cond.instantiable RX2 11, Cond.initialized RX2, Cond.fieldLink RX4 21 "MajorityIndex" "tree" "LMajorityIndex$Tree;", Cond.classLink RX4 25 RX1, Cond.instantiable RX1 4, Cond.initialized RX1, Cond.fieldLink RX4 28 "MajorityIndex" "tally" "LMajorityIndex$Tally;", Cond.classLink RX4 32 RX3, Cond.instantiable RX3 5, Cond.initialized RX3, Cond.fieldLink RX4 35 "MajorityIndex" "votes" "LMajorityIndex$Votes;", Cond.fieldLink RX4 39 "MajorityIndex" "otherVotes" "LMajorityIndex$Votes;", Cond.arrayClass .int, Cond.fieldLink RX4 42 "MajorityIndex" "wins" "[I", Cond.fieldLink RX4 46 "MajorityIndex" "fewest" "[I", Cond.fieldLink RX4 49 "MajorityIndex" "slotsNow" "I"]
def wsX4_init_r2 : List Cond := [Cond.fieldLink RX4 53 "MajorityIndex" "treeIsOld" "Z", Cond.instanceMethod yX0_init, Cond.code yX0_init cX0_init 1 none, Cond.methodLink RX0 3 objectInit, Cond.fieldLink RX0 9 "MajorityIndex$Row" "cell" "[I", Cond.methodLink RX4 18 yX2_init, Cond.instanceMethod yX2_init, Cond.code yX2_init cX2_init 2 none, Cond.methodLink RX2 3 objectInit, Cond.classLink RX2 9 RX3, Cond.fieldLink RX2 12 "MajorityIndex$Tree" "joined" "LMajorityIndex$Votes;", Cond.fieldLink RX2 18 "MajorityIndex$Tree" "from" "[I", Cond.fieldLink RX2 22 "MajorityIndex$Tree" "to" "[I", Cond.fieldLink RX2 25 "MajorityIndex$Tree" "size" "[I", Cond.fieldLink RX2 28 "MajorityIndex$Tree" "lossOf" "[I", Cond.fieldLink RX2 31 "MajorityIndex$Tree" "lessBy" "[I", Cond.fieldLink RX2 34 "MajorityIndex$Tree" "value" "[I", Cond.fieldLink RX2 37 "MajorityIndex$Tree" "number" "[I", Cond.fieldLink RX2 40 "MajorityIndex$Tree" "row" "LMajorityIndex$Row;", Cond.instanceMethod yX3_init, Cond.code yX3_init cX3_init 1 none, Cond.methodLink RX3 3 objectInit, Cond.fieldLink RX3 9 "MajorityIndex$Votes" "value" "[I", Cond.fieldLink RX3 15 "MajorityIndex$Votes" "number" "[I"]
def wsX4_init_r3 : List Cond := [Cond.instanceMethod yX1_init, Cond.code yX1_init cX1_init 1 none, Cond.methodLink RX1 3 objectInit, Cond.fieldLink RX1 9 "MajorityIndex$Tally" "kind" "[I", Cond.fieldLink RX1 15 "MajorityIndex$Tally" "often" "[I"]
def wsX4_init : List Cond := .code yX4_init cX4_init 1 none :: ((wsX4_init_r1 ++ (wsX4_init_r2 ++ wsX4_init_r3)) ++ wsX00 ++ wsX40 ++ wsX20 ++ wsX10 ++ wsX30)
def wsX5_init_r1 : List Cond := [Cond.methodLink RX5 1 objectInit, Cond.instanceMethod objectInit, Cond.code objectInit ⟨#[0xb1]⟩ 1 none, Cond.arrayClass .int, Cond.fieldLink RX5 7 "MajorityIndexModel" "row" "[I", Cond.fieldLink RX5 13 "MajorityIndexModel" "slots" "I", Cond.fieldLink RX5 17 "MajorityIndexModel" "many" "[I", Cond.fieldLink RX5 20 "MajorityIndexModel" "loss" "[I", Cond.fieldLink RX5 23 "MajorityIndexModel" "less" "[I", Cond.fieldLink RX5 26 "MajorityIndexModel" "voteValue" "[I", Cond.fieldLink RX5 29 "MajorityIndexModel" "voteNumber" "[I", Cond.fieldLink RX5 32 "MajorityIndexModel" "allValue" "[I", Cond.fieldLink RX5 35 "MajorityIndexModel" "allNumber" "[I", Cond.fieldLink RX5 38 "MajorityIndexModel" "nodeL" "[I", Cond.fieldLink RX5 41 "MajorityIndexModel" "nodeR" "[I", Cond.fieldLink RX5 44 "MajorityIndexModel" "part" "[I", Cond.fieldLink RX5 47 "MajorityIndexModel" "wasMany" "[I", Cond.fieldLink RX5 50 "MajorityIndexModel" "wasLoss" "[I", Cond.fieldLink RX5 53 "MajorityIndexModel" "wasValue" "[I", Cond.fieldLink RX5 56 "MajorityIndexModel" "wasNumber" "[I", Cond.fieldLink RX5 59 "MajorityIndexModel" "path" "[I", Cond.fieldLink RX5 62 "MajorityIndexModel" "heavyValue" "[I", Cond.fieldLink RX5 65 "MajorityIndexModel" "heavyTimes" "[I", Cond.fieldLink RX5 68 "MajorityIndexModel" "fewest" "[I"]
def wsX5_init_r2 : List Cond := [Cond.fieldLink RX5 71 "MajorityIndexModel" "which" "[I", Cond.fieldLink RX5 74 "MajorityIndexModel" "met" "[I"]
def wsX5_init : List Cond := .code yX5_init cX5_init 1 none :: ((wsX5_init_r1 ++ wsX5_init_r2) ++ wsX50)
def dt_cX0_init_0 : List (Nat × Nat × Nat × Nat) := [(0, 42, 0, 0), (1, 183, 2, 3), (4, 42, 0, 0), (5, 17, 2, 160), (8, 188, 1, 10), (10, 181, 2, 9), (13, 177, 0, 0)]
theorem da_cX0_init_0 : fw dt_cX0_init_0 0 cX0_init.data.toList = true := by decide +kernel
theorem dX0_init_0 : decode cX0_init 0 = .ok (.aload_n 0, 1) := fo_42 (fw_get da_cX0_init_0 0 rfl)
theorem dX0_init_1 : decode cX0_init 1 = .ok (.invokespecial 3, 3) := fo_183 (fw_get da_cX0_init_0 1 rfl)
theorem dX0_init_4 : decode cX0_init 4 = .ok (.aload_n 0, 1) := fo_42 (fw_get da_cX0_init_0 2 rfl)
theorem dX0_init_5 : decode cX0_init 5 = .ok (.sipush 160, 3) := fo_17 (fw_get da_cX0_init_0 3 rfl) (by decide +kernel)
theorem dX0_init_8 : decode cX0_init 8 = .ok (.newarray .int, 2) := fo_188 (fw_get da_cX0_init_0 4 rfl)
theorem dX0_init_10 : decode cX0_init 10 = .ok (.putfield 9, 3) := fo_181 (fw_get da_cX0_init_0 5 rfl)
theorem dX0_init_13 : decode cX0_init 13 = .ok (.return_, 1) := fo_177 (fw_get da_cX0_init_0 6 rfl)
def dt_cX1_init_0 : List (Nat × Nat × Nat × Nat) := [(0, 42, 0, 0), (1, 183, 2, 3), (4, 42, 0, 0), (5, 17, 2, 160), (8, 188, 1, 10), (10, 181, 2, 9), (13, 42, 0, 0), (14, 17, 2, 160), (17, 188, 1, 10), (19, 181, 2, 15), (22, 177, 0, 0)]
theorem da_cX1_init_0 : fw dt_cX1_init_0 0 cX1_init.data.toList = true := by decide +kernel
theorem dX1_init_0 : decode cX1_init 0 = .ok (.aload_n 0, 1) := fo_42 (fw_get da_cX1_init_0 0 rfl)
theorem dX1_init_1 : decode cX1_init 1 = .ok (.invokespecial 3, 3) := fo_183 (fw_get da_cX1_init_0 1 rfl)
theorem dX1_init_4 : decode cX1_init 4 = .ok (.aload_n 0, 1) := fo_42 (fw_get da_cX1_init_0 2 rfl)
theorem dX1_init_5 : decode cX1_init 5 = .ok (.sipush 160, 3) := fo_17 (fw_get da_cX1_init_0 3 rfl) (by decide +kernel)
theorem dX1_init_8 : decode cX1_init 8 = .ok (.newarray .int, 2) := fo_188 (fw_get da_cX1_init_0 4 rfl)
theorem dX1_init_10 : decode cX1_init 10 = .ok (.putfield 9, 3) := fo_181 (fw_get da_cX1_init_0 5 rfl)
theorem dX1_init_13 : decode cX1_init 13 = .ok (.aload_n 0, 1) := fo_42 (fw_get da_cX1_init_0 6 rfl)
theorem dX1_init_14 : decode cX1_init 14 = .ok (.sipush 160, 3) := fo_17 (fw_get da_cX1_init_0 7 rfl) (by decide +kernel)
theorem dX1_init_17 : decode cX1_init 17 = .ok (.newarray .int, 2) := fo_188 (fw_get da_cX1_init_0 8 rfl)
theorem dX1_init_19 : decode cX1_init 19 = .ok (.putfield 15, 3) := fo_181 (fw_get da_cX1_init_0 9 rfl)
theorem dX1_init_22 : decode cX1_init 22 = .ok (.return_, 1) := fo_177 (fw_get da_cX1_init_0 10 rfl)
set_option maxRecDepth 20000 in
theorem ggX2_init_X3_init : GoodIn wsX2_init wsX3_init := goodIn_r _ [18, 19, 2, 3, 8, 20, 21, 22, 23, 24, 25, 26] rfl (by decide +kernel)
def dt_cX2_init_0 : List (Nat × Nat × Nat × Nat) := [(0, 42, 0, 0), (1, 183, 2, 3), (4, 42, 0, 0), (5, 187, 2, 9), (8, 89, 0, 0), (9, 183, 2, 11), (12, 181, 2, 12), (15, 42, 0, 0), (16, 17, 2, 319), (19, 188, 1, 10), (21, 181, 2, 18), (24, 42, 0, 0), (25, 17, 2, 319), (28, 188, 1, 10), (30, 181, 2, 22), (33, 42, 0, 0), (34, 17, 2, 319), (37, 188, 1, 10), (39, 181, 2, 25), (42, 42, 0, 0)]
theorem da_cX2_init_0 : fw dt_cX2_init_0 0 cX2_init.data.toList = true := by decide +kernel
theorem dX2_init_0 : decode cX2_init 0 = .ok (.aload_n 0, 1) := fo_42 (fw_get da_cX2_init_0 0 rfl)
theorem dX2_init_1 : decode cX2_init 1 = .ok (.invokespecial 3, 3) := fo_183 (fw_get da_cX2_init_0 1 rfl)
theorem dX2_init_4 : decode cX2_init 4 = .ok (.aload_n 0, 1) := fo_42 (fw_get da_cX2_init_0 2 rfl)
theorem dX2_init_5 : decode cX2_init 5 = .ok (.new 9, 3) := fo_187 (fw_get da_cX2_init_0 3 rfl)
theorem dX2_init_8 : decode cX2_init 8 = .ok (.dup, 1) := fo_89 (fw_get da_cX2_init_0 4 rfl)
theorem dX2_init_9 : decode cX2_init 9 = .ok (.invokespecial 11, 3) := fo_183 (fw_get da_cX2_init_0 5 rfl)
theorem dX2_init_12 : decode cX2_init 12 = .ok (.putfield 12, 3) := fo_181 (fw_get da_cX2_init_0 6 rfl)
theorem dX2_init_15 : decode cX2_init 15 = .ok (.aload_n 0, 1) := fo_42 (fw_get da_cX2_init_0 7 rfl)
theorem dX2_init_16 : decode cX2_init 16 = .ok (.sipush 319, 3) := fo_17 (fw_get da_cX2_init_0 8 rfl) (by decide +kernel)
theorem dX2_init_19 : decode cX2_init 19 = .ok (.newarray .int, 2) := fo_188 (fw_get da_cX2_init_0 9 rfl)
theorem dX2_init_21 : decode cX2_init 21 = .ok (.putfield 18, 3) := fo_181 (fw_get da_cX2_init_0 10 rfl)
theorem dX2_init_24 : decode cX2_init 24 = .ok (.aload_n 0, 1) := fo_42 (fw_get da_cX2_init_0 11 rfl)
theorem dX2_init_25 : decode cX2_init 25 = .ok (.sipush 319, 3) := fo_17 (fw_get da_cX2_init_0 12 rfl) (by decide +kernel)
theorem dX2_init_28 : decode cX2_init 28 = .ok (.newarray .int, 2) := fo_188 (fw_get da_cX2_init_0 13 rfl)
theorem dX2_init_30 : decode cX2_init 30 = .ok (.putfield 22, 3) := fo_181 (fw_get da_cX2_init_0 14 rfl)
theorem dX2_init_33 : decode cX2_init 33 = .ok (.aload_n 0, 1) := fo_42 (fw_get da_cX2_init_0 15 rfl)
theorem dX2_init_34 : decode cX2_init 34 = .ok (.sipush 319, 3) := fo_17 (fw_get da_cX2_init_0 16 rfl) (by decide +kernel)
theorem dX2_init_37 : decode cX2_init 37 = .ok (.newarray .int, 2) := fo_188 (fw_get da_cX2_init_0 17 rfl)
theorem dX2_init_39 : decode cX2_init 39 = .ok (.putfield 25, 3) := fo_181 (fw_get da_cX2_init_0 18 rfl)
theorem dX2_init_42 : decode cX2_init 42 = .ok (.aload_n 0, 1) := fo_42 (fw_get da_cX2_init_0 19 rfl)
def dt_cX2_init_1 : List (Nat × Nat × Nat × Nat) := [(43, 17, 2, 319), (46, 188, 1, 10), (48, 181, 2, 28), (51, 42, 0, 0), (52, 17, 2, 319), (55, 188, 1, 10), (57, 181, 2, 31), (60, 42, 0, 0), (61, 17, 2, 1914), (64, 188, 1, 10), (66, 181, 2, 34), (69, 42, 0, 0), (70, 17, 2, 1914), (73, 188, 1, 10), (75, 181, 2, 37), (78, 42, 0, 0), (79, 43, 0, 0), (80, 181, 2, 40), (83, 177, 0, 0)]
theorem da_cX2_init_1 : fw dt_cX2_init_1 0 cX2_init.data.toList = true := by decide +kernel
theorem dX2_init_43 : decode cX2_init 43 = .ok (.sipush 319, 3) := fo_17 (fw_get da_cX2_init_1 0 rfl) (by decide +kernel)
theorem dX2_init_46 : decode cX2_init 46 = .ok (.newarray .int, 2) := fo_188 (fw_get da_cX2_init_1 1 rfl)
theorem dX2_init_48 : decode cX2_init 48 = .ok (.putfield 28, 3) := fo_181 (fw_get da_cX2_init_1 2 rfl)
theorem dX2_init_51 : decode cX2_init 51 = .ok (.aload_n 0, 1) := fo_42 (fw_get da_cX2_init_1 3 rfl)
theorem dX2_init_52 : decode cX2_init 52 = .ok (.sipush 319, 3) := fo_17 (fw_get da_cX2_init_1 4 rfl) (by decide +kernel)
theorem dX2_init_55 : decode cX2_init 55 = .ok (.newarray .int, 2) := fo_188 (fw_get da_cX2_init_1 5 rfl)
theorem dX2_init_57 : decode cX2_init 57 = .ok (.putfield 31, 3) := fo_181 (fw_get da_cX2_init_1 6 rfl)
theorem dX2_init_60 : decode cX2_init 60 = .ok (.aload_n 0, 1) := fo_42 (fw_get da_cX2_init_1 7 rfl)
theorem dX2_init_61 : decode cX2_init 61 = .ok (.sipush 1914, 3) := fo_17 (fw_get da_cX2_init_1 8 rfl) (by decide +kernel)
theorem dX2_init_64 : decode cX2_init 64 = .ok (.newarray .int, 2) := fo_188 (fw_get da_cX2_init_1 9 rfl)
theorem dX2_init_66 : decode cX2_init 66 = .ok (.putfield 34, 3) := fo_181 (fw_get da_cX2_init_1 10 rfl)
theorem dX2_init_69 : decode cX2_init 69 = .ok (.aload_n 0, 1) := fo_42 (fw_get da_cX2_init_1 11 rfl)
theorem dX2_init_70 : decode cX2_init 70 = .ok (.sipush 1914, 3) := fo_17 (fw_get da_cX2_init_1 12 rfl) (by decide +kernel)
theorem dX2_init_73 : decode cX2_init 73 = .ok (.newarray .int, 2) := fo_188 (fw_get da_cX2_init_1 13 rfl)
theorem dX2_init_75 : decode cX2_init 75 = .ok (.putfield 37, 3) := fo_181 (fw_get da_cX2_init_1 14 rfl)
theorem dX2_init_78 : decode cX2_init 78 = .ok (.aload_n 0, 1) := fo_42 (fw_get da_cX2_init_1 15 rfl)
theorem dX2_init_79 : decode cX2_init 79 = .ok (.aload_n 1, 1) := fo_43 (fw_get da_cX2_init_1 16 rfl)
theorem dX2_init_80 : decode cX2_init 80 = .ok (.putfield 40, 3) := fo_181 (fw_get da_cX2_init_1 17 rfl)
theorem dX2_init_83 : decode cX2_init 83 = .ok (.return_, 1) := fo_177 (fw_get da_cX2_init_1 18 rfl)
def dt_cX3_init_0 : List (Nat × Nat × Nat × Nat) := [(0, 42, 0, 0), (1, 183, 2, 3), (4, 42, 0, 0), (5, 16, 1, 12), (7, 188, 1, 10), (9, 181, 2, 9), (12, 42, 0, 0), (13, 16, 1, 12), (15, 188, 1, 10), (17, 181, 2, 15), (20, 177, 0, 0)]
theorem da_cX3_init_0 : fw dt_cX3_init_0 0 cX3_init.data.toList = true := by decide +kernel
theorem dX3_init_0 : decode cX3_init 0 = .ok (.aload_n 0, 1) := fo_42 (fw_get da_cX3_init_0 0 rfl)
theorem dX3_init_1 : decode cX3_init 1 = .ok (.invokespecial 3, 3) := fo_183 (fw_get da_cX3_init_0 1 rfl)
theorem dX3_init_4 : decode cX3_init 4 = .ok (.aload_n 0, 1) := fo_42 (fw_get da_cX3_init_0 2 rfl)
theorem dX3_init_5 : decode cX3_init 5 = .ok (.bipush 12, 2) := fo_16 (fw_get da_cX3_init_0 3 rfl) (by decide +kernel)
theorem dX3_init_7 : decode cX3_init 7 = .ok (.newarray .int, 2) := fo_188 (fw_get da_cX3_init_0 4 rfl)
theorem dX3_init_9 : decode cX3_init 9 = .ok (.putfield 9, 3) := fo_181 (fw_get da_cX3_init_0 5 rfl)
theorem dX3_init_12 : decode cX3_init 12 = .ok (.aload_n 0, 1) := fo_42 (fw_get da_cX3_init_0 6 rfl)
theorem dX3_init_13 : decode cX3_init 13 = .ok (.bipush 12, 2) := fo_16 (fw_get da_cX3_init_0 7 rfl) (by decide +kernel)
theorem dX3_init_15 : decode cX3_init 15 = .ok (.newarray .int, 2) := fo_188 (fw_get da_cX3_init_0 8 rfl)
theorem dX3_init_17 : decode cX3_init 17 = .ok (.putfield 15, 3) := fo_181 (fw_get da_cX3_init_0 9 rfl)
theorem dX3_init_20 : decode cX3_init 20 = .ok (.return_, 1) := fo_177 (fw_get da_cX3_init_0 10 rfl)
theorem mi_wsX4_init_wsX4_init_r2 : ∀ w ∈ wsX4_init_r2, w ∈ wsX4_init := fun _ h => (List.mem_cons_of_mem _ (List.mem_append_left _ (List.mem_append_left _ (List.mem_append_left _ (List.mem_append_left _ (List.mem_append_left _ (List.mem_append_right _ (List.mem_append_left _ h))))))))
theorem mi_wsX4_init_wsX4_init_r1 : ∀ w ∈ wsX4_init_r1, w ∈ wsX4_init := fun _ h => (List.mem_cons_of_mem _ (List.mem_append_left _ (List.mem_append_left _ (List.mem_append_left _ (List.mem_append_left _ (List.mem_append_left _ (List.mem_append_left _ h)))))))
theorem mi_wsX4_init_wsX00 : ∀ w ∈ wsX00, w ∈ wsX4_init := fun _ h => (List.mem_cons_of_mem _ (List.mem_append_left _ (List.mem_append_left _ (List.mem_append_left _ (List.mem_append_left _ (List.mem_append_right _ h))))))
set_option maxRecDepth 20000 in
theorem ggX4_init_X0_init : GoodIn wsX4_init wsX0_init := goodIn_m _ [(wsX4_init_r2, [false, false, true, true]), (wsX4_init_r1, [false, true, true, false, false, false, false, false, false, false, false, false, false, false, false, false, false, false, false, false, true]), (wsX4_init_r2, [false, false, false, false, true]), (wsX00, [true, true])] (gm_c mi_wsX4_init_wsX4_init_r2 (gm_c mi_wsX4_init_wsX4_init_r1 (gm_c mi_wsX4_init_wsX4_init_r2 (gm_c mi_wsX4_init_wsX00 gm_n)))) rfl (by decide +kernel)
theorem mi_wsX4_init_wsX30 : ∀ w ∈ wsX30, w ∈ wsX4_init := fun _ h => (List.mem_cons_of_mem _ (List.mem_append_right _ h))
theorem mi_wsX4_init_wsX20 : ∀ w ∈ wsX20, w ∈ wsX4_init := fun _ h => (List.mem_cons_of_mem _ (List.mem_append_left _ (List.mem_append_left _ (List.mem_append_right _ h))))
set_option maxRecDepth 20000 in
theorem ggX4_init_X2_init : GoodIn wsX4_init wsX2_init := goodIn_m _ [(wsX4_init_r2, [false, false, false, false, false, false, false, true, true]), (wsX4_init_r1, [false, true, true]), (wsX4_init_r2, [false, false, false, false, false, false, false, false, false, true]), (wsX4_init_r1, [false, false, false, false, false, false, false, false, false, false, false, false, false, false, false, false, true, true]), (wsX4_init_r2, [false, false, false, false, false, false, false, false, false, false, true]), (wsX4_init_r1, [false, false, false, false, false, false, false, false, false, false, false, false, false, false, false, false, false, false, false, false, true]), (wsX4_init_r2, [false, false, false, false, false, false, false, false, false, false, false, true, true, true, true, true, true, true, true, true, true, true, true, true]), (wsX30, [true, true, true, true, true]), (wsX20, [true, true, true, true, true, true, true, true, true, true, true])] (gm_c mi_wsX4_init_wsX4_init_r2 (gm_c mi_wsX4_init_wsX4_init_r1 (gm_c mi_wsX4_init_wsX4_init_r2 (gm_c mi_wsX4_init_wsX4_init_r1 (gm_c mi_wsX4_init_wsX4_init_r2 (gm_c mi_wsX4_init_wsX4_init_r1 (gm_c mi_wsX4_init_wsX4_init_r2 (gm_c mi_wsX4_init_wsX30 (gm_c mi_wsX4_init_wsX20 gm_n))))))))) rfl (by decide +kernel)
theorem mi_wsX4_init_wsX4_init_r3 : ∀ w ∈ wsX4_init_r3, w ∈ wsX4_init := fun _ h => (List.mem_cons_of_mem _ (List.mem_append_left _ (List.mem_append_left _ (List.mem_append_left _ (List.mem_append_left _ (List.mem_append_left _ (List.mem_append_right _ (List.mem_append_right _ h))))))))
theorem mi_wsX4_init_wsX10 : ∀ w ∈ wsX10, w ∈ wsX4_init := fun _ h => (List.mem_cons_of_mem _ (List.mem_append_left _ (List.mem_append_right _ h)))
set_option maxRecDepth 20000 in
theorem ggX4_init_X1_init : GoodIn wsX4_init wsX1_init := goodIn_m _ [(wsX4_init_r3, [false, true, true]), (wsX4_init_r1, [false, true, true, false, false, false, false, false, false, false, false, false, false, false, false, false, false, false, false, false, true]), (wsX4_init_r3, [false, false, false, true, true]), (wsX10, [true, true, true, true])] (gm_c mi_wsX4_init_wsX4_init_r3 (gm_c mi_wsX4_init_wsX4_init_r1 (gm_c mi_wsX4_init_wsX4_init_r3 (gm_c mi_wsX4_init_wsX10 gm_n)))) rfl (by decide +kernel)
set_option maxRecDepth 20000 in
theorem ggX4_init_X3_init : GoodIn wsX4_init wsX3_init := goodIn_m _ [(wsX4_init_r2, [false, false, false, false, false, false, false, false, false, false, false, false, false, false, false, false, false, false, false, false, true, true]), (wsX4_init_r1, [false, true, true, false, false, false, false, false, false, false, false, false, false, false, false, false, false, false, false, false, true]), (wsX4_init_r2, [false, false, false, false, false, false, false, false, false, false, false, false, false, false, false, false, false, false, false, false, false, false, true, true]), (wsX30, [true, true, true, true, true])] (gm_c mi_wsX4_init_wsX4_init_r2 (gm_c mi_wsX4_init_wsX4_init_r1 (gm_c mi_wsX4_init_wsX4_init_r2 (gm_c mi_wsX4_init_wsX30 gm_n)))) rfl (by decide +kernel)
def dt_cX4_init_0 : List (Nat × Nat × Nat × Nat) := [(0, 42, 0, 0), (1, 183, 2, 3), (4, 42, 0, 0), (5, 187, 2, 9), (8, 89, 0, 0), (9, 183, 2, 11), (12, 181, 2, 12), (15, 42, 0, 0), (16, 187, 2, 16), (19, 89, 0, 0), (20, 42, 0, 0), (21, 180, 2, 12), (24, 183, 2, 18), (27, 181, 2, 21), (30, 42, 0, 0), (31, 187, 2, 25), (34, 89, 0, 0), (35, 183, 2, 27), (38, 181, 2, 28), (41, 42, 0, 0)]
theorem da_cX4_init_0 : fw dt_cX4_init_0 0 cX4_init.data.toList = true := by decide +kernel
theorem dX4_init_0 : decode cX4_init 0 = .ok (.aload_n 0, 1) := fo_42 (fw_get da_cX4_init_0 0 rfl)
theorem dX4_init_1 : decode cX4_init 1 = .ok (.invokespecial 3, 3) := fo_183 (fw_get da_cX4_init_0 1 rfl)
theorem dX4_init_4 : decode cX4_init 4 = .ok (.aload_n 0, 1) := fo_42 (fw_get da_cX4_init_0 2 rfl)
theorem dX4_init_5 : decode cX4_init 5 = .ok (.new 9, 3) := fo_187 (fw_get da_cX4_init_0 3 rfl)
theorem dX4_init_8 : decode cX4_init 8 = .ok (.dup, 1) := fo_89 (fw_get da_cX4_init_0 4 rfl)
theorem dX4_init_9 : decode cX4_init 9 = .ok (.invokespecial 11, 3) := fo_183 (fw_get da_cX4_init_0 5 rfl)
theorem dX4_init_12 : decode cX4_init 12 = .ok (.putfield 12, 3) := fo_181 (fw_get da_cX4_init_0 6 rfl)
theorem dX4_init_15 : decode cX4_init 15 = .ok (.aload_n 0, 1) := fo_42 (fw_get da_cX4_init_0 7 rfl)
theorem dX4_init_16 : decode cX4_init 16 = .ok (.new 16, 3) := fo_187 (fw_get da_cX4_init_0 8 rfl)
theorem dX4_init_19 : decode cX4_init 19 = .ok (.dup, 1) := fo_89 (fw_get da_cX4_init_0 9 rfl)
theorem dX4_init_20 : decode cX4_init 20 = .ok (.aload_n 0, 1) := fo_42 (fw_get da_cX4_init_0 10 rfl)
theorem dX4_init_21 : decode cX4_init 21 = .ok (.getfield 12, 3) := fo_180 (fw_get da_cX4_init_0 11 rfl)
theorem dX4_init_24 : decode cX4_init 24 = .ok (.invokespecial 18, 3) := fo_183 (fw_get da_cX4_init_0 12 rfl)
theorem dX4_init_27 : decode cX4_init 27 = .ok (.putfield 21, 3) := fo_181 (fw_get da_cX4_init_0 13 rfl)
theorem dX4_init_30 : decode cX4_init 30 = .ok (.aload_n 0, 1) := fo_42 (fw_get da_cX4_init_0 14 rfl)
theorem dX4_init_31 : decode cX4_init 31 = .ok (.new 25, 3) := fo_187 (fw_get da_cX4_init_0 15 rfl)
theorem dX4_init_34 : decode cX4_init 34 = .ok (.dup, 1) := fo_89 (fw_get da_cX4_init_0 16 rfl)
theorem dX4_init_35 : decode cX4_init 35 = .ok (.invokespecial 27, 3) := fo_183 (fw_get da_cX4_init_0 17 rfl)
theorem dX4_init_38 : decode cX4_init 38 = .ok (.putfield 28, 3) := fo_181 (fw_get da_cX4_init_0 18 rfl)
theorem dX4_init_41 : decode cX4_init 41 = .ok (.aload_n 0, 1) := fo_42 (fw_get da_cX4_init_0 19 rfl)
def dt_cX4_init_1 : List (Nat × Nat × Nat × Nat) := [(42, 187, 2, 32), (45, 89, 0, 0), (46, 183, 2, 34), (49, 181, 2, 35), (52, 42, 0, 0), (53, 187, 2, 32), (56, 89, 0, 0), (57, 183, 2, 34), (60, 181, 2, 39), (63, 42, 0, 0), (64, 17, 2, 160), (67, 188, 1, 10), (69, 181, 2, 42), (72, 42, 0, 0), (73, 17, 2, 161), (76, 188, 1, 10), (78, 181, 2, 46), (81, 42, 0, 0), (82, 5, 0, 0), (83, 181, 2, 49)]
theorem da_cX4_init_1 : fw dt_cX4_init_1 0 cX4_init.data.toList = true := by decide +kernel
theorem dX4_init_42 : decode cX4_init 42 = .ok (.new 32, 3) := fo_187 (fw_get da_cX4_init_1 0 rfl)
theorem dX4_init_45 : decode cX4_init 45 = .ok (.dup, 1) := fo_89 (fw_get da_cX4_init_1 1 rfl)
theorem dX4_init_46 : decode cX4_init 46 = .ok (.invokespecial 34, 3) := fo_183 (fw_get da_cX4_init_1 2 rfl)
theorem dX4_init_49 : decode cX4_init 49 = .ok (.putfield 35, 3) := fo_181 (fw_get da_cX4_init_1 3 rfl)
theorem dX4_init_52 : decode cX4_init 52 = .ok (.aload_n 0, 1) := fo_42 (fw_get da_cX4_init_1 4 rfl)
theorem dX4_init_53 : decode cX4_init 53 = .ok (.new 32, 3) := fo_187 (fw_get da_cX4_init_1 5 rfl)
theorem dX4_init_56 : decode cX4_init 56 = .ok (.dup, 1) := fo_89 (fw_get da_cX4_init_1 6 rfl)
theorem dX4_init_57 : decode cX4_init 57 = .ok (.invokespecial 34, 3) := fo_183 (fw_get da_cX4_init_1 7 rfl)
theorem dX4_init_60 : decode cX4_init 60 = .ok (.putfield 39, 3) := fo_181 (fw_get da_cX4_init_1 8 rfl)
theorem dX4_init_63 : decode cX4_init 63 = .ok (.aload_n 0, 1) := fo_42 (fw_get da_cX4_init_1 9 rfl)
theorem dX4_init_64 : decode cX4_init 64 = .ok (.sipush 160, 3) := fo_17 (fw_get da_cX4_init_1 10 rfl) (by decide +kernel)
theorem dX4_init_67 : decode cX4_init 67 = .ok (.newarray .int, 2) := fo_188 (fw_get da_cX4_init_1 11 rfl)
theorem dX4_init_69 : decode cX4_init 69 = .ok (.putfield 42, 3) := fo_181 (fw_get da_cX4_init_1 12 rfl)
theorem dX4_init_72 : decode cX4_init 72 = .ok (.aload_n 0, 1) := fo_42 (fw_get da_cX4_init_1 13 rfl)
theorem dX4_init_73 : decode cX4_init 73 = .ok (.sipush 161, 3) := fo_17 (fw_get da_cX4_init_1 14 rfl) (by decide +kernel)
theorem dX4_init_76 : decode cX4_init 76 = .ok (.newarray .int, 2) := fo_188 (fw_get da_cX4_init_1 15 rfl)
theorem dX4_init_78 : decode cX4_init 78 = .ok (.putfield 46, 3) := fo_181 (fw_get da_cX4_init_1 16 rfl)
theorem dX4_init_81 : decode cX4_init 81 = .ok (.aload_n 0, 1) := fo_42 (fw_get da_cX4_init_1 17 rfl)
theorem dX4_init_82 : decode cX4_init 82 = .ok (.iconst 2, 1) := fo_5 (fw_get da_cX4_init_1 18 rfl)
theorem dX4_init_83 : decode cX4_init 83 = .ok (.putfield 49, 3) := fo_181 (fw_get da_cX4_init_1 19 rfl)
def dt_cX4_init_2 : List (Nat × Nat × Nat × Nat) := [(86, 42, 0, 0), (87, 4, 0, 0), (88, 181, 2, 53), (91, 177, 0, 0)]
theorem da_cX4_init_2 : fw dt_cX4_init_2 0 cX4_init.data.toList = true := by decide +kernel
theorem dX4_init_86 : decode cX4_init 86 = .ok (.aload_n 0, 1) := fo_42 (fw_get da_cX4_init_2 0 rfl)
theorem dX4_init_87 : decode cX4_init 87 = .ok (.iconst 1, 1) := fo_4 (fw_get da_cX4_init_2 1 rfl)
theorem dX4_init_88 : decode cX4_init 88 = .ok (.putfield 53, 3) := fo_181 (fw_get da_cX4_init_2 2 rfl)
theorem dX4_init_91 : decode cX4_init 91 = .ok (.return_, 1) := fo_177 (fw_get da_cX4_init_2 3 rfl)
def dt_cX5_init_0 : List (Nat × Nat × Nat × Nat) := [(0, 42, 0, 0), (1, 183, 2, 1), (4, 42, 0, 0), (5, 17, 2, 160), (8, 188, 1, 10), (10, 181, 2, 7), (13, 42, 0, 0), (14, 5, 0, 0), (15, 181, 2, 13), (18, 42, 0, 0), (19, 17, 2, 324), (22, 188, 1, 10), (24, 181, 2, 17), (27, 42, 0, 0), (28, 17, 2, 324), (31, 188, 1, 10), (33, 181, 2, 20), (36, 42, 0, 0), (37, 17, 2, 324), (40, 188, 1, 10)]
theorem da_cX5_init_0 : fw dt_cX5_init_0 0 cX5_init.data.toList = true := by decide +kernel
theorem dX5_init_0 : decode cX5_init 0 = .ok (.aload_n 0, 1) := fo_42 (fw_get da_cX5_init_0 0 rfl)
theorem dX5_init_1 : decode cX5_init 1 = .ok (.invokespecial 1, 3) := fo_183 (fw_get da_cX5_init_0 1 rfl)
theorem dX5_init_4 : decode cX5_init 4 = .ok (.aload_n 0, 1) := fo_42 (fw_get da_cX5_init_0 2 rfl)
theorem dX5_init_5 : decode cX5_init 5 = .ok (.sipush 160, 3) := fo_17 (fw_get da_cX5_init_0 3 rfl) (by decide +kernel)
theorem dX5_init_8 : decode cX5_init 8 = .ok (.newarray .int, 2) := fo_188 (fw_get da_cX5_init_0 4 rfl)
theorem dX5_init_10 : decode cX5_init 10 = .ok (.putfield 7, 3) := fo_181 (fw_get da_cX5_init_0 5 rfl)
theorem dX5_init_13 : decode cX5_init 13 = .ok (.aload_n 0, 1) := fo_42 (fw_get da_cX5_init_0 6 rfl)
theorem dX5_init_14 : decode cX5_init 14 = .ok (.iconst 2, 1) := fo_5 (fw_get da_cX5_init_0 7 rfl)
theorem dX5_init_15 : decode cX5_init 15 = .ok (.putfield 13, 3) := fo_181 (fw_get da_cX5_init_0 8 rfl)
theorem dX5_init_18 : decode cX5_init 18 = .ok (.aload_n 0, 1) := fo_42 (fw_get da_cX5_init_0 9 rfl)
theorem dX5_init_19 : decode cX5_init 19 = .ok (.sipush 324, 3) := fo_17 (fw_get da_cX5_init_0 10 rfl) (by decide +kernel)
theorem dX5_init_22 : decode cX5_init 22 = .ok (.newarray .int, 2) := fo_188 (fw_get da_cX5_init_0 11 rfl)
theorem dX5_init_24 : decode cX5_init 24 = .ok (.putfield 17, 3) := fo_181 (fw_get da_cX5_init_0 12 rfl)
theorem dX5_init_27 : decode cX5_init 27 = .ok (.aload_n 0, 1) := fo_42 (fw_get da_cX5_init_0 13 rfl)
theorem dX5_init_28 : decode cX5_init 28 = .ok (.sipush 324, 3) := fo_17 (fw_get da_cX5_init_0 14 rfl) (by decide +kernel)
theorem dX5_init_31 : decode cX5_init 31 = .ok (.newarray .int, 2) := fo_188 (fw_get da_cX5_init_0 15 rfl)
theorem dX5_init_33 : decode cX5_init 33 = .ok (.putfield 20, 3) := fo_181 (fw_get da_cX5_init_0 16 rfl)
theorem dX5_init_36 : decode cX5_init 36 = .ok (.aload_n 0, 1) := fo_42 (fw_get da_cX5_init_0 17 rfl)
theorem dX5_init_37 : decode cX5_init 37 = .ok (.sipush 324, 3) := fo_17 (fw_get da_cX5_init_0 18 rfl) (by decide +kernel)
theorem dX5_init_40 : decode cX5_init 40 = .ok (.newarray .int, 2) := fo_188 (fw_get da_cX5_init_0 19 rfl)
def dt_cX5_init_1 : List (Nat × Nat × Nat × Nat) := [(42, 181, 2, 23), (45, 42, 0, 0), (46, 17, 2, 1944), (49, 188, 1, 10), (51, 181, 2, 26), (54, 42, 0, 0), (55, 17, 2, 1944), (58, 188, 1, 10), (60, 181, 2, 29), (63, 42, 0, 0), (64, 16, 1, 12), (66, 188, 1, 10), (68, 181, 2, 32), (71, 42, 0, 0), (72, 16, 1, 12), (74, 188, 1, 10), (76, 181, 2, 35), (79, 42, 0, 0), (80, 17, 2, 320), (83, 188, 1, 10)]
theorem da_cX5_init_1 : fw dt_cX5_init_1 0 cX5_init.data.toList = true := by decide +kernel
theorem dX5_init_42 : decode cX5_init 42 = .ok (.putfield 23, 3) := fo_181 (fw_get da_cX5_init_1 0 rfl)
theorem dX5_init_45 : decode cX5_init 45 = .ok (.aload_n 0, 1) := fo_42 (fw_get da_cX5_init_1 1 rfl)
theorem dX5_init_46 : decode cX5_init 46 = .ok (.sipush 1944, 3) := fo_17 (fw_get da_cX5_init_1 2 rfl) (by decide +kernel)
theorem dX5_init_49 : decode cX5_init 49 = .ok (.newarray .int, 2) := fo_188 (fw_get da_cX5_init_1 3 rfl)
theorem dX5_init_51 : decode cX5_init 51 = .ok (.putfield 26, 3) := fo_181 (fw_get da_cX5_init_1 4 rfl)
theorem dX5_init_54 : decode cX5_init 54 = .ok (.aload_n 0, 1) := fo_42 (fw_get da_cX5_init_1 5 rfl)
theorem dX5_init_55 : decode cX5_init 55 = .ok (.sipush 1944, 3) := fo_17 (fw_get da_cX5_init_1 6 rfl) (by decide +kernel)
theorem dX5_init_58 : decode cX5_init 58 = .ok (.newarray .int, 2) := fo_188 (fw_get da_cX5_init_1 7 rfl)
theorem dX5_init_60 : decode cX5_init 60 = .ok (.putfield 29, 3) := fo_181 (fw_get da_cX5_init_1 8 rfl)
theorem dX5_init_63 : decode cX5_init 63 = .ok (.aload_n 0, 1) := fo_42 (fw_get da_cX5_init_1 9 rfl)
theorem dX5_init_64 : decode cX5_init 64 = .ok (.bipush 12, 2) := fo_16 (fw_get da_cX5_init_1 10 rfl) (by decide +kernel)
theorem dX5_init_66 : decode cX5_init 66 = .ok (.newarray .int, 2) := fo_188 (fw_get da_cX5_init_1 11 rfl)
theorem dX5_init_68 : decode cX5_init 68 = .ok (.putfield 32, 3) := fo_181 (fw_get da_cX5_init_1 12 rfl)
theorem dX5_init_71 : decode cX5_init 71 = .ok (.aload_n 0, 1) := fo_42 (fw_get da_cX5_init_1 13 rfl)
theorem dX5_init_72 : decode cX5_init 72 = .ok (.bipush 12, 2) := fo_16 (fw_get da_cX5_init_1 14 rfl) (by decide +kernel)
theorem dX5_init_74 : decode cX5_init 74 = .ok (.newarray .int, 2) := fo_188 (fw_get da_cX5_init_1 15 rfl)
theorem dX5_init_76 : decode cX5_init 76 = .ok (.putfield 35, 3) := fo_181 (fw_get da_cX5_init_1 16 rfl)
theorem dX5_init_79 : decode cX5_init 79 = .ok (.aload_n 0, 1) := fo_42 (fw_get da_cX5_init_1 17 rfl)
theorem dX5_init_80 : decode cX5_init 80 = .ok (.sipush 320, 3) := fo_17 (fw_get da_cX5_init_1 18 rfl) (by decide +kernel)
theorem dX5_init_83 : decode cX5_init 83 = .ok (.newarray .int, 2) := fo_188 (fw_get da_cX5_init_1 19 rfl)
def dt_cX5_init_2 : List (Nat × Nat × Nat × Nat) := [(85, 181, 2, 38), (88, 42, 0, 0), (89, 17, 2, 320), (92, 188, 1, 10), (94, 181, 2, 41), (97, 42, 0, 0), (98, 17, 2, 320), (101, 188, 1, 10), (103, 181, 2, 44), (106, 42, 0, 0), (107, 17, 2, 320), (110, 188, 1, 10), (112, 181, 2, 47), (115, 42, 0, 0), (116, 17, 2, 320), (119, 188, 1, 10), (121, 181, 2, 50), (124, 42, 0, 0), (125, 17, 2, 1920), (128, 188, 1, 10)]
theorem da_cX5_init_2 : fw dt_cX5_init_2 0 cX5_init.data.toList = true := by decide +kernel
theorem dX5_init_85 : decode cX5_init 85 = .ok (.putfield 38, 3) := fo_181 (fw_get da_cX5_init_2 0 rfl)
theorem dX5_init_88 : decode cX5_init 88 = .ok (.aload_n 0, 1) := fo_42 (fw_get da_cX5_init_2 1 rfl)
theorem dX5_init_89 : decode cX5_init 89 = .ok (.sipush 320, 3) := fo_17 (fw_get da_cX5_init_2 2 rfl) (by decide +kernel)
theorem dX5_init_92 : decode cX5_init 92 = .ok (.newarray .int, 2) := fo_188 (fw_get da_cX5_init_2 3 rfl)
theorem dX5_init_94 : decode cX5_init 94 = .ok (.putfield 41, 3) := fo_181 (fw_get da_cX5_init_2 4 rfl)
theorem dX5_init_97 : decode cX5_init 97 = .ok (.aload_n 0, 1) := fo_42 (fw_get da_cX5_init_2 5 rfl)
theorem dX5_init_98 : decode cX5_init 98 = .ok (.sipush 320, 3) := fo_17 (fw_get da_cX5_init_2 6 rfl) (by decide +kernel)
theorem dX5_init_101 : decode cX5_init 101 = .ok (.newarray .int, 2) := fo_188 (fw_get da_cX5_init_2 7 rfl)
theorem dX5_init_103 : decode cX5_init 103 = .ok (.putfield 44, 3) := fo_181 (fw_get da_cX5_init_2 8 rfl)
theorem dX5_init_106 : decode cX5_init 106 = .ok (.aload_n 0, 1) := fo_42 (fw_get da_cX5_init_2 9 rfl)
theorem dX5_init_107 : decode cX5_init 107 = .ok (.sipush 320, 3) := fo_17 (fw_get da_cX5_init_2 10 rfl) (by decide +kernel)
theorem dX5_init_110 : decode cX5_init 110 = .ok (.newarray .int, 2) := fo_188 (fw_get da_cX5_init_2 11 rfl)
theorem dX5_init_112 : decode cX5_init 112 = .ok (.putfield 47, 3) := fo_181 (fw_get da_cX5_init_2 12 rfl)
theorem dX5_init_115 : decode cX5_init 115 = .ok (.aload_n 0, 1) := fo_42 (fw_get da_cX5_init_2 13 rfl)
theorem dX5_init_116 : decode cX5_init 116 = .ok (.sipush 320, 3) := fo_17 (fw_get da_cX5_init_2 14 rfl) (by decide +kernel)
theorem dX5_init_119 : decode cX5_init 119 = .ok (.newarray .int, 2) := fo_188 (fw_get da_cX5_init_2 15 rfl)
theorem dX5_init_121 : decode cX5_init 121 = .ok (.putfield 50, 3) := fo_181 (fw_get da_cX5_init_2 16 rfl)
theorem dX5_init_124 : decode cX5_init 124 = .ok (.aload_n 0, 1) := fo_42 (fw_get da_cX5_init_2 17 rfl)
theorem dX5_init_125 : decode cX5_init 125 = .ok (.sipush 1920, 3) := fo_17 (fw_get da_cX5_init_2 18 rfl) (by decide +kernel)
theorem dX5_init_128 : decode cX5_init 128 = .ok (.newarray .int, 2) := fo_188 (fw_get da_cX5_init_2 19 rfl)
def dt_cX5_init_3 : List (Nat × Nat × Nat × Nat) := [(130, 181, 2, 53), (133, 42, 0, 0), (134, 17, 2, 1920), (137, 188, 1, 10), (139, 181, 2, 56), (142, 42, 0, 0), (143, 16, 1, 12), (145, 188, 1, 10), (147, 181, 2, 59), (150, 42, 0, 0), (151, 17, 2, 160), (154, 188, 1, 10), (156, 181, 2, 62), (159, 42, 0, 0), (160, 17, 2, 160), (163, 188, 1, 10), (165, 181, 2, 65), (168, 42, 0, 0), (169, 17, 2, 161), (172, 188, 1, 10)]
theorem da_cX5_init_3 : fw dt_cX5_init_3 0 cX5_init.data.toList = true := by decide +kernel
theorem dX5_init_130 : decode cX5_init 130 = .ok (.putfield 53, 3) := fo_181 (fw_get da_cX5_init_3 0 rfl)
theorem dX5_init_133 : decode cX5_init 133 = .ok (.aload_n 0, 1) := fo_42 (fw_get da_cX5_init_3 1 rfl)
theorem dX5_init_134 : decode cX5_init 134 = .ok (.sipush 1920, 3) := fo_17 (fw_get da_cX5_init_3 2 rfl) (by decide +kernel)
theorem dX5_init_137 : decode cX5_init 137 = .ok (.newarray .int, 2) := fo_188 (fw_get da_cX5_init_3 3 rfl)
theorem dX5_init_139 : decode cX5_init 139 = .ok (.putfield 56, 3) := fo_181 (fw_get da_cX5_init_3 4 rfl)
theorem dX5_init_142 : decode cX5_init 142 = .ok (.aload_n 0, 1) := fo_42 (fw_get da_cX5_init_3 5 rfl)
theorem dX5_init_143 : decode cX5_init 143 = .ok (.bipush 12, 2) := fo_16 (fw_get da_cX5_init_3 6 rfl) (by decide +kernel)
theorem dX5_init_145 : decode cX5_init 145 = .ok (.newarray .int, 2) := fo_188 (fw_get da_cX5_init_3 7 rfl)
theorem dX5_init_147 : decode cX5_init 147 = .ok (.putfield 59, 3) := fo_181 (fw_get da_cX5_init_3 8 rfl)
theorem dX5_init_150 : decode cX5_init 150 = .ok (.aload_n 0, 1) := fo_42 (fw_get da_cX5_init_3 9 rfl)
theorem dX5_init_151 : decode cX5_init 151 = .ok (.sipush 160, 3) := fo_17 (fw_get da_cX5_init_3 10 rfl) (by decide +kernel)
theorem dX5_init_154 : decode cX5_init 154 = .ok (.newarray .int, 2) := fo_188 (fw_get da_cX5_init_3 11 rfl)
theorem dX5_init_156 : decode cX5_init 156 = .ok (.putfield 62, 3) := fo_181 (fw_get da_cX5_init_3 12 rfl)
theorem dX5_init_159 : decode cX5_init 159 = .ok (.aload_n 0, 1) := fo_42 (fw_get da_cX5_init_3 13 rfl)
theorem dX5_init_160 : decode cX5_init 160 = .ok (.sipush 160, 3) := fo_17 (fw_get da_cX5_init_3 14 rfl) (by decide +kernel)
theorem dX5_init_163 : decode cX5_init 163 = .ok (.newarray .int, 2) := fo_188 (fw_get da_cX5_init_3 15 rfl)
theorem dX5_init_165 : decode cX5_init 165 = .ok (.putfield 65, 3) := fo_181 (fw_get da_cX5_init_3 16 rfl)
theorem dX5_init_168 : decode cX5_init 168 = .ok (.aload_n 0, 1) := fo_42 (fw_get da_cX5_init_3 17 rfl)
theorem dX5_init_169 : decode cX5_init 169 = .ok (.sipush 161, 3) := fo_17 (fw_get da_cX5_init_3 18 rfl) (by decide +kernel)
theorem dX5_init_172 : decode cX5_init 172 = .ok (.newarray .int, 2) := fo_188 (fw_get da_cX5_init_3 19 rfl)
def dt_cX5_init_4 : List (Nat × Nat × Nat × Nat) := [(174, 181, 2, 68), (177, 42, 0, 0), (178, 17, 2, 160), (181, 188, 1, 10), (183, 181, 2, 71), (186, 42, 0, 0), (187, 17, 2, 160), (190, 188, 1, 10), (192, 181, 2, 74), (195, 177, 0, 0)]
theorem da_cX5_init_4 : fw dt_cX5_init_4 0 cX5_init.data.toList = true := by decide +kernel
theorem dX5_init_174 : decode cX5_init 174 = .ok (.putfield 68, 3) := fo_181 (fw_get da_cX5_init_4 0 rfl)
theorem dX5_init_177 : decode cX5_init 177 = .ok (.aload_n 0, 1) := fo_42 (fw_get da_cX5_init_4 1 rfl)
theorem dX5_init_178 : decode cX5_init 178 = .ok (.sipush 160, 3) := fo_17 (fw_get da_cX5_init_4 2 rfl) (by decide +kernel)
theorem dX5_init_181 : decode cX5_init 181 = .ok (.newarray .int, 2) := fo_188 (fw_get da_cX5_init_4 3 rfl)
theorem dX5_init_183 : decode cX5_init 183 = .ok (.putfield 71, 3) := fo_181 (fw_get da_cX5_init_4 4 rfl)
theorem dX5_init_186 : decode cX5_init 186 = .ok (.aload_n 0, 1) := fo_42 (fw_get da_cX5_init_4 5 rfl)
theorem dX5_init_187 : decode cX5_init 187 = .ok (.sipush 160, 3) := fo_17 (fw_get da_cX5_init_4 6 rfl) (by decide +kernel)
theorem dX5_init_190 : decode cX5_init 190 = .ok (.newarray .int, 2) := fo_188 (fw_get da_cX5_init_4 7 rfl)
theorem dX5_init_192 : decode cX5_init 192 = .ok (.putfield 74, 3) := fo_181 (fw_get da_cX5_init_4 8 rfl)
theorem dX5_init_195 : decode cX5_init 195 = .ok (.return_, 1) := fo_177 (fw_get da_cX5_init_4 9 rfl)


set_option maxHeartbeats 4000000 in
set_option maxRecDepth 100000 in
theorem c_X0_init (l : Launch) (dC : Nat → ClassId) (dI : Nat → Nat → Nat) (h0 : Nat) (cyI : ClassId) (sz : Nat) : Met l yX0_init wsX0_init ({ frames := 1, cells := 1, slots := 160, locals := 45 }) (va_Pc [.ref h0] (fun U => U.heap.size = sz ∧ va_P (dC, dI) vwCl [(h0, .inr (0, [.null, .int 0]))] U.heap ∧ va_K (dC, dI) vwCl [(cyI, .int)] U ∧ va_D (fun _ => True) [(h0, .inr (0, [.null, .int 0]))])) (va_Qv (fun _ : Unit => True) (fun (_ : Unit) (t : State) => ∃ (k1 : Nat), va_P (dC, dI) vwCl [kx_0 h0 k1 0, kx_a k1 cyI 160 (fun _ => 0)] t.heap ∧ va_K (dC, dI) vwCl [(cyI, .int)] t ∧ va_D (va_A [(h0, .inr (0, [.null, .int 0]))] sz) [kx_0 h0 k1 0, kx_a k1 cyI 160 (fun _ => 0)]) (va_A [(h0, .inr (0, [.null, .int 0]))] sz)) 1 160 (va_A [(h0, .inr (0, [.null, .int 0]))] sz) := by
  refine Met.ofW (cc := cX0_init) (maxL := 1) (ret := none) (by decide) rfl ?_
  intro p e s m args below meth c s₁ B hml hv
  obtain ⟨rfl, hsz, hP, hK, hD0⟩ := hv
  have hx := B.exec
  have hb := B.bytes
  have hr := B.returns
  have hts := atoms_spec (ws := wsX0_init) B.pre
  have hown : s.vm.findClass RX0 = some m.cls := findClass_of_methodNamed B.named
  have hlocks := B.notSynchronized
  have hin : meth.name = "<init>" := (name_of_methodNamed B.named B.method).1
  subst hsz
  have hD := hD0.self (sz := s.heap.size)
  generalize hAe : va_A [(h0, .inr (0, [.null, .int 0]))] s.heap.size = A at hD ⊢
  have hA : ∀ q : Nat, s.heap.size ≤ q → A q := fun q h => by rw [← hAe]; exact Or.inr h
  have hS : va_S A s.heap s.heap [] := va_S.rf
  have hP : va_P (dC, dI) vwCl [(h0, .inr (0, [.null, .int 0]))] s.heap := hP
  have hl := lv_entry ([.ref h0]) (n := 1) (Nat.le_of_ble_eq_true rfl)
  rw [lg_entry_eq]
  generalize (lg_sl ([.ref h0]) ++ List.replicate (1 - (lg_sl ([.ref h0])).length) Slot.unset).toArray = ls at hl ⊢
  have hl : lv_has ls 1 [(0, .ref h0)] := hl
  have hm_3 := hts (.methodLink RX0 3 objectInit) (List.mem_of_getElem? (i := 1) rfl)
  have ho_i := hts (.instanceMethod objectInit) (List.mem_of_getElem? (i := 2) rfl)
  have ho_c := hts (.code objectInit ⟨#[0xb1]⟩ 1 none) (List.mem_of_getElem? (i := 3) rfl)
  have ha_int := hts (.arrayClass .int) (List.mem_of_getElem? (i := 4) rfl)
  have hf_9 := hts (.fieldLink RX0 9 "MajorityIndex$Row" "cell" "[I") (List.mem_of_getElem? (i := 5) rfl)
  have hi_0 : ∀ w ∈ u_ws RX0 TX0 2, w ∈ wsX0_init := fun w h => List.mem_cons_of_mem _ (List.mem_append_right _ h)
  refine lv_aload_n hx hb dX0_init_0 rfl (lv_at hl 0 rfl) ?_
  refine W.objInit hx hb hown hm_3 ho_i ho_c rfl (by rw [hml]; exact hl.1) rfl dX0_init_1 (Nat.le_of_ble_eq_true rfl) (Nat.le_of_ble_eq_true rfl) ?_
  refine W.eq (g2 := F0 m 4 ls []) rfl ?_
  refine lv_aload_n hx hb dX0_init_4 rfl (lv_at hl 0 rfl) ?_
  refine lv_sipush (v := 160) hx hb dX0_init_5 (by decide) ?_
  refine va_newa (atype := .int) (a0 := (160, .inl (fun _ => 0))) hx hb ha_int rfl hK hP hD hS hA (N' := 160) (fun cA => ki_zi cA 160) (by decide) (by decide) (Nat.le_of_ble_eq_true rfl) (Nat.le_of_ble_eq_true rfl) (Nat.le_of_ble_eq_true rfl) dX0_init_8 (fun q_1 cA_2 H hK hP hD hS => ?_)
  obtain rfl : cyI = cA_2 := (ki_cA hK 0 1 rfl rfl).symm
  have hK : va_K (dC, dI) vwCl [(cyI, .int)] s := hK.sub [0] rfl
  refine W.widen (k := 1) (n := 160) (Nat.le_of_ble_eq_true rfl) (Nat.le_of_ble_eq_true rfl) ?_
  obtain ⟨hP, hD⟩ := kx_re (w2 := [(h0, .inr (0, [.null, .int 0])), kx_a q_1 cyI 160 (fun _ => 0)]) hP hD rfl
  refine va_putF (D := (dC, dI)) (ci := 0) (v := .ref q_1) (ty := .array .int) (C := RX0) (T := TX0) (N := 2) hx hb hts hi_0 tyX0 tyX0_ok nmX0 hown hK hP hD hS 0 rfl rfl 0 (by decide) hf_9 (fun _ h9 => h9) rfl hin rfl (by decide +kernel) rfl rfl (Nat.le_of_ble_eq_true rfl) dX0_init_10 (fun H locs hP hD hS => ?_)
  obtain ⟨hP, hD⟩ := kx_re (w2 := [kx_0 h0 q_1 0, kx_a q_1 cyI 160 (fun _ => 0)]) hP hD rfl
  have hP9 := hP
  have hD9 := hD
  have hK9 := hK
  exact W.vret hx hb hr (hlocks := hlocks) (fun t ht hW => ⟨⟨(), rfl, trivial, q_1, by rw [ht]; exact hP9, va_K.moved hW.alike hK9, hD9⟩, hS.F ht⟩) hS.2.2 dX0_init_13

set_option maxHeartbeats 4000000 in
set_option maxRecDepth 100000 in
theorem c_X1_init (l : Launch) (dC : Nat → ClassId) (dI : Nat → Nat → Nat) (h0 : Nat) (cyI : ClassId) (sz : Nat) : Met l yX1_init wsX1_init ({ frames := 1, cells := 2, slots := 320, locals := 45 }) (va_Pc [.ref h0] (fun U => U.heap.size = sz ∧ va_P (dC, dI) vwCl [(h0, .inr (1, [.null, .null, .int 0, .int 0]))] U.heap ∧ va_K (dC, dI) vwCl [(cyI, .int)] U ∧ va_D (fun _ => True) [(h0, .inr (1, [.null, .null, .int 0, .int 0]))])) (va_Qv (fun _ : Unit => True) (fun (_ : Unit) (t : State) => ∃ (k1 : Nat) (k2 : Nat), va_P (dC, dI) vwCl [kx_1 h0 k1 k2 0 0, kx_a k1 cyI 160 (fun _ => 0), kx_a k2 cyI 160 (fun _ => 0)] t.heap ∧ va_K (dC, dI) vwCl [(cyI, .int)] t ∧ va_D (va_A [(h0, .inr (1, [.null, .null, .int 0, .int 0]))] sz) [kx_1 h0 k1 k2 0 0, kx_a k1 cyI 160 (fun _ => 0), kx_a k2 cyI 160 (fun _ => 0)]) (va_A [(h0, .inr (1, [.null, .null, .int 0, .int 0]))] sz)) 2 320 (va_A [(h0, .inr (1, [.null, .null, .int 0, .int 0]))] sz) := by
  refine Met.ofW (cc := cX1_init) (maxL := 1) (ret := none) (by decide) rfl ?_
  intro p e s m args below meth c s₁ B hml hv
  obtain ⟨rfl, hsz, hP, hK, hD0⟩ := hv
  have hx := B.exec
  have hb := B.bytes
  have hr := B.returns
  have hts := atoms_spec (ws := wsX1_init) B.pre
  have hown : s.vm.findClass RX1 = some m.cls := findClass_of_methodNamed B.named
  have hlocks := B.notSynchronized
  have hin : meth.name = "<init>" := (name_of_methodNamed B.named B.method).1
  subst hsz
  have hD := hD0.self (sz := s.heap.size)
  generalize hAe : va_A [(h0, .inr (1, [.null, .null, .int 0, .int 0]))] s.heap.size = A at hD ⊢
  have hA : ∀ q : Nat, s.heap.size ≤ q → A q := fun q h => by rw [← hAe]; exact Or.inr h
  have hS : va_S A s.heap s.heap [] := va_S.rf
  have hP : va_P (dC, dI) vwCl [(h0, .inr (1, [.null, .null, .int 0, .int 0]))] s.heap := hP
  have hl := lv_entry ([.ref h0]) (n := 1) (Nat.le_of_ble_eq_true rfl)
  rw [lg_entry_eq]
  generalize (lg_sl ([.ref h0]) ++ List.replicate (1 - (lg_sl ([.ref h0])).length) Slot.unset).toArray = ls at hl ⊢
  have hl : lv_has ls 1 [(0, .ref h0)] := hl
  have hm_3 := hts (.methodLink RX1 3 objectInit) (List.mem_of_getElem? (i := 1) rfl)
  have ho_i := hts (.instanceMethod objectInit) (List.mem_of_getElem? (i := 2) rfl)
  have ho_c := hts (.code objectInit ⟨#[0xb1]⟩ 1 none) (List.mem_of_getElem? (i := 3) rfl)
  have ha_int := hts (.arrayClass .int) (List.mem_of_getElem? (i := 4) rfl)
  have hf_9 := hts (.fieldLink RX1 9 "MajorityIndex$Tally" "kind" "[I") (List.mem_of_getElem? (i := 5) rfl)
  have hi_1 : ∀ w ∈ u_ws RX1 TX1 4, w ∈ wsX1_init := fun w h => List.mem_cons_of_mem _ (List.mem_append_right _ h)
  have hf_15 := hts (.fieldLink RX1 15 "MajorityIndex$Tally" "often" "[I") (List.mem_of_getElem? (i := 6) rfl)
  refine lv_aload_n hx hb dX1_init_0 rfl (lv_at hl 0 rfl) ?_
  refine W.objInit hx hb hown hm_3 ho_i ho_c rfl (by rw [hml]; exact hl.1) rfl dX1_init_1 (Nat.le_of_ble_eq_true rfl) (Nat.le_of_ble_eq_true rfl) ?_
  refine W.eq (g2 := F0 m 4 ls []) rfl ?_
  refine lv_aload_n hx hb dX1_init_4 rfl (lv_at hl 0 rfl) ?_
  refine lv_sipush (v := 160) hx hb dX1_init_5 (by decide) ?_
  refine va_newa (atype := .int) (a0 := (160, .inl (fun _ => 0))) hx hb ha_int rfl hK hP hD hS hA (N' := 160) (fun cA => ki_zi cA 160) (by decide) (by decide) (Nat.le_of_ble_eq_true rfl) (Nat.le_of_ble_eq_true rfl) (Nat.le_of_ble_eq_true rfl) dX1_init_8 (fun q_1 cA_2 H hK hP hD hS => ?_)
  obtain rfl : cyI = cA_2 := (ki_cA hK 0 1 rfl rfl).symm
  have hK : va_K (dC, dI) vwCl [(cyI, .int)] s := hK.sub [0] rfl
  refine W.widen (k := 1) (n := 160) (Nat.le_of_ble_eq_true rfl) (Nat.le_of_ble_eq_true rfl) ?_
  obtain ⟨hP, hD⟩ := kx_re (w2 := [(h0, .inr (1, [.null, .null, .int 0, .int 0])), kx_a q_1 cyI 160 (fun _ => 0)]) hP hD rfl
  refine va_putF (D := (dC, dI)) (ci := 1) (v := .ref q_1) (ty := .array .int) (C := RX1) (T := TX1) (N := 4) hx hb hts hi_1 tyX1 tyX1_ok nmX1 hown hK hP hD hS 0 rfl rfl 0 (by decide) hf_9 (fun _ h9 => h9) rfl hin rfl (by decide +kernel) rfl rfl (Nat.le_of_ble_eq_true rfl) dX1_init_10 (fun H locs hP hD hS => ?_)
  obtain ⟨hP, hD⟩ := kx_re (w2 := [(h0, .inr (1, [.ref q_1, .null, .int 0, .int 0])), kx_a q_1 cyI 160 (fun _ => 0)]) hP hD rfl
  refine lv_aload_n hx hb dX1_init_13 rfl (lv_at hl 0 rfl) ?_
  refine lv_sipush (v := 160) hx hb dX1_init_14 (by decide) ?_
  refine va_newa (atype := .int) (a0 := (160, .inl (fun _ => 0))) hx hb ha_int rfl hK hP hD hS hA (N' := 160) (fun cA => ki_zi cA 160) (by decide) (by decide) (Nat.le_of_ble_eq_true rfl) (Nat.le_of_ble_eq_true rfl) (Nat.le_of_ble_eq_true rfl) dX1_init_17 (fun q_3 cA_4 H hK hP hD hS => ?_)
  obtain rfl : cyI = cA_4 := (ki_cA hK 0 1 rfl rfl).symm
  have hK : va_K (dC, dI) vwCl [(cyI, .int)] s := hK.sub [0] rfl
  refine W.widen (k := 2) (n := 320) (Nat.le_of_ble_eq_true rfl) (Nat.le_of_ble_eq_true rfl) ?_
  obtain ⟨hP, hD⟩ := kx_re (w2 := [(h0, .inr (1, [.ref q_1, .null, .int 0, .int 0])), kx_a q_1 cyI 160 (fun _ => 0), kx_a q_3 cyI 160 (fun _ => 0)]) hP hD rfl
  refine va_putF (D := (dC, dI)) (ci := 1) (v := .ref q_3) (ty := .array .int) (C := RX1) (T := TX1) (N := 4) hx hb hts hi_1 tyX1 tyX1_ok nmX1 hown hK hP hD hS 0 rfl rfl 1 (by decide) hf_15 (fun _ h9 => h9) rfl hin rfl (by decide +kernel) rfl rfl (Nat.le_of_ble_eq_true rfl) dX1_init_19 (fun H locs hP hD hS => ?_)
  obtain ⟨hP, hD⟩ := kx_re (w2 := [kx_1 h0 q_1 q_3 0 0, kx_a q_1 cyI 160 (fun _ => 0), kx_a q_3 cyI 160 (fun _ => 0)]) hP hD rfl
  have hP9 := hP
  have hD9 := hD
  have hK9 := hK
  exact W.vret hx hb hr (hlocks := hlocks) (fun t ht hW => ⟨⟨(), rfl, trivial, q_1, q_3, by rw [ht]; exact hP9, va_K.moved hW.alike hK9, hD9⟩, hS.F ht⟩) hS.2.2 dX1_init_22

set_option maxHeartbeats 4000000 in
set_option maxRecDepth 100000 in
theorem c_X3_init (l : Launch) (dC : Nat → ClassId) (dI : Nat → Nat → Nat) (h0 : Nat) (cyI : ClassId) (sz : Nat) : Met l yX3_init wsX3_init ({ frames := 1, cells := 2, slots := 24, locals := 45 }) (va_Pc [.ref h0] (fun U => U.heap.size = sz ∧ va_P (dC, dI) vwCl [(h0, .inr (3, [.null, .null, .int 0, .int 0, .int 0]))] U.heap ∧ va_K (dC, dI) vwCl [(cyI, .int)] U ∧ va_D (fun _ => True) [(h0, .inr (3, [.null, .null, .int 0, .int 0, .int 0]))])) (va_Qv (fun _ : Unit => True) (fun (_ : Unit) (t : State) => ∃ (k1 : Nat) (k2 : Nat), va_P (dC, dI) vwCl [kx_3 h0 k1 k2 0 0 0, kx_a k1 cyI 12 (fun _ => 0), kx_a k2 cyI 12 (fun _ => 0)] t.heap ∧ va_K (dC, dI) vwCl [(cyI, .int)] t ∧ va_D (va_A [(h0, .inr (3, [.null, .null, .int 0, .int 0, .int 0]))] sz) [kx_3 h0 k1 k2 0 0 0, kx_a k1 cyI 12 (fun _ => 0), kx_a k2 cyI 12 (fun _ => 0)]) (va_A [(h0, .inr (3, [.null, .null, .int 0, .int 0, .int 0]))] sz)) 2 24 (va_A [(h0, .inr (3, [.null, .null, .int 0, .int 0, .int 0]))] sz) := by
  refine Met.ofW (cc := cX3_init) (maxL := 1) (ret := none) (by decide) rfl ?_
  intro p e s m args below meth c s₁ B hml hv
  obtain ⟨rfl, hsz, hP, hK, hD0⟩ := hv
  have hx := B.exec
  have hb := B.bytes
  have hr := B.returns
  have hts := atoms_spec (ws := wsX3_init) B.pre
  have hown : s.vm.findClass RX3 = some m.cls := findClass_of_methodNamed B.named
  have hlocks := B.notSynchronized
  have hin : meth.name = "<init>" := (name_of_methodNamed B.named B.method).1
  subst hsz
  have hD := hD0.self (sz := s.heap.size)
  generalize hAe : va_A [(h0, .inr (3, [.null, .null, .int 0, .int 0, .int 0]))] s.heap.size = A at hD ⊢
  have hA : ∀ q : Nat, s.heap.size ≤ q → A q := fun q h => by rw [← hAe]; exact Or.inr h
  have hS : va_S A s.heap s.heap [] := va_S.rf
  have hP : va_P (dC, dI) vwCl [(h0, .inr (3, [.null, .null, .int 0, .int 0, .int 0]))] s.heap := hP
  have hl := lv_entry ([.ref h0]) (n := 1) (Nat.le_of_ble_eq_true rfl)
  rw [lg_entry_eq]
  generalize (lg_sl ([.ref h0]) ++ List.replicate (1 - (lg_sl ([.ref h0])).length) Slot.unset).toArray = ls at hl ⊢
  have hl : lv_has ls 1 [(0, .ref h0)] := hl
  have hm_3 := hts (.methodLink RX3 3 objectInit) (List.mem_of_getElem? (i := 1) rfl)
  have ho_i := hts (.instanceMethod objectInit) (List.mem_of_getElem? (i := 2) rfl)
  have ho_c := hts (.code objectInit ⟨#[0xb1]⟩ 1 none) (List.mem_of_getElem? (i := 3) rfl)
  have ha_int := hts (.arrayClass .int) (List.mem_of_getElem? (i := 4) rfl)
  have hf_9 := hts (.fieldLink RX3 9 "MajorityIndex$Votes" "value" "[I") (List.mem_of_getElem? (i := 5) rfl)
  have hi_3 : ∀ w ∈ u_ws RX3 TX3 5, w ∈ wsX3_init := fun w h => List.mem_cons_of_mem _ (List.mem_append_right _ h)
  have hf_15 := hts (.fieldLink RX3 15 "MajorityIndex$Votes" "number" "[I") (List.mem_of_getElem? (i := 6) rfl)
  refine lv_aload_n hx hb dX3_init_0 rfl (lv_at hl 0 rfl) ?_
  refine W.objInit hx hb hown hm_3 ho_i ho_c rfl (by rw [hml]; exact hl.1) rfl dX3_init_1 (Nat.le_of_ble_eq_true rfl) (Nat.le_of_ble_eq_true rfl) ?_
  refine W.eq (g2 := F0 m 4 ls []) rfl ?_
  refine lv_aload_n hx hb dX3_init_4 rfl (lv_at hl 0 rfl) ?_
  refine lv_bipush (v := 12) hx hb dX3_init_5 (by decide) ?_
  refine va_newa (atype := .int) (a0 := (12, .inl (fun _ => 0))) hx hb ha_int rfl hK hP hD hS hA (N' := 12) (fun cA => ki_zi cA 12) (by decide) (by decide) (Nat.le_of_ble_eq_true rfl) (Nat.le_of_ble_eq_true rfl) (Nat.le_of_ble_eq_true rfl) dX3_init_7 (fun q_1 cA_2 H hK hP hD hS => ?_)
  obtain rfl : cyI = cA_2 := (ki_cA hK 0 1 rfl rfl).symm
  have hK : va_K (dC, dI) vwCl [(cyI, .int)] s := hK.sub [0] rfl
  refine W.widen (k := 1) (n := 12) (Nat.le_of_ble_eq_true rfl) (Nat.le_of_ble_eq_true rfl) ?_
  obtain ⟨hP, hD⟩ := kx_re (w2 := [(h0, .inr (3, [.null, .null, .int 0, .int 0, .int 0])), kx_a q_1 cyI 12 (fun _ => 0)]) hP hD rfl
  refine va_putF (D := (dC, dI)) (ci := 3) (v := .ref q_1) (ty := .array .int) (C := RX3) (T := TX3) (N := 5) hx hb hts hi_3 tyX3 tyX3_ok nmX3 hown hK hP hD hS 0 rfl rfl 0 (by decide) hf_9 (fun _ h9 => h9) rfl hin rfl (by decide +kernel) rfl rfl (Nat.le_of_ble_eq_true rfl) dX3_init_9 (fun H locs hP hD hS => ?_)
  obtain ⟨hP, hD⟩ := kx_re (w2 := [(h0, .inr (3, [.ref q_1, .null, .int 0, .int 0, .int 0])), kx_a q_1 cyI 12 (fun _ => 0)]) hP hD rfl
  refine lv_aload_n hx hb dX3_init_12 rfl (lv_at hl 0 rfl) ?_
  refine lv_bipush (v := 12) hx hb dX3_init_13 (by decide) ?_
  refine va_newa (atype := .int) (a0 := (12, .inl (fun _ => 0))) hx hb ha_int rfl hK hP hD hS hA (N' := 12) (fun cA => ki_zi cA 12) (by decide) (by decide) (Nat.le_of_ble_eq_true rfl) (Nat.le_of_ble_eq_true rfl) (Nat.le_of_ble_eq_true rfl) dX3_init_15 (fun q_3 cA_4 H hK hP hD hS => ?_)
  obtain rfl : cyI = cA_4 := (ki_cA hK 0 1 rfl rfl).symm
  have hK : va_K (dC, dI) vwCl [(cyI, .int)] s := hK.sub [0] rfl
  refine W.widen (k := 2) (n := 24) (Nat.le_of_ble_eq_true rfl) (Nat.le_of_ble_eq_true rfl) ?_
  obtain ⟨hP, hD⟩ := kx_re (w2 := [(h0, .inr (3, [.ref q_1, .null, .int 0, .int 0, .int 0])), kx_a q_1 cyI 12 (fun _ => 0), kx_a q_3 cyI 12 (fun _ => 0)]) hP hD rfl
  refine va_putF (D := (dC, dI)) (ci := 3) (v := .ref q_3) (ty := .array .int) (C := RX3) (T := TX3) (N := 5) hx hb hts hi_3 tyX3 tyX3_ok nmX3 hown hK hP hD hS 0 rfl rfl 1 (by decide) hf_15 (fun _ h9 => h9) rfl hin rfl (by decide +kernel) rfl rfl (Nat.le_of_ble_eq_true rfl) dX3_init_17 (fun H locs hP hD hS => ?_)
  obtain ⟨hP, hD⟩ := kx_re (w2 := [kx_3 h0 q_1 q_3 0 0 0, kx_a q_1 cyI 12 (fun _ => 0), kx_a q_3 cyI 12 (fun _ => 0)]) hP hD rfl
  have hP9 := hP
  have hD9 := hD
  have hK9 := hK
  exact W.vret hx hb hr (hlocks := hlocks) (fun t ht hW => ⟨⟨(), rfl, trivial, q_1, q_3, by rw [ht]; exact hP9, va_K.moved hW.alike hK9, hD9⟩, hS.F ht⟩) hS.2.2 dX3_init_20

set_option maxHeartbeats 4000000 in
set_option maxRecDepth 100000 in
theorem c_X2_init (l : Launch) (dC : Nat → ClassId) (dI : Nat → Nat → Nat) (h0 : Nat) (h1 : Nat) (cyI : ClassId) (sz : Nat) : Met l yX2_init wsX2_init ({ frames := 2, cells := 10, slots := 5452, locals := 90 }) (va_Pc [.ref h0, .ref h1] (fun U => U.heap.size = sz ∧ va_P (dC, dI) vwCl [(h0, .inr (2, [.null, .null, .null, .null, .null, .null, .null, .null, .null, .int 0, .int 0]))] U.heap ∧ va_K (dC, dI) vwCl [(cyI, .int)] U ∧ va_D (fun _ => True) [(h0, .inr (2, [.null, .null, .null, .null, .null, .null, .null, .null, .null, .int 0, .int 0]))] ∧ va_Nw (.methodLinkNest RX2 11 yX3_init RX4) U)) (va_Qv (fun _ : Unit => True) (fun (_ : Unit) (t : State) => ∃ (k_joined : Nat) (k_from : Nat) (k_to : Nat) (k_size : Nat) (k_lossOf : Nat) (k_lessBy : Nat) (k_value : Nat) (k_number : Nat) (k_jv : Nat) (k_jn : Nat), va_P (dC, dI) vwCl [kx_2 h0 h1 k_joined k_from k_to k_size k_lossOf k_lessBy k_value k_number 0 0, kx_3 k_joined k_jv k_jn 0 0 0, kx_a k_jv cyI 12 (fun _ => 0), kx_a k_jn cyI 12 (fun _ => 0), kx_a k_from cyI 319 (fun _ => 0), kx_a k_to cyI 319 (fun _ => 0), kx_a k_size cyI 319 (fun _ => 0), kx_a k_lossOf cyI 319 (fun _ => 0), kx_a k_lessBy cyI 319 (fun _ => 0), kx_a k_value cyI 1914 (fun _ => 0), kx_a k_number cyI 1914 (fun _ => 0)] t.heap ∧ va_K (dC, dI) vwCl [(cyI, .int)] t ∧ va_D (va_A [(h0, .inr (2, [.null, .null, .null, .null, .null, .null, .null, .null, .null, .int 0, .int 0]))] sz) [kx_2 h0 h1 k_joined k_from k_to k_size k_lossOf k_lessBy k_value k_number 0 0, kx_3 k_joined k_jv k_jn 0 0 0, kx_a k_jv cyI 12 (fun _ => 0), kx_a k_jn cyI 12 (fun _ => 0), kx_a k_from cyI 319 (fun _ => 0), kx_a k_to cyI 319 (fun _ => 0), kx_a k_size cyI 319 (fun _ => 0), kx_a k_lossOf cyI 319 (fun _ => 0), kx_a k_lessBy cyI 319 (fun _ => 0), kx_a k_value cyI 1914 (fun _ => 0), kx_a k_number cyI 1914 (fun _ => 0)]) (va_A [(h0, .inr (2, [.null, .null, .null, .null, .null, .null, .null, .null, .null, .int 0, .int 0]))] sz)) 10 5452 (va_A [(h0, .inr (2, [.null, .null, .null, .null, .null, .null, .null, .null, .null, .int 0, .int 0]))] sz) := by
  refine Met.ofW (cc := cX2_init) (maxL := 2) (ret := none) (by decide) rfl ?_
  intro p e s m args below meth c s₁ B hml hv
  obtain ⟨rfl, hsz, hP, hK, hD0, hN0⟩ := hv
  have hx := B.exec
  have hb := B.bytes
  have hr := B.returns
  have hts := atoms_spec (ws := wsX2_init) B.pre
  have hown : s.vm.findClass RX2 = some m.cls := findClass_of_methodNamed B.named
  have hlocks := B.notSynchronized
  have hin : meth.name = "<init>" := (name_of_methodNamed B.named B.method).1
  subst hsz
  have hD := hD0.self (sz := s.heap.size)
  generalize hAe : va_A [(h0, .inr (2, [.null, .null, .null, .null, .null, .null, .null, .null, .null, .int 0, .int 0]))] s.heap.size = A at hD ⊢
  have hA : ∀ q : Nat, s.heap.size ≤ q → A q := fun q h => by rw [← hAe]; exact Or.inr h
  have hS : va_S A s.heap s.heap [] := va_S.rf
  have hP : va_P (dC, dI) vwCl [(h0, .inr (2, [.null, .null, .null, .null, .null, .null, .null, .null, .null, .int 0, .int 0]))] s.heap := hP
  have hl := lv_entry ([.ref h0, .ref h1]) (n := 2) (Nat.le_of_ble_eq_true rfl)
  rw [lg_entry_eq]
  generalize (lg_sl ([.ref h0, .ref h1]) ++ List.replicate (2 - (lg_sl ([.ref h0, .ref h1])).length) Slot.unset).toArray = ls at hl ⊢
  have hl : lv_has ls 2 [(0, .ref h0), (1, .ref h1)] := hl
  have hm_3 := hts (.methodLink RX2 3 objectInit) (List.mem_of_getElem? (i := 1) rfl)
  have ho_i := hts (.instanceMethod objectInit) (List.mem_of_getElem? (i := 2) rfl)
  have ho_c := hts (.code objectInit ⟨#[0xb1]⟩ 1 none) (List.mem_of_getElem? (i := 3) rfl)
  have hc_9 := hts (.classLink RX2 9 RX3) (List.mem_of_getElem? (i := 4) rfl)
  have hj_3 := hts (.instantiable RX3 5) (List.mem_of_getElem? (i := 5) rfl)
  have hz_3 := hts (.initialized RX3) (List.mem_of_getElem? (i := 6) rfl)
  have hi_3 : ∀ w ∈ u_ws RX3 TX3 5, w ∈ wsX2_init := fun w h => List.mem_cons_of_mem _ (List.mem_append_left _ (List.mem_append_right _ h))
  have hz_RX3 := hts (.initialized RX3) (List.mem_of_getElem? (i := 6) rfl)
  have hq_X3_init := hts (.instanceMethod yX3_init) (List.mem_of_getElem? (i := 17) rfl)
  have hf_12 := hts (.fieldLink RX2 12 "MajorityIndex$Tree" "joined" "LMajorityIndex$Votes;") (List.mem_of_getElem? (i := 7) rfl)
  have hi_2 : ∀ w ∈ u_ws RX2 TX2 11, w ∈ wsX2_init := fun w h => List.mem_cons_of_mem _ (List.mem_append_right _ h)
  have ha_int := hts (.arrayClass .int) (List.mem_of_getElem? (i := 8) rfl)
  have hf_18 := hts (.fieldLink RX2 18 "MajorityIndex$Tree" "from" "[I") (List.mem_of_getElem? (i := 9) rfl)
  have hf_22 := hts (.fieldLink RX2 22 "MajorityIndex$Tree" "to" "[I") (List.mem_of_getElem? (i := 10) rfl)
  have hf_25 := hts (.fieldLink RX2 25 "MajorityIndex$Tree" "size" "[I") (List.mem_of_getElem? (i := 11) rfl)
  have hf_28 := hts (.fieldLink RX2 28 "MajorityIndex$Tree" "lossOf" "[I") (List.mem_of_getElem? (i := 12) rfl)
  have hf_31 := hts (.fieldLink RX2 31 "MajorityIndex$Tree" "lessBy" "[I") (List.mem_of_getElem? (i := 13) rfl)
  have hf_34 := hts (.fieldLink RX2 34 "MajorityIndex$Tree" "value" "[I") (List.mem_of_getElem? (i := 14) rfl)
  have hf_37 := hts (.fieldLink RX2 37 "MajorityIndex$Tree" "number" "[I") (List.mem_of_getElem? (i := 15) rfl)
  have hf_40 := hts (.fieldLink RX2 40 "MajorityIndex$Tree" "row" "LMajorityIndex$Row;") (List.mem_of_getElem? (i := 16) rfl)
  refine lv_aload_n hx hb dX2_init_0 rfl (lv_at hl 0 rfl) ?_
  refine W.objInit hx hb hown hm_3 ho_i ho_c rfl (by rw [hml]; exact hl.1) rfl dX2_init_1 (Nat.le_of_ble_eq_true rfl) (Nat.le_of_ble_eq_true rfl) ?_
  refine W.eq (g2 := F0 m 4 ls []) rfl ?_
  refine lv_aload_n hx hb dX2_init_4 rfl (lv_at hl 0 rfl) ?_
  refine va_new (ci := 3) (fs := [.null, .null, .int 0, .int 0, .int 0]) (C := RX3) (T := TX3) (N := 5) hx hb hts hi_3 tyX3 tyX3_ok hown hc_9 hj_3 hz_3 hK hP hD hS hA rfl (ki_z3) (Nat.le_of_ble_eq_true rfl) (Nat.le_of_ble_eq_true rfl) dX2_init_5 (fun q_1 H hP hD hS => ?_)
  refine W.widen (k := 1) (n := 5) (Nat.le_of_ble_eq_true rfl) (Nat.le_of_ble_eq_true rfl) ?_
  obtain ⟨hP, hD⟩ := kx_re (w2 := [(h0, .inr (2, [.null, .null, .null, .null, .null, .null, .null, .null, .null, .int 0, .int 0])), (q_1, .inr (3, [.null, .null, .int 0, .int 0, .int 0]))]) hP hD rfl
  refine lv_dup hx hb dX2_init_8 rfl ?_
  obtain ⟨hPc, hDc, hFc, hCc⟩ := kx_pre (wc := [(q_1, .inr (3, [.null, .null, .int 0, .int 0, .int 0]))]) hP hD hS hA [1] (by decide) rfl
  have hKc := hK
  refine va_callv (va_runIN (As := []) (rest := [.ref q_1, .ref h0]) ⟨hx, hb, hml, hown, hts⟩ (c_X3_init l dC dI q_1 cyI H.size) ⟨(va_cnB 0 hts ggX2_init_X3_init rfl rfl rfl hN0 hz_RX3 (by decide +kernel) ⟨Nat.le_of_ble_eq_true rfl, Nat.le_of_ble_eq_true rfl⟩), rfl, hq_X3_init⟩ ⟨fun a U g mk q => by obtain ⟨q0, q1, qP, qK, qD⟩ := q; exact ⟨q0, q1, qP, va_K.moved (u := U) (U := U.calling g mk a) (Vm.Alike.refl U.vm) qK, qD⟩, fun U hU hW => ⟨rfl, by rw [hU], by rw [hU]; exact hPc, va_K.moved hW.alike hKc, hDc.weaken (fun _ _ _ _ => trivial)⟩⟩ rfl rfl hl.1 rfl (lv_room (Nat.le_of_ble_eq_true rfl)) dX2_init_9 ⟨Nat.le_of_ble_eq_true rfl, Nat.le_of_ble_eq_true rfl⟩) hS (fun q _ h => hFc q h) hFc (fun u t H1 locs ht hvm w_2 hB hz1 hk1 hS => ?_)
  obtain ⟨q_3, q_4, hP1, hK1, hD1⟩ := hB
  rw [ht] at hP1
  have hK1 := va_K.moved hvm.symm hK1
  obtain ⟨hP, hD⟩ := kx_join (w2 := [(h0, .inr (2, [.null, .null, .null, .null, .null, .null, .null, .null, .null, .int 0, .int 0])), kx_3 q_1 q_3 q_4 0 0 0, kx_a q_3 cyI 12 (fun _ => 0), kx_a q_4 cyI 12 (fun _ => 0)]) hP hD hP1 hD1 hk1 hFc [1] [0] hCc rfl (by decide) (by decide)
  clear hP1 hD1 hK1 hk1 hz1 hFc hDc hPc hKc hCc
  generalize H1 = H at hP hS ⊢
  refine W.widen (k := 3) (n := 29) (Nat.le_of_ble_eq_true rfl) (Nat.le_of_ble_eq_true rfl) ?_
  refine va_putF (D := (dC, dI)) (ci := 2) (v := .ref q_1) (ty := .object "MajorityIndex$Votes") (C := RX2) (T := TX2) (N := 11) hx hb hts hi_2 tyX2 tyX2_ok nmX2 hown hK hP hD hS 0 rfl rfl 1 (by decide) hf_12 (fun _ h9 => h9) rfl hin rfl (by decide +kernel) rfl rfl (Nat.le_of_ble_eq_true rfl) dX2_init_12 (fun H locs hP hD hS => ?_)
  obtain ⟨hP, hD⟩ := kx_re (w2 := [(h0, .inr (2, [.null, .ref q_1, .null, .null, .null, .null, .null, .null, .null, .int 0, .int 0])), kx_3 q_1 q_3 q_4 0 0 0, kx_a q_3 cyI 12 (fun _ => 0), kx_a q_4 cyI 12 (fun _ => 0)]) hP hD rfl
  refine lv_aload_n hx hb dX2_init_15 rfl (lv_at hl 0 rfl) ?_
  refine lv_sipush (v := 319) hx hb dX2_init_16 (by decide) ?_
  refine va_newa (atype := .int) (a0 := (319, .inl (fun _ => 0))) hx hb ha_int rfl hK hP hD hS hA (N' := 319) (fun cA => ki_zi cA 319) (by decide) (by decide) (Nat.le_of_ble_eq_true rfl) (Nat.le_of_ble_eq_true rfl) (Nat.le_of_ble_eq_true rfl) dX2_init_19 (fun q_5 cA_6 H hK hP hD hS => ?_)
  obtain rfl : cyI = cA_6 := (ki_cA hK 0 1 rfl rfl).symm
  have hK : va_K (dC, dI) vwCl [(cyI, .int)] s := hK.sub [0] rfl
  refine W.widen (k := 4) (n := 348) (Nat.le_of_ble_eq_true rfl) (Nat.le_of_ble_eq_true rfl) ?_
  obtain ⟨hP, hD⟩ := kx_re (w2 := [(h0, .inr (2, [.null, .ref q_1, .null, .null, .null, .null, .null, .null, .null, .int 0, .int 0])), kx_3 q_1 q_3 q_4 0 0 0, kx_a q_3 cyI 12 (fun _ => 0), kx_a q_4 cyI 12 (fun _ => 0), kx_a q_5 cyI 319 (fun _ => 0)]) hP hD rfl
  refine va_putF (D := (dC, dI)) (ci := 2) (v := .ref q_5) (ty := .array .int) (C := RX2) (T := TX2) (N := 11) hx hb hts hi_2 tyX2 tyX2_ok nmX2 hown hK hP hD hS 0 rfl rfl 2 (by decide) hf_18 (fun _ h9 => h9) rfl hin rfl (by decide +kernel) rfl rfl (Nat.le_of_ble_eq_true rfl) dX2_init_21 (fun H locs hP hD hS => ?_)
  obtain ⟨hP, hD⟩ := kx_re (w2 := [(h0, .inr (2, [.null, .ref q_1, .ref q_5, .null, .null, .null, .null, .null, .null, .int 0, .int 0])), kx_3 q_1 q_3 q_4 0 0 0, kx_a q_3 cyI 12 (fun _ => 0), kx_a q_4 cyI 12 (fun _ => 0), kx_a q_5 cyI 319 (fun _ => 0)]) hP hD rfl
  refine lv_aload_n hx hb dX2_init_24 rfl (lv_at hl 0 rfl) ?_
  refine lv_sipush (v := 319) hx hb dX2_init_25 (by decide) ?_
  refine va_newa (atype := .int) (a0 := (319, .inl (fun _ => 0))) hx hb ha_int rfl hK hP hD hS hA (N' := 319) (fun cA => ki_zi cA 319) (by decide) (by decide) (Nat.le_of_ble_eq_true rfl) (Nat.le_of_ble_eq_true rfl) (Nat.le_of_ble_eq_true rfl) dX2_init_28 (fun q_7 cA_8 H hK hP hD hS => ?_)
  obtain rfl : cyI = cA_8 := (ki_cA hK 0 1 rfl rfl).symm
  have hK : va_K (dC, dI) vwCl [(cyI, .int)] s := hK.sub [0] rfl
  refine W.widen (k := 5) (n := 667) (Nat.le_of_ble_eq_true rfl) (Nat.le_of_ble_eq_true rfl) ?_
  obtain ⟨hP, hD⟩ := kx_re (w2 := [(h0, .inr (2, [.null, .ref q_1, .ref q_5, .null, .null, .null, .null, .null, .null, .int 0, .int 0])), kx_3 q_1 q_3 q_4 0 0 0, kx_a q_3 cyI 12 (fun _ => 0), kx_a q_4 cyI 12 (fun _ => 0), kx_a q_5 cyI 319 (fun _ => 0), kx_a q_7 cyI 319 (fun _ => 0)]) hP hD rfl
  refine va_putF (D := (dC, dI)) (ci := 2) (v := .ref q_7) (ty := .array .int) (C := RX2) (T := TX2) (N := 11) hx hb hts hi_2 tyX2 tyX2_ok nmX2 hown hK hP hD hS 0 rfl rfl 3 (by decide) hf_22 (fun _ h9 => h9) rfl hin rfl (by decide +kernel) rfl rfl (Nat.le_of_ble_eq_true rfl) dX2_init_30 (fun H locs hP hD hS => ?_)
  obtain ⟨hP, hD⟩ := kx_re (w2 := [(h0, .inr (2, [.null, .ref q_1, .ref q_5, .ref q_7, .null, .null, .null, .null, .null, .int 0, .int 0])), kx_3 q_1 q_3 q_4 0 0 0, kx_a q_3 cyI 12 (fun _ => 0), kx_a q_4 cyI 12 (fun _ => 0), kx_a q_5 cyI 319 (fun _ => 0), kx_a q_7 cyI 319 (fun _ => 0)]) hP hD rfl
  refine lv_aload_n hx hb dX2_init_33 rfl (lv_at hl 0 rfl) ?_
  refine lv_sipush (v := 319) hx hb dX2_init_34 (by decide) ?_
  refine va_newa (atype := .int) (a0 := (319, .inl (fun _ => 0))) hx hb ha_int rfl hK hP hD hS hA (N' := 319) (fun cA => ki_zi cA 319) (by decide) (by decide) (Nat.le_of_ble_eq_true rfl) (Nat.le_of_ble_eq_true rfl) (Nat.le_of_ble_eq_true rfl) dX2_init_37 (fun q_9 cA_10 H hK hP hD hS => ?_)
  obtain rfl : cyI = cA_10 := (ki_cA hK 0 1 rfl rfl).symm
  have hK : va_K (dC, dI) vwCl [(cyI, .int)] s := hK.sub [0] rfl
  refine W.widen (k := 6) (n := 986) (Nat.le_of_ble_eq_true rfl) (Nat.le_of_ble_eq_true rfl) ?_
  obtain ⟨hP, hD⟩ := kx_re (w2 := [(h0, .inr (2, [.null, .ref q_1, .ref q_5, .ref q_7, .null, .null, .null, .null, .null, .int 0, .int 0])), kx_3 q_1 q_3 q_4 0 0 0, kx_a q_3 cyI 12 (fun _ => 0), kx_a q_4 cyI 12 (fun _ => 0), kx_a q_5 cyI 319 (fun _ => 0), kx_a q_7 cyI 319 (fun _ => 0), kx_a q_9 cyI 319 (fun _ => 0)]) hP hD rfl
  refine va_putF (D := (dC, dI)) (ci := 2) (v := .ref q_9) (ty := .array .int) (C := RX2) (T := TX2) (N := 11) hx hb hts hi_2 tyX2 tyX2_ok nmX2 hown hK hP hD hS 0 rfl rfl 4 (by decide) hf_25 (fun _ h9 => h9) rfl hin rfl (by decide +kernel) rfl rfl (Nat.le_of_ble_eq_true rfl) dX2_init_39 (fun H locs hP hD hS => ?_)
  obtain ⟨hP, hD⟩ := kx_re (w2 := [(h0, .inr (2, [.null, .ref q_1, .ref q_5, .ref q_7, .ref q_9, .null, .null, .null, .null, .int 0, .int 0])), kx_3 q_1 q_3 q_4 0 0 0, kx_a q_3 cyI 12 (fun _ => 0), kx_a q_4 cyI 12 (fun _ => 0), kx_a q_5 cyI 319 (fun _ => 0), kx_a q_7 cyI 319 (fun _ => 0), kx_a q_9 cyI 319 (fun _ => 0)]) hP hD rfl
  refine lv_aload_n hx hb dX2_init_42 rfl (lv_at hl 0 rfl) ?_
  refine lv_sipush (v := 319) hx hb dX2_init_43 (by decide) ?_
  refine va_newa (atype := .int) (a0 := (319, .inl (fun _ => 0))) hx hb ha_int rfl hK hP hD hS hA (N' := 319) (fun cA => ki_zi cA 319) (by decide) (by decide) (Nat.le_of_ble_eq_true rfl) (Nat.le_of_ble_eq_true rfl) (Nat.le_of_ble_eq_true rfl) dX2_init_46 (fun q_11 cA_12 H hK hP hD hS => ?_)
  obtain rfl : cyI = cA_12 := (ki_cA hK 0 1 rfl rfl).symm
  have hK : va_K (dC, dI) vwCl [(cyI, .int)] s := hK.sub [0] rfl
  refine W.widen (k := 7) (n := 1305) (Nat.le_of_ble_eq_true rfl) (Nat.le_of_ble_eq_true rfl) ?_
  obtain ⟨hP, hD⟩ := kx_re (w2 := [(h0, .inr (2, [.null, .ref q_1, .ref q_5, .ref q_7, .ref q_9, .null, .null, .null, .null, .int 0, .int 0])), kx_3 q_1 q_3 q_4 0 0 0, kx_a q_3 cyI 12 (fun _ => 0), kx_a q_4 cyI 12 (fun _ => 0), kx_a q_5 cyI 319 (fun _ => 0), kx_a q_7 cyI 319 (fun _ => 0), kx_a q_9 cyI 319 (fun _ => 0), kx_a q_11 cyI 319 (fun _ => 0)]) hP hD rfl
  refine va_putF (D := (dC, dI)) (ci := 2) (v := .ref q_11) (ty := .array .int) (C := RX2) (T := TX2) (N := 11) hx hb hts hi_2 tyX2 tyX2_ok nmX2 hown hK hP hD hS 0 rfl rfl 5 (by decide) hf_28 (fun _ h9 => h9) rfl hin rfl (by decide +kernel) rfl rfl (Nat.le_of_ble_eq_true rfl) dX2_init_48 (fun H locs hP hD hS => ?_)
  obtain ⟨hP, hD⟩ := kx_re (w2 := [(h0, .inr (2, [.null, .ref q_1, .ref q_5, .ref q_7, .ref q_9, .ref q_11, .null, .null, .null, .int 0, .int 0])), kx_3 q_1 q_3 q_4 0 0 0, kx_a q_3 cyI 12 (fun _ => 0), kx_a q_4 cyI 12 (fun _ => 0), kx_a q_5 cyI 319 (fun _ => 0), kx_a q_7 cyI 319 (fun _ => 0), kx_a q_9 cyI 319 (fun _ => 0), kx_a q_11 cyI 319 (fun _ => 0)]) hP hD rfl
  refine lv_aload_n hx hb dX2_init_51 rfl (lv_at hl 0 rfl) ?_
  refine lv_sipush (v := 319) hx hb dX2_init_52 (by decide) ?_
  refine va_newa (atype := .int) (a0 := (319, .inl (fun _ => 0))) hx hb ha_int rfl hK hP hD hS hA (N' := 319) (fun cA => ki_zi cA 319) (by decide) (by decide) (Nat.le_of_ble_eq_true rfl) (Nat.le_of_ble_eq_true rfl) (Nat.le_of_ble_eq_true rfl) dX2_init_55 (fun q_13 cA_14 H hK hP hD hS => ?_)
  obtain rfl : cyI = cA_14 := (ki_cA hK 0 1 rfl rfl).symm
  have hK : va_K (dC, dI) vwCl [(cyI, .int)] s := hK.sub [0] rfl
  refine W.widen (k := 8) (n := 1624) (Nat.le_of_ble_eq_true rfl) (Nat.le_of_ble_eq_true rfl) ?_
  obtain ⟨hP, hD⟩ := kx_re (w2 := [(h0, .inr (2, [.null, .ref q_1, .ref q_5, .ref q_7, .ref q_9, .ref q_11, .null, .null, .null, .int 0, .int 0])), kx_3 q_1 q_3 q_4 0 0 0, kx_a q_3 cyI 12 (fun _ => 0), kx_a q_4 cyI 12 (fun _ => 0), kx_a q_5 cyI 319 (fun _ => 0), kx_a q_7 cyI 319 (fun _ => 0), kx_a q_9 cyI 319 (fun _ => 0), kx_a q_11 cyI 319 (fun _ => 0), kx_a q_13 cyI 319 (fun _ => 0)]) hP hD rfl
  refine va_putF (D := (dC, dI)) (ci := 2) (v := .ref q_13) (ty := .array .int) (C := RX2) (T := TX2) (N := 11) hx hb hts hi_2 tyX2 tyX2_ok nmX2 hown hK hP hD hS 0 rfl rfl 6 (by decide) hf_31 (fun _ h9 => h9) rfl hin rfl (by decide +kernel) rfl rfl (Nat.le_of_ble_eq_true rfl) dX2_init_57 (fun H locs hP hD hS => ?_)
  obtain ⟨hP, hD⟩ := kx_re (w2 := [(h0, .inr (2, [.null, .ref q_1, .ref q_5, .ref q_7, .ref q_9, .ref q_11, .ref q_13, .null, .null, .int 0, .int 0])), kx_3 q_1 q_3 q_4 0 0 0, kx_a q_3 cyI 12 (fun _ => 0), kx_a q_4 cyI 12 (fun _ => 0), kx_a q_5 cyI 319 (fun _ => 0), kx_a q_7 cyI 319 (fun _ => 0), kx_a q_9 cyI 319 (fun _ => 0), kx_a q_11 cyI 319 (fun _ => 0), kx_a q_13 cyI 319 (fun _ => 0)]) hP hD rfl
  refine lv_aload_n hx hb dX2_init_60 rfl (lv_at hl 0 rfl) ?_
  refine lv_sipush (v := 1914) hx hb dX2_init_61 (by decide) ?_
  refine va_newa (atype := .int) (a0 := (1914, .inl (fun _ => 0))) hx hb ha_int rfl hK hP hD hS hA (N' := 1914) (fun cA => ki_zi cA 1914) (by decide) (by decide) (Nat.le_of_ble_eq_true rfl) (Nat.le_of_ble_eq_true rfl) (Nat.le_of_ble_eq_true rfl) dX2_init_64 (fun q_15 cA_16 H hK hP hD hS => ?_)
  obtain rfl : cyI = cA_16 := (ki_cA hK 0 1 rfl rfl).symm
  have hK : va_K (dC, dI) vwCl [(cyI, .int)] s := hK.sub [0] rfl
  refine W.widen (k := 9) (n := 3538) (Nat.le_of_ble_eq_true rfl) (Nat.le_of_ble_eq_true rfl) ?_
  obtain ⟨hP, hD⟩ := kx_re (w2 := [(h0, .inr (2, [.null, .ref q_1, .ref q_5, .ref q_7, .ref q_9, .ref q_11, .ref q_13, .null, .null, .int 0, .int 0])), kx_3 q_1 q_3 q_4 0 0 0, kx_a q_3 cyI 12 (fun _ => 0), kx_a q_4 cyI 12 (fun _ => 0), kx_a q_5 cyI 319 (fun _ => 0), kx_a q_7 cyI 319 (fun _ => 0), kx_a q_9 cyI 319 (fun _ => 0), kx_a q_11 cyI 319 (fun _ => 0), kx_a q_13 cyI 319 (fun _ => 0), kx_a q_15 cyI 1914 (fun _ => 0)]) hP hD rfl
  refine va_putF (D := (dC, dI)) (ci := 2) (v := .ref q_15) (ty := .array .int) (C := RX2) (T := TX2) (N := 11) hx hb hts hi_2 tyX2 tyX2_ok nmX2 hown hK hP hD hS 0 rfl rfl 7 (by decide) hf_34 (fun _ h9 => h9) rfl hin rfl (by decide +kernel) rfl rfl (Nat.le_of_ble_eq_true rfl) dX2_init_66 (fun H locs hP hD hS => ?_)
  obtain ⟨hP, hD⟩ := kx_re (w2 := [(h0, .inr (2, [.null, .ref q_1, .ref q_5, .ref q_7, .ref q_9, .ref q_11, .ref q_13, .ref q_15, .null, .int 0, .int 0])), kx_3 q_1 q_3 q_4 0 0 0, kx_a q_3 cyI 12 (fun _ => 0), kx_a q_4 cyI 12 (fun _ => 0), kx_a q_5 cyI 319 (fun _ => 0), kx_a q_7 cyI 319 (fun _ => 0), kx_a q_9 cyI 319 (fun _ => 0), kx_a q_11 cyI 319 (fun _ => 0), kx_a q_13 cyI 319 (fun _ => 0), kx_a q_15 cyI 1914 (fun _ => 0)]) hP hD rfl
  refine lv_aload_n hx hb dX2_init_69 rfl (lv_at hl 0 rfl) ?_
  refine lv_sipush (v := 1914) hx hb dX2_init_70 (by decide) ?_
  refine va_newa (atype := .int) (a0 := (1914, .inl (fun _ => 0))) hx hb ha_int rfl hK hP hD hS hA (N' := 1914) (fun cA => ki_zi cA 1914) (by decide) (by decide) (Nat.le_of_ble_eq_true rfl) (Nat.le_of_ble_eq_true rfl) (Nat.le_of_ble_eq_true rfl) dX2_init_73 (fun q_17 cA_18 H hK hP hD hS => ?_)
  obtain rfl : cyI = cA_18 := (ki_cA hK 0 1 rfl rfl).symm
  have hK : va_K (dC, dI) vwCl [(cyI, .int)] s := hK.sub [0] rfl
  refine W.widen (k := 10) (n := 5452) (Nat.le_of_ble_eq_true rfl) (Nat.le_of_ble_eq_true rfl) ?_
  obtain ⟨hP, hD⟩ := kx_re (w2 := [(h0, .inr (2, [.null, .ref q_1, .ref q_5, .ref q_7, .ref q_9, .ref q_11, .ref q_13, .ref q_15, .null, .int 0, .int 0])), kx_3 q_1 q_3 q_4 0 0 0, kx_a q_3 cyI 12 (fun _ => 0), kx_a q_4 cyI 12 (fun _ => 0), kx_a q_5 cyI 319 (fun _ => 0), kx_a q_7 cyI 319 (fun _ => 0), kx_a q_9 cyI 319 (fun _ => 0), kx_a q_11 cyI 319 (fun _ => 0), kx_a q_13 cyI 319 (fun _ => 0), kx_a q_15 cyI 1914 (fun _ => 0), kx_a q_17 cyI 1914 (fun _ => 0)]) hP hD rfl
  refine va_putF (D := (dC, dI)) (ci := 2) (v := .ref q_17) (ty := .array .int) (C := RX2) (T := TX2) (N := 11) hx hb hts hi_2 tyX2 tyX2_ok nmX2 hown hK hP hD hS 0 rfl rfl 8 (by decide) hf_37 (fun _ h9 => h9) rfl hin rfl (by decide +kernel) rfl rfl (Nat.le_of_ble_eq_true rfl) dX2_init_75 (fun H locs hP hD hS => ?_)
  obtain ⟨hP, hD⟩ := kx_re (w2 := [(h0, .inr (2, [.null, .ref q_1, .ref q_5, .ref q_7, .ref q_9, .ref q_11, .ref q_13, .ref q_15, .ref q_17, .int 0, .int 0])), kx_3 q_1 q_3 q_4 0 0 0, kx_a q_3 cyI 12 (fun _ => 0), kx_a q_4 cyI 12 (fun _ => 0), kx_a q_5 cyI 319 (fun _ => 0), kx_a q_7 cyI 319 (fun _ => 0), kx_a q_9 cyI 319 (fun _ => 0), kx_a q_11 cyI 319 (fun _ => 0), kx_a q_13 cyI 319 (fun _ => 0), kx_a q_15 cyI 1914 (fun _ => 0), kx_a q_17 cyI 1914 (fun _ => 0)]) hP hD rfl
  refine lv_aload_n hx hb dX2_init_78 rfl (lv_at hl 0 rfl) ?_
  refine lv_aload_n hx hb dX2_init_79 rfl (lv_at hl 1 rfl) ?_
  refine va_putF (D := (dC, dI)) (ci := 2) (v := .ref h1) (ty := .object "MajorityIndex$Row") (C := RX2) (T := TX2) (N := 11) hx hb hts hi_2 tyX2 tyX2_ok nmX2 hown hK hP hD hS 0 rfl rfl 0 (by decide) hf_40 (fun _ h9 => h9) rfl hin rfl (by decide +kernel) rfl rfl (Nat.le_of_ble_eq_true rfl) dX2_init_80 (fun H locs hP hD hS => ?_)
  obtain ⟨hP, hD⟩ := kx_re (w2 := [kx_2 h0 h1 q_1 q_5 q_7 q_9 q_11 q_13 q_15 q_17 0 0, kx_3 q_1 q_3 q_4 0 0 0, kx_a q_3 cyI 12 (fun _ => 0), kx_a q_4 cyI 12 (fun _ => 0), kx_a q_5 cyI 319 (fun _ => 0), kx_a q_7 cyI 319 (fun _ => 0), kx_a q_9 cyI 319 (fun _ => 0), kx_a q_11 cyI 319 (fun _ => 0), kx_a q_13 cyI 319 (fun _ => 0), kx_a q_15 cyI 1914 (fun _ => 0), kx_a q_17 cyI 1914 (fun _ => 0)]) hP hD rfl
  have hP9 := hP
  have hD9 := hD
  have hK9 := hK
  exact W.vret hx hb hr (hlocks := hlocks) (fun t ht hW => ⟨⟨(), rfl, trivial, q_1, q_5, q_7, q_9, q_11, q_13, q_15, q_17, q_3, q_4, by rw [ht]; exact hP9, va_K.moved hW.alike hK9, hD9⟩, hS.F ht⟩) hS.2.2 dX2_init_83

set_option maxHeartbeats 4000000 in
set_option maxRecDepth 100000 in
theorem c_X4_init (l : Launch) (dC : Nat → ClassId) (dI : Nat → Nat → Nat) (k_x : Nat) (cyI : ClassId) (sz : Nat) : Met l yX4_init wsX4_init ({ frames := 3, cells := 24, slots := 6328, locals := 135 }) (va_Pc [.ref k_x] (fun U => U.heap.size = sz ∧ va_P (dC, dI) vwCl [(k_x, .inr (4, [.null, .null, .null, .null, .null, .null, .null, .int 0, .int 0]))] U.heap ∧ va_K (dC, dI) vwCl [(cyI, .int)] U ∧ va_D (fun _ => True) [(k_x, .inr (4, [.null, .null, .null, .null, .null, .null, .null, .int 0, .int 0]))] ∧ va_Nw (.methodLinkNest RX4 11 yX0_init RX4) U ∧ va_Nw (.methodLinkNest RX4 27 yX1_init RX4) U ∧ va_Nw (.methodLinkNest RX4 34 yX3_init RX4) U ∧ va_Nw (.methodLinkNest RX2 11 yX3_init RX4) U)) (va_Qv (fun _ : Unit => True) (fun (_ : Unit) (t : State) => ∃ (k_row : Nat) (k_tree : Nat) (k_tally : Nat) (k_votes : Nat) (k_other : Nat) (k_wins : Nat) (k_fewest : Nat) (k_cell : Nat) (k_t_joined : Nat) (k_t_from : Nat) (k_t_to : Nat) (k_t_size : Nat) (k_t_lossOf : Nat) (k_t_lessBy : Nat) (k_t_value : Nat) (k_t_number : Nat) (k_t_jv : Nat) (k_t_jn : Nat) (k_kind : Nat) (k_often : Nat) (k_vv : Nat) (k_vn : Nat) (k_ov : Nat) (k_on : Nat), va_P (dC, dI) vwCl [kx_4 k_x k_row k_tree k_tally k_votes k_other k_wins k_fewest 2 1, kx_0 k_row k_cell 0, kx_a k_cell cyI 160 (fun _ => 0), kx_2 k_tree k_row k_t_joined k_t_from k_t_to k_t_size k_t_lossOf k_t_lessBy k_t_value k_t_number 0 0, kx_3 k_t_joined k_t_jv k_t_jn 0 0 0, kx_a k_t_jv cyI 12 (fun _ => 0), kx_a k_t_jn cyI 12 (fun _ => 0), kx_a k_t_from cyI 319 (fun _ => 0), kx_a k_t_to cyI 319 (fun _ => 0), kx_a k_t_size cyI 319 (fun _ => 0), kx_a k_t_lossOf cyI 319 (fun _ => 0), kx_a k_t_lessBy cyI 319 (fun _ => 0), kx_a k_t_value cyI 1914 (fun _ => 0), kx_a k_t_number cyI 1914 (fun _ => 0), kx_1 k_tally k_kind k_often 0 0, kx_a k_kind cyI 160 (fun _ => 0), kx_a k_often cyI 160 (fun _ => 0), kx_3 k_votes k_vv k_vn 0 0 0, kx_a k_vv cyI 12 (fun _ => 0), kx_a k_vn cyI 12 (fun _ => 0), kx_3 k_other k_ov k_on 0 0 0, kx_a k_ov cyI 12 (fun _ => 0), kx_a k_on cyI 12 (fun _ => 0), kx_a k_wins cyI 160 (fun _ => 0), kx_a k_fewest cyI 161 (fun _ => 0)] t.heap ∧ va_K (dC, dI) vwCl [(cyI, .int)] t ∧ va_D (va_A [(k_x, .inr (4, [.null, .null, .null, .null, .null, .null, .null, .int 0, .int 0]))] sz) [kx_4 k_x k_row k_tree k_tally k_votes k_other k_wins k_fewest 2 1, kx_0 k_row k_cell 0, kx_a k_cell cyI 160 (fun _ => 0), kx_2 k_tree k_row k_t_joined k_t_from k_t_to k_t_size k_t_lossOf k_t_lessBy k_t_value k_t_number 0 0, kx_3 k_t_joined k_t_jv k_t_jn 0 0 0, kx_a k_t_jv cyI 12 (fun _ => 0), kx_a k_t_jn cyI 12 (fun _ => 0), kx_a k_t_from cyI 319 (fun _ => 0), kx_a k_t_to cyI 319 (fun _ => 0), kx_a k_t_size cyI 319 (fun _ => 0), kx_a k_t_lossOf cyI 319 (fun _ => 0), kx_a k_t_lessBy cyI 319 (fun _ => 0), kx_a k_t_value cyI 1914 (fun _ => 0), kx_a k_t_number cyI 1914 (fun _ => 0), kx_1 k_tally k_kind k_often 0 0, kx_a k_kind cyI 160 (fun _ => 0), kx_a k_often cyI 160 (fun _ => 0), kx_3 k_votes k_vv k_vn 0 0 0, kx_a k_vv cyI 12 (fun _ => 0), kx_a k_vn cyI 12 (fun _ => 0), kx_3 k_other k_ov k_on 0 0 0, kx_a k_ov cyI 12 (fun _ => 0), kx_a k_on cyI 12 (fun _ => 0), kx_a k_wins cyI 160 (fun _ => 0), kx_a k_fewest cyI 161 (fun _ => 0)]) (va_A [(k_x, .inr (4, [.null, .null, .null, .null, .null, .null, .null, .int 0, .int 0]))] sz)) 24 6328 (va_A [(k_x, .inr (4, [.null, .null, .null, .null, .null, .null, .null, .int 0, .int 0]))] sz) := by
  refine Met.ofW (cc := cX4_init) (maxL := 1) (ret := none) (by decide) rfl ?_
  intro p e s m args below meth c s₁ B hml hv
  obtain ⟨rfl, hsz, hP, hK, hD0, hN0, hN1, hN2, hN3⟩ := hv
  have hx := B.exec
  have hb := B.bytes
  have hr := B.returns
  have hts := atoms_spec (ws := wsX4_init) B.pre
  have hown : s.vm.findClass RX4 = some m.cls := findClass_of_methodNamed B.named
  have hlocks := B.notSynchronized
  have hin : meth.name = "<init>" := (name_of_methodNamed B.named B.method).1
  subst hsz
  have hD := hD0.self (sz := s.heap.size)
  generalize hAe : va_A [(k_x, .inr (4, [.null, .null, .null, .null, .null, .null, .null, .int 0, .int 0]))] s.heap.size = A at hD ⊢
  have hA : ∀ q : Nat, s.heap.size ≤ q → A q := fun q h => by rw [← hAe]; exact Or.inr h
  have hS : va_S A s.heap s.heap [] := va_S.rf
  have hP : va_P (dC, dI) vwCl [(k_x, .inr (4, [.null, .null, .null, .null, .null, .null, .null, .int 0, .int 0]))] s.heap := hP
  have hl := lv_entry ([.ref k_x]) (n := 1) (Nat.le_of_ble_eq_true rfl)
  rw [lg_entry_eq]
  generalize (lg_sl ([.ref k_x]) ++ List.replicate (1 - (lg_sl ([.ref k_x])).length) Slot.unset).toArray = ls at hl ⊢
  have hl : lv_has ls 1 [(0, .ref k_x)] := hl
  have hm_3 := hts (.methodLink RX4 3 objectInit) (List.mem_of_getElem? (i := 1) rfl)
  have ho_i := hts (.instanceMethod objectInit) (List.mem_of_getElem? (i := 2) rfl)
  have ho_c := hts (.code objectInit ⟨#[0xb1]⟩ 1 none) (List.mem_of_getElem? (i := 3) rfl)
  have hc_9 := hts (.classLink RX4 9 RX0) (List.mem_of_getElem? (i := 4) rfl)
  have hj_0 := hts (.instantiable RX0 2) (List.mem_of_getElem? (i := 5) rfl)
  have hz_0 := hts (.initialized RX0) (List.mem_of_getElem? (i := 6) rfl)
  have hi_0 : ∀ w ∈ u_ws RX0 TX0 2, w ∈ wsX4_init := fun w h => List.mem_cons_of_mem _ (List.mem_append_left _ (List.mem_append_left _ (List.mem_append_left _ (List.mem_append_left _ (List.mem_append_right _ h)))))
  have hz_RX0 := hts (.initialized RX0) (List.mem_of_getElem? (i := 6) rfl)
  have hq_X0_init := hts (.instanceMethod yX0_init) (List.mem_of_getElem? (i := 26) rfl)
  have hf_12 := hts (.fieldLink RX4 12 "MajorityIndex" "row" "LMajorityIndex$Row;") (List.mem_of_getElem? (i := 7) rfl)
  have hi_4 : ∀ w ∈ u_ws RX4 TX4 9, w ∈ wsX4_init := fun w h => List.mem_cons_of_mem _ (List.mem_append_left _ (List.mem_append_left _ (List.mem_append_left _ (List.mem_append_right _ h))))
  have hc_16 := hts (.classLink RX4 16 RX2) (List.mem_of_getElem? (i := 8) rfl)
  have hj_2 := hts (.instantiable RX2 11) (List.mem_of_getElem? (i := 9) rfl)
  have hz_2 := hts (.initialized RX2) (List.mem_of_getElem? (i := 10) rfl)
  have hi_2 : ∀ w ∈ u_ws RX2 TX2 11, w ∈ wsX4_init := fun w h => List.mem_cons_of_mem _ (List.mem_append_left _ (List.mem_append_left _ (List.mem_append_right _ h)))
  have hz_RX2 := hts (.initialized RX2) (List.mem_of_getElem? (i := 10) rfl)
  have hm_18 := hts (.methodLink RX4 18 yX2_init) (List.mem_of_getElem? (i := 30) rfl)
  have hq_X2_init := hts (.instanceMethod yX2_init) (List.mem_of_getElem? (i := 31) rfl)
  have hf_21 := hts (.fieldLink RX4 21 "MajorityIndex" "tree" "LMajorityIndex$Tree;") (List.mem_of_getElem? (i := 11) rfl)
  have hc_25 := hts (.classLink RX4 25 RX1) (List.mem_of_getElem? (i := 12) rfl)
  have hj_1 := hts (.instantiable RX1 4) (List.mem_of_getElem? (i := 13) rfl)
  have hz_1 := hts (.initialized RX1) (List.mem_of_getElem? (i := 14) rfl)
  have hi_1 : ∀ w ∈ u_ws RX1 TX1 4, w ∈ wsX4_init := fun w h => List.mem_cons_of_mem _ (List.mem_append_left _ (List.mem_append_right _ h))
  have hz_RX1 := hts (.initialized RX1) (List.mem_of_getElem? (i := 14) rfl)
  have hq_X1_init := hts (.instanceMethod yX1_init) (List.mem_of_getElem? (i := 49) rfl)
  have hf_28 := hts (.fieldLink RX4 28 "MajorityIndex" "tally" "LMajorityIndex$Tally;") (List.mem_of_getElem? (i := 15) rfl)
  have hc_32 := hts (.classLink RX4 32 RX3) (List.mem_of_getElem? (i := 16) rfl)
  have hj_3 := hts (.instantiable RX3 5) (List.mem_of_getElem? (i := 17) rfl)
  have hz_3 := hts (.initialized RX3) (List.mem_of_getElem? (i := 18) rfl)
  have hi_3 : ∀ w ∈ u_ws RX3 TX3 5, w ∈ wsX4_init := fun w h => List.mem_cons_of_mem _ (List.mem_append_right _ h)
  have hz_RX3 := hts (.initialized RX3) (List.mem_of_getElem? (i := 18) rfl)
  have hq_X3_init := hts (.instanceMethod yX3_init) (List.mem_of_getElem? (i := 44) rfl)
  have hf_35 := hts (.fieldLink RX4 35 "MajorityIndex" "votes" "LMajorityIndex$Votes;") (List.mem_of_getElem? (i := 19) rfl)
  have hf_39 := hts (.fieldLink RX4 39 "MajorityIndex" "otherVotes" "LMajorityIndex$Votes;") (List.mem_of_getElem? (i := 20) rfl)
  have ha_int := hts (.arrayClass .int) (List.mem_of_getElem? (i := 21) rfl)
  have hf_42 := hts (.fieldLink RX4 42 "MajorityIndex" "wins" "[I") (List.mem_of_getElem? (i := 22) rfl)
  have hf_46 := hts (.fieldLink RX4 46 "MajorityIndex" "fewest" "[I") (List.mem_of_getElem? (i := 23) rfl)
  have hf_49 := hts (.fieldLink RX4 49 "MajorityIndex" "slotsNow" "I") (List.mem_of_getElem? (i := 24) rfl)
  have hf_53 := hts (.fieldLink RX4 53 "MajorityIndex" "treeIsOld" "Z") (List.mem_of_getElem? (i := 25) rfl)
  refine lv_aload_n hx hb dX4_init_0 rfl (lv_at hl 0 rfl) ?_
  refine W.objInit hx hb hown hm_3 ho_i ho_c rfl (by rw [hml]; exact hl.1) rfl dX4_init_1 (Nat.le_of_ble_eq_true rfl) (Nat.le_of_ble_eq_true rfl) ?_
  refine W.eq (g2 := F0 m 4 ls []) rfl ?_
  refine lv_aload_n hx hb dX4_init_4 rfl (lv_at hl 0 rfl) ?_
  refine va_new (ci := 0) (fs := [.null, .int 0]) (C := RX0) (T := TX0) (N := 2) hx hb hts hi_0 tyX0 tyX0_ok hown hc_9 hj_0 hz_0 hK hP hD hS hA rfl (ki_z0) (Nat.le_of_ble_eq_true rfl) (Nat.le_of_ble_eq_true rfl) dX4_init_5 (fun q_1 H hP hD hS => ?_)
  refine W.widen (k := 1) (n := 2) (Nat.le_of_ble_eq_true rfl) (Nat.le_of_ble_eq_true rfl) ?_
  obtain ⟨hP, hD⟩ := kx_re (w2 := [(k_x, .inr (4, [.null, .null, .null, .null, .null, .null, .null, .int 0, .int 0])), (q_1, .inr (0, [.null, .int 0]))]) hP hD rfl
  refine lv_dup hx hb dX4_init_8 rfl ?_
  obtain ⟨hPc, hDc, hFc, hCc⟩ := kx_pre (wc := [(q_1, .inr (0, [.null, .int 0]))]) hP hD hS hA [1] (by decide) rfl
  have hKc := hK
  refine va_callv (va_runIN (As := []) (rest := [.ref q_1, .ref k_x]) ⟨hx, hb, hml, hown, hts⟩ (c_X0_init l dC dI q_1 cyI H.size) ⟨(va_cnB 0 hts ggX4_init_X0_init rfl rfl rfl hN0 hz_RX0 (by decide +kernel) ⟨Nat.le_of_ble_eq_true rfl, Nat.le_of_ble_eq_true rfl⟩), rfl, hq_X0_init⟩ ⟨fun a U g mk q => by obtain ⟨q0, q1, qP, qK, qD⟩ := q; exact ⟨q0, q1, qP, va_K.moved (u := U) (U := U.calling g mk a) (Vm.Alike.refl U.vm) qK, qD⟩, fun U hU hW => ⟨rfl, by rw [hU], by rw [hU]; exact hPc, va_K.moved hW.alike hKc, hDc.weaken (fun _ _ _ _ => trivial)⟩⟩ rfl rfl hl.1 rfl (lv_room (Nat.le_of_ble_eq_true rfl)) dX4_init_9 ⟨Nat.le_of_ble_eq_true rfl, Nat.le_of_ble_eq_true rfl⟩) hS (fun q _ h => hFc q h) hFc (fun u t H1 locs ht hvm w_2 hB hz1 hk1 hS => ?_)
  obtain ⟨q_3, hP1, hK1, hD1⟩ := hB
  rw [ht] at hP1
  have hK1 := va_K.moved hvm.symm hK1
  obtain ⟨hP, hD⟩ := kx_join (w2 := [(k_x, .inr (4, [.null, .null, .null, .null, .null, .null, .null, .int 0, .int 0])), kx_0 q_1 q_3 0, kx_a q_3 cyI 160 (fun _ => 0)]) hP hD hP1 hD1 hk1 hFc [1] [0] hCc rfl (by decide) (by decide)
  clear hP1 hD1 hK1 hk1 hz1 hFc hDc hPc hKc hCc
  generalize H1 = H at hP hS ⊢
  refine W.widen (k := 2) (n := 162) (Nat.le_of_ble_eq_true rfl) (Nat.le_of_ble_eq_true rfl) ?_
  refine va_putF (D := (dC, dI)) (ci := 4) (v := .ref q_1) (ty := .object "MajorityIndex$Row") (C := RX4) (T := TX4) (N := 9) hx hb hts hi_4 tyX4 tyX4_ok nmX4 hown hK hP hD hS 0 rfl rfl 0 (by decide) hf_12 (fun _ h9 => h9) rfl hin rfl (by decide +kernel) rfl rfl (Nat.le_of_ble_eq_true rfl) dX4_init_12 (fun H locs hP hD hS => ?_)
  obtain ⟨hP, hD⟩ := kx_re (w2 := [(k_x, .inr (4, [.ref q_1, .null, .null, .null, .null, .null, .null, .int 0, .int 0])), kx_0 q_1 q_3 0, kx_a q_3 cyI 160 (fun _ => 0)]) hP hD rfl
  refine lv_aload_n hx hb dX4_init_15 rfl (lv_at hl 0 rfl) ?_
  refine va_new (ci := 2) (fs := [.null, .null, .null, .null, .null, .null, .null, .null, .null, .int 0, .int 0]) (C := RX2) (T := TX2) (N := 11) hx hb hts hi_2 tyX2 tyX2_ok hown hc_16 hj_2 hz_2 hK hP hD hS hA rfl (ki_z2) (Nat.le_of_ble_eq_true rfl) (Nat.le_of_ble_eq_true rfl) dX4_init_16 (fun q_4 H hP hD hS => ?_)
  refine W.widen (k := 3) (n := 173) (Nat.le_of_ble_eq_true rfl) (Nat.le_of_ble_eq_true rfl) ?_
  obtain ⟨hP, hD⟩ := kx_re (w2 := [(k_x, .inr (4, [.ref q_1, .null, .null, .null, .null, .null, .null, .int 0, .int 0])), kx_0 q_1 q_3 0, kx_a q_3 cyI 160 (fun _ => 0), (q_4, .inr (2, [.null, .null, .null, .null, .null, .null, .null, .null, .null, .int 0, .int 0]))]) hP hD rfl
  refine lv_dup hx hb dX4_init_19 rfl ?_
  refine lv_aload_n hx hb dX4_init_20 rfl (lv_at hl 0 rfl) ?_
  refine va_get (D := (dC, dI)) (ci := 4) (v := .ref q_1) (C := RX4) (T := TX4) (N := 9) hx hb hts hi_4 hown hK hP 0 rfl rfl 0 (by decide) hf_12 (fun _ h9 => h9) rfl dX4_init_21 ?_
  obtain ⟨hPc, hDc, hFc, hCc⟩ := kx_pre (wc := [(q_4, .inr (2, [.null, .null, .null, .null, .null, .null, .null, .null, .null, .int 0, .int 0]))]) hP hD hS hA [3] (by decide) rfl
  have hKc := hK
  refine va_callv (va_runI (As := [.ref q_1]) (rest := [.ref q_4, .ref k_x]) ⟨hx, hb, hml, hown, hts⟩ (c_X2_init l dC dI q_4 q_1 cyI H.size) (cwI 1 hts ggX4_init_X2_init rfl rfl rfl hz_RX2 hm_18 hq_X2_init rfl (by decide +kernel) ⟨Nat.le_of_ble_eq_true rfl, Nat.le_of_ble_eq_true rfl⟩) ⟨fun a U g mk q => by obtain ⟨q0, q1, qP, qK, qD, qn0⟩ := q; exact ⟨q0, q1, qP, va_K.moved (u := U) (U := U.calling g mk a) (Vm.Alike.refl U.vm) qK, qD, va_Nw.same (u := U) (U := U.calling g mk a) rfl rfl qn0⟩, fun U hU hW => ⟨rfl, by rw [hU], by rw [hU]; exact hPc, va_K.moved hW.alike hKc, hDc.weaken (fun _ _ _ _ => trivial), va_Nw.warmM hW hN3⟩⟩ rfl rfl hl.1 rfl (lv_room (Nat.le_of_ble_eq_true rfl)) dX4_init_24 ⟨Nat.le_of_ble_eq_true rfl, Nat.le_of_ble_eq_true rfl⟩) hS (fun q _ h => hFc q h) hFc (fun u t H1 locs ht hvm w_5 hB hz1 hk1 hS => ?_)
  obtain ⟨q_6, q_7, q_8, q_9, q_10, q_11, q_12, q_13, q_14, q_15, hP1, hK1, hD1⟩ := hB
  rw [ht] at hP1
  have hK1 := va_K.moved hvm.symm hK1
  obtain ⟨hP, hD⟩ := kx_join (w2 := [(k_x, .inr (4, [.ref q_1, .null, .null, .null, .null, .null, .null, .int 0, .int 0])), kx_0 q_1 q_3 0, kx_a q_3 cyI 160 (fun _ => 0), kx_2 q_4 q_1 q_6 q_7 q_8 q_9 q_10 q_11 q_12 q_13 0 0, kx_3 q_6 q_14 q_15 0 0 0, kx_a q_14 cyI 12 (fun _ => 0), kx_a q_15 cyI 12 (fun _ => 0), kx_a q_7 cyI 319 (fun _ => 0), kx_a q_8 cyI 319 (fun _ => 0), kx_a q_9 cyI 319 (fun _ => 0), kx_a q_10 cyI 319 (fun _ => 0), kx_a q_11 cyI 319 (fun _ => 0), kx_a q_12 cyI 1914 (fun _ => 0), kx_a q_13 cyI 1914 (fun _ => 0)]) hP hD hP1 hD1 hk1 hFc [3] [0, 1, 2] hCc rfl (by decide) (by decide)
  clear hP1 hD1 hK1 hk1 hz1 hFc hDc hPc hKc hCc
  generalize H1 = H at hP hS ⊢
  refine W.widen (k := 13) (n := 5625) (Nat.le_of_ble_eq_true rfl) (Nat.le_of_ble_eq_true rfl) ?_
  refine va_putF (D := (dC, dI)) (ci := 4) (v := .ref q_4) (ty := .object "MajorityIndex$Tree") (C := RX4) (T := TX4) (N := 9) hx hb hts hi_4 tyX4 tyX4_ok nmX4 hown hK hP hD hS 0 rfl rfl 1 (by decide) hf_21 (fun _ h9 => h9) rfl hin rfl (by decide +kernel) rfl rfl (Nat.le_of_ble_eq_true rfl) dX4_init_27 (fun H locs hP hD hS => ?_)
  obtain ⟨hP, hD⟩ := kx_re (w2 := [(k_x, .inr (4, [.ref q_1, .ref q_4, .null, .null, .null, .null, .null, .int 0, .int 0])), kx_0 q_1 q_3 0, kx_a q_3 cyI 160 (fun _ => 0), kx_2 q_4 q_1 q_6 q_7 q_8 q_9 q_10 q_11 q_12 q_13 0 0, kx_3 q_6 q_14 q_15 0 0 0, kx_a q_14 cyI 12 (fun _ => 0), kx_a q_15 cyI 12 (fun _ => 0), kx_a q_7 cyI 319 (fun _ => 0), kx_a q_8 cyI 319 (fun _ => 0), kx_a q_9 cyI 319 (fun _ => 0), kx_a q_10 cyI 319 (fun _ => 0), kx_a q_11 cyI 319 (fun _ => 0), kx_a q_12 cyI 1914 (fun _ => 0), kx_a q_13 cyI 1914 (fun _ => 0)]) hP hD rfl
  refine lv_aload_n hx hb dX4_init_30 rfl (lv_at hl 0 rfl) ?_
  refine va_new (ci := 1) (fs := [.null, .null, .int 0, .int 0]) (C := RX1) (T := TX1) (N := 4) hx hb hts hi_1 tyX1 tyX1_ok hown hc_25 hj_1 hz_1 hK hP hD hS hA rfl (ki_z1) (Nat.le_of_ble_eq_true rfl) (Nat.le_of_ble_eq_true rfl) dX4_init_31 (fun q_16 H hP hD hS => ?_)
  refine W.widen (k := 14) (n := 5629) (Nat.le_of_ble_eq_true rfl) (Nat.le_of_ble_eq_true rfl) ?_
  obtain ⟨hP, hD⟩ := kx_re (w2 := [(k_x, .inr (4, [.ref q_1, .ref q_4, .null, .null, .null, .null, .null, .int 0, .int 0])), kx_0 q_1 q_3 0, kx_a q_3 cyI 160 (fun _ => 0), kx_2 q_4 q_1 q_6 q_7 q_8 q_9 q_10 q_11 q_12 q_13 0 0, kx_3 q_6 q_14 q_15 0 0 0, kx_a q_14 cyI 12 (fun _ => 0), kx_a q_15 cyI 12 (fun _ => 0), kx_a q_7 cyI 319 (fun _ => 0), kx_a q_8 cyI 319 (fun _ => 0), kx_a q_9 cyI 319 (fun _ => 0), kx_a q_10 cyI 319 (fun _ => 0), kx_a q_11 cyI 319 (fun _ => 0), kx_a q_12 cyI 1914 (fun _ => 0), kx_a q_13 cyI 1914 (fun _ => 0), (q_16, .inr (1, [.null, .null, .int 0, .int 0]))]) hP hD rfl
  refine lv_dup hx hb dX4_init_34 rfl ?_
  obtain ⟨hPc, hDc, hFc, hCc⟩ := kx_pre (wc := [(q_16, .inr (1, [.null, .null, .int 0, .int 0]))]) hP hD hS hA [14] (by decide) rfl
  have hKc := hK
  refine va_callv (va_runIN (As := []) (rest := [.ref q_16, .ref k_x]) ⟨hx, hb, hml, hown, hts⟩ (c_X1_init l dC dI q_16 cyI H.size) ⟨(va_cnB 0 hts ggX4_init_X1_init rfl rfl rfl hN1 hz_RX1 (by decide +kernel) ⟨Nat.le_of_ble_eq_true rfl, Nat.le_of_ble_eq_true rfl⟩), rfl, hq_X1_init⟩ ⟨fun a U g mk q => by obtain ⟨q0, q1, qP, qK, qD⟩ := q; exact ⟨q0, q1, qP, va_K.moved (u := U) (U := U.calling g mk a) (Vm.Alike.refl U.vm) qK, qD⟩, fun U hU hW => ⟨rfl, by rw [hU], by rw [hU]; exact hPc, va_K.moved hW.alike hKc, hDc.weaken (fun _ _ _ _ => trivial)⟩⟩ rfl rfl hl.1 rfl (lv_room (Nat.le_of_ble_eq_true rfl)) dX4_init_35 ⟨Nat.le_of_ble_eq_true rfl, Nat.le_of_ble_eq_true rfl⟩) hS (fun q _ h => hFc q h) hFc (fun u t H1 locs ht hvm w_17 hB hz1 hk1 hS => ?_)
  obtain ⟨q_18, q_19, hP1, hK1, hD1⟩ := hB
  rw [ht] at hP1
  have hK1 := va_K.moved hvm.symm hK1
  obtain ⟨hP, hD⟩ := kx_join (w2 := [(k_x, .inr (4, [.ref q_1, .ref q_4, .null, .null, .null, .null, .null, .int 0, .int 0])), kx_0 q_1 q_3 0, kx_a q_3 cyI 160 (fun _ => 0), kx_2 q_4 q_1 q_6 q_7 q_8 q_9 q_10 q_11 q_12 q_13 0 0, kx_3 q_6 q_14 q_15 0 0 0, kx_a q_14 cyI 12 (fun _ => 0), kx_a q_15 cyI 12 (fun _ => 0), kx_a q_7 cyI 319 (fun _ => 0), kx_a q_8 cyI 319 (fun _ => 0), kx_a q_9 cyI 319 (fun _ => 0), kx_a q_10 cyI 319 (fun _ => 0), kx_a q_11 cyI 319 (fun _ => 0), kx_a q_12 cyI 1914 (fun _ => 0), kx_a q_13 cyI 1914 (fun _ => 0), kx_1 q_16 q_18 q_19 0 0, kx_a q_18 cyI 160 (fun _ => 0), kx_a q_19 cyI 160 (fun _ => 0)]) hP hD hP1 hD1 hk1 hFc [14] [0, 1, 2, 3, 4, 5, 6, 7, 8, 9, 10, 11, 12, 13] hCc rfl (by decide) (by decide)
  clear hP1 hD1 hK1 hk1 hz1 hFc hDc hPc hKc hCc
  generalize H1 = H at hP hS ⊢
  refine W.widen (k := 16) (n := 5949) (Nat.le_of_ble_eq_true rfl) (Nat.le_of_ble_eq_true rfl) ?_
  refine va_putF (D := (dC, dI)) (ci := 4) (v := .ref q_16) (ty := .object "MajorityIndex$Tally") (C := RX4) (T := TX4) (N := 9) hx hb hts hi_4 tyX4 tyX4_ok nmX4 hown hK hP hD hS 0 rfl rfl 2 (by decide) hf_28 (fun _ h9 => h9) rfl hin rfl (by decide +kernel) rfl rfl (Nat.le_of_ble_eq_true rfl) dX4_init_38 (fun H locs hP hD hS => ?_)
  obtain ⟨hP, hD⟩ := kx_re (w2 := [(k_x, .inr (4, [.ref q_1, .ref q_4, .ref q_16, .null, .null, .null, .null, .int 0, .int 0])), kx_0 q_1 q_3 0, kx_a q_3 cyI 160 (fun _ => 0), kx_2 q_4 q_1 q_6 q_7 q_8 q_9 q_10 q_11 q_12 q_13 0 0, kx_3 q_6 q_14 q_15 0 0 0, kx_a q_14 cyI 12 (fun _ => 0), kx_a q_15 cyI 12 (fun _ => 0), kx_a q_7 cyI 319 (fun _ => 0), kx_a q_8 cyI 319 (fun _ => 0), kx_a q_9 cyI 319 (fun _ => 0), kx_a q_10 cyI 319 (fun _ => 0), kx_a q_11 cyI 319 (fun _ => 0), kx_a q_12 cyI 1914 (fun _ => 0), kx_a q_13 cyI 1914 (fun _ => 0), kx_1 q_16 q_18 q_19 0 0, kx_a q_18 cyI 160 (fun _ => 0), kx_a q_19 cyI 160 (fun _ => 0)]) hP hD rfl
  refine lv_aload_n hx hb dX4_init_41 rfl (lv_at hl 0 rfl) ?_
  refine va_new (ci := 3) (fs := [.null, .null, .int 0, .int 0, .int 0]) (C := RX3) (T := TX3) (N := 5) hx hb hts hi_3 tyX3 tyX3_ok hown hc_32 hj_3 hz_3 hK hP hD hS hA rfl (ki_z3) (Nat.le_of_ble_eq_true rfl) (Nat.le_of_ble_eq_true rfl) dX4_init_42 (fun q_20 H hP hD hS => ?_)
  refine W.widen (k := 17) (n := 5954) (Nat.le_of_ble_eq_true rfl) (Nat.le_of_ble_eq_true rfl) ?_
  obtain ⟨hP, hD⟩ := kx_re (w2 := [(k_x, .inr (4, [.ref q_1, .ref q_4, .ref q_16, .null, .null, .null, .null, .int 0, .int 0])), kx_0 q_1 q_3 0, kx_a q_3 cyI 160 (fun _ => 0), kx_2 q_4 q_1 q_6 q_7 q_8 q_9 q_10 q_11 q_12 q_13 0 0, kx_3 q_6 q_14 q_15 0 0 0, kx_a q_14 cyI 12 (fun _ => 0), kx_a q_15 cyI 12 (fun _ => 0), kx_a q_7 cyI 319 (fun _ => 0), kx_a q_8 cyI 319 (fun _ => 0), kx_a q_9 cyI 319 (fun _ => 0), kx_a q_10 cyI 319 (fun _ => 0), kx_a q_11 cyI 319 (fun _ => 0), kx_a q_12 cyI 1914 (fun _ => 0), kx_a q_13 cyI 1914 (fun _ => 0), kx_1 q_16 q_18 q_19 0 0, kx_a q_18 cyI 160 (fun _ => 0), kx_a q_19 cyI 160 (fun _ => 0), (q_20, .inr (3, [.null, .null, .int 0, .int 0, .int 0]))]) hP hD rfl
  refine lv_dup hx hb dX4_init_45 rfl ?_
  obtain ⟨hPc, hDc, hFc, hCc⟩ := kx_pre (wc := [(q_20, .inr (3, [.null, .null, .int 0, .int 0, .int 0]))]) hP hD hS hA [17] (by decide) rfl
  have hKc := hK
  refine va_callv (va_runIN (As := []) (rest := [.ref q_20, .ref k_x]) ⟨hx, hb, hml, hown, hts⟩ (c_X3_init l dC dI q_20 cyI H.size) ⟨(va_cnB 0 hts ggX4_init_X3_init rfl rfl rfl hN2 hz_RX3 (by decide +kernel) ⟨Nat.le_of_ble_eq_true rfl, Nat.le_of_ble_eq_true rfl⟩), rfl, hq_X3_init⟩ ⟨fun a U g mk q => by obtain ⟨q0, q1, qP, qK, qD⟩ := q; exact ⟨q0, q1, qP, va_K.moved (u := U) (U := U.calling g mk a) (Vm.Alike.refl U.vm) qK, qD⟩, fun U hU hW => ⟨rfl, by rw [hU], by rw [hU]; exact hPc, va_K.moved hW.alike hKc, hDc.weaken (fun _ _ _ _ => trivial)⟩⟩ rfl rfl hl.1 rfl (lv_room (Nat.le_of_ble_eq_true rfl)) dX4_init_46 ⟨Nat.le_of_ble_eq_true rfl, Nat.le_of_ble_eq_true rfl⟩) hS (fun q _ h => hFc q h) hFc (fun u t H1 locs ht hvm w_21 hB hz1 hk1 hS => ?_)
  obtain ⟨q_22, q_23, hP1, hK1, hD1⟩ := hB
  rw [ht] at hP1
  have hK1 := va_K.moved hvm.symm hK1
  obtain ⟨hP, hD⟩ := kx_join (w2 := [(k_x, .inr (4, [.ref q_1, .ref q_4, .ref q_16, .null, .null, .null, .null, .int 0, .int 0])), kx_0 q_1 q_3 0, kx_a q_3 cyI 160 (fun _ => 0), kx_2 q_4 q_1 q_6 q_7 q_8 q_9 q_10 q_11 q_12 q_13 0 0, kx_3 q_6 q_14 q_15 0 0 0, kx_a q_14 cyI 12 (fun _ => 0), kx_a q_15 cyI 12 (fun _ => 0), kx_a q_7 cyI 319 (fun _ => 0), kx_a q_8 cyI 319 (fun _ => 0), kx_a q_9 cyI 319 (fun _ => 0), kx_a q_10 cyI 319 (fun _ => 0), kx_a q_11 cyI 319 (fun _ => 0), kx_a q_12 cyI 1914 (fun _ => 0), kx_a q_13 cyI 1914 (fun _ => 0), kx_1 q_16 q_18 q_19 0 0, kx_a q_18 cyI 160 (fun _ => 0), kx_a q_19 cyI 160 (fun _ => 0), kx_3 q_20 q_22 q_23 0 0 0, kx_a q_22 cyI 12 (fun _ => 0), kx_a q_23 cyI 12 (fun _ => 0)]) hP hD hP1 hD1 hk1 hFc [17] [0, 1, 2, 3, 4, 5, 6, 7, 8, 9, 10, 11, 12, 13, 14, 15, 16] hCc rfl (by decide) (by decide)
  clear hP1 hD1 hK1 hk1 hz1 hFc hDc hPc hKc hCc
  generalize H1 = H at hP hS ⊢
  refine W.widen (k := 19) (n := 5978) (Nat.le_of_ble_eq_true rfl) (Nat.le_of_ble_eq_true rfl) ?_
  refine va_putF (D := (dC, dI)) (ci := 4) (v := .ref q_20) (ty := .object "MajorityIndex$Votes") (C := RX4) (T := TX4) (N := 9) hx hb hts hi_4 tyX4 tyX4_ok nmX4 hown hK hP hD hS 0 rfl rfl 3 (by decide) hf_35 (fun _ h9 => h9) rfl hin rfl (by decide +kernel) rfl rfl (Nat.le_of_ble_eq_true rfl) dX4_init_49 (fun H locs hP hD hS => ?_)
  obtain ⟨hP, hD⟩ := kx_re (w2 := [(k_x, .inr (4, [.ref q_1, .ref q_4, .ref q_16, .ref q_20, .null, .null, .null, .int 0, .int 0])), kx_0 q_1 q_3 0, kx_a q_3 cyI 160 (fun _ => 0), kx_2 q_4 q_1 q_6 q_7 q_8 q_9 q_10 q_11 q_12 q_13 0 0, kx_3 q_6 q_14 q_15 0 0 0, kx_a q_14 cyI 12 (fun _ => 0), kx_a q_15 cyI 12 (fun _ => 0), kx_a q_7 cyI 319 (fun _ => 0), kx_a q_8 cyI 319 (fun _ => 0), kx_a q_9 cyI 319 (fun _ => 0), kx_a q_10 cyI 319 (fun _ => 0), kx_a q_11 cyI 319 (fun _ => 0), kx_a q_12 cyI 1914 (fun _ => 0), kx_a q_13 cyI 1914 (fun _ => 0), kx_1 q_16 q_18 q_19 0 0, kx_a q_18 cyI 160 (fun _ => 0), kx_a q_19 cyI 160 (fun _ => 0), kx_3 q_20 q_22 q_23 0 0 0, kx_a q_22 cyI 12 (fun _ => 0), kx_a q_23 cyI 12 (fun _ => 0)]) hP hD rfl
  refine lv_aload_n hx hb dX4_init_52 rfl (lv_at hl 0 rfl) ?_
  refine va_new (ci := 3) (fs := [.null, .null, .int 0, .int 0, .int 0]) (C := RX3) (T := TX3) (N := 5) hx hb hts hi_3 tyX3 tyX3_ok hown hc_32 hj_3 hz_3 hK hP hD hS hA rfl (ki_z3) (Nat.le_of_ble_eq_true rfl) (Nat.le_of_ble_eq_true rfl) dX4_init_53 (fun q_24 H hP hD hS => ?_)
  refine W.widen (k := 20) (n := 5983) (Nat.le_of_ble_eq_true rfl) (Nat.le_of_ble_eq_true rfl) ?_
  obtain ⟨hP, hD⟩ := kx_re (w2 := [(k_x, .inr (4, [.ref q_1, .ref q_4, .ref q_16, .ref q_20, .null, .null, .null, .int 0, .int 0])), kx_0 q_1 q_3 0, kx_a q_3 cyI 160 (fun _ => 0), kx_2 q_4 q_1 q_6 q_7 q_8 q_9 q_10 q_11 q_12 q_13 0 0, kx_3 q_6 q_14 q_15 0 0 0, kx_a q_14 cyI 12 (fun _ => 0), kx_a q_15 cyI 12 (fun _ => 0), kx_a q_7 cyI 319 (fun _ => 0), kx_a q_8 cyI 319 (fun _ => 0), kx_a q_9 cyI 319 (fun _ => 0), kx_a q_10 cyI 319 (fun _ => 0), kx_a q_11 cyI 319 (fun _ => 0), kx_a q_12 cyI 1914 (fun _ => 0), kx_a q_13 cyI 1914 (fun _ => 0), kx_1 q_16 q_18 q_19 0 0, kx_a q_18 cyI 160 (fun _ => 0), kx_a q_19 cyI 160 (fun _ => 0), kx_3 q_20 q_22 q_23 0 0 0, kx_a q_22 cyI 12 (fun _ => 0), kx_a q_23 cyI 12 (fun _ => 0), (q_24, .inr (3, [.null, .null, .int 0, .int 0, .int 0]))]) hP hD rfl
  refine lv_dup hx hb dX4_init_56 rfl ?_
  obtain ⟨hPc, hDc, hFc, hCc⟩ := kx_pre (wc := [(q_24, .inr (3, [.null, .null, .int 0, .int 0, .int 0]))]) hP hD hS hA [20] (by decide) rfl
  have hKc := hK
  refine va_callv (va_runIN (As := []) (rest := [.ref q_24, .ref k_x]) ⟨hx, hb, hml, hown, hts⟩ (c_X3_init l dC dI q_24 cyI H.size) ⟨(va_cnB 0 hts ggX4_init_X3_init rfl rfl rfl hN2 hz_RX3 (by decide +kernel) ⟨Nat.le_of_ble_eq_true rfl, Nat.le_of_ble_eq_true rfl⟩), rfl, hq_X3_init⟩ ⟨fun a U g mk q => by obtain ⟨q0, q1, qP, qK, qD⟩ := q; exact ⟨q0, q1, qP, va_K.moved (u := U) (U := U.calling g mk a) (Vm.Alike.refl U.vm) qK, qD⟩, fun U hU hW => ⟨rfl, by rw [hU], by rw [hU]; exact hPc, va_K.moved hW.alike hKc, hDc.weaken (fun _ _ _ _ => trivial)⟩⟩ rfl rfl hl.1 rfl (lv_room (Nat.le_of_ble_eq_true rfl)) dX4_init_57 ⟨Nat.le_of_ble_eq_true rfl, Nat.le_of_ble_eq_true rfl⟩) hS (fun q _ h => hFc q h) hFc (fun u t H1 locs ht hvm w_25 hB hz1 hk1 hS => ?_)
  obtain ⟨q_26, q_27, hP1, hK1, hD1⟩ := hB
  rw [ht] at hP1
  have hK1 := va_K.moved hvm.symm hK1
  obtain ⟨hP, hD⟩ := kx_join (w2 := [(k_x, .inr (4, [.ref q_1, .ref q_4, .ref q_16, .ref q_20, .null, .null, .null, .int 0, .int 0])), kx_0 q_1 q_3 0, kx_a q_3 cyI 160 (fun _ => 0), kx_2 q_4 q_1 q_6 q_7 q_8 q_9 q_10 q_11 q_12 q_13 0 0, kx_3 q_6 q_14 q_15 0 0 0, kx_a q_14 cyI 12 (fun _ => 0), kx_a q_15 cyI 12 (fun _ => 0), kx_a q_7 cyI 319 (fun _ => 0), kx_a q_8 cyI 319 (fun _ => 0), kx_a q_9 cyI 319 (fun _ => 0), kx_a q_10 cyI 319 (fun _ => 0), kx_a q_11 cyI 319 (fun _ => 0), kx_a q_12 cyI 1914 (fun _ => 0), kx_a q_13 cyI 1914 (fun _ => 0), kx_1 q_16 q_18 q_19 0 0, kx_a q_18 cyI 160 (fun _ => 0), kx_a q_19 cyI 160 (fun _ => 0), kx_3 q_20 q_22 q_23 0 0 0, kx_a q_22 cyI 12 (fun _ => 0), kx_a q_23 cyI 12 (fun _ => 0), kx_3 q_24 q_26 q_27 0 0 0, kx_a q_26 cyI 12 (fun _ => 0), kx_a q_27 cyI 12 (fun _ => 0)]) hP hD hP1 hD1 hk1 hFc [20] [0, 1, 2, 3, 4, 5, 6, 7, 8, 9, 10, 11, 12, 13, 14, 15, 16, 17, 18, 19] hCc rfl (by decide) (by decide)
  clear hP1 hD1 hK1 hk1 hz1 hFc hDc hPc hKc hCc
  generalize H1 = H at hP hS ⊢
  refine W.widen (k := 22) (n := 6007) (Nat.le_of_ble_eq_true rfl) (Nat.le_of_ble_eq_true rfl) ?_
  refine va_putF (D := (dC, dI)) (ci := 4) (v := .ref q_24) (ty := .object "MajorityIndex$Votes") (C := RX4) (T := TX4) (N := 9) hx hb hts hi_4 tyX4 tyX4_ok nmX4 hown hK hP hD hS 0 rfl rfl 4 (by decide) hf_39 (fun _ h9 => h9) rfl hin rfl (by decide +kernel) rfl rfl (Nat.le_of_ble_eq_true rfl) dX4_init_60 (fun H locs hP hD hS => ?_)
  obtain ⟨hP, hD⟩ := kx_re (w2 := [(k_x, .inr (4, [.ref q_1, .ref q_4, .ref q_16, .ref q_20, .ref q_24, .null, .null, .int 0, .int 0])), kx_0 q_1 q_3 0, kx_a q_3 cyI 160 (fun _ => 0), kx_2 q_4 q_1 q_6 q_7 q_8 q_9 q_10 q_11 q_12 q_13 0 0, kx_3 q_6 q_14 q_15 0 0 0, kx_a q_14 cyI 12 (fun _ => 0), kx_a q_15 cyI 12 (fun _ => 0), kx_a q_7 cyI 319 (fun _ => 0), kx_a q_8 cyI 319 (fun _ => 0), kx_a q_9 cyI 319 (fun _ => 0), kx_a q_10 cyI 319 (fun _ => 0), kx_a q_11 cyI 319 (fun _ => 0), kx_a q_12 cyI 1914 (fun _ => 0), kx_a q_13 cyI 1914 (fun _ => 0), kx_1 q_16 q_18 q_19 0 0, kx_a q_18 cyI 160 (fun _ => 0), kx_a q_19 cyI 160 (fun _ => 0), kx_3 q_20 q_22 q_23 0 0 0, kx_a q_22 cyI 12 (fun _ => 0), kx_a q_23 cyI 12 (fun _ => 0), kx_3 q_24 q_26 q_27 0 0 0, kx_a q_26 cyI 12 (fun _ => 0), kx_a q_27 cyI 12 (fun _ => 0)]) hP hD rfl
  refine lv_aload_n hx hb dX4_init_63 rfl (lv_at hl 0 rfl) ?_
  refine lv_sipush (v := 160) hx hb dX4_init_64 (by decide) ?_
  refine va_newa (atype := .int) (a0 := (160, .inl (fun _ => 0))) hx hb ha_int rfl hK hP hD hS hA (N' := 160) (fun cA => ki_zi cA 160) (by decide) (by decide) (Nat.le_of_ble_eq_true rfl) (Nat.le_of_ble_eq_true rfl) (Nat.le_of_ble_eq_true rfl) dX4_init_67 (fun q_28 cA_29 H hK hP hD hS => ?_)
  obtain rfl : cyI = cA_29 := (ki_cA hK 0 1 rfl rfl).symm
  have hK : va_K (dC, dI) vwCl [(cyI, .int)] s := hK.sub [0] rfl
  refine W.widen (k := 23) (n := 6167) (Nat.le_of_ble_eq_true rfl) (Nat.le_of_ble_eq_true rfl) ?_
  obtain ⟨hP, hD⟩ := kx_re (w2 := [(k_x, .inr (4, [.ref q_1, .ref q_4, .ref q_16, .ref q_20, .ref q_24, .null, .null, .int 0, .int 0])), kx_0 q_1 q_3 0, kx_a q_3 cyI 160 (fun _ => 0), kx_2 q_4 q_1 q_6 q_7 q_8 q_9 q_10 q_11 q_12 q_13 0 0, kx_3 q_6 q_14 q_15 0 0 0, kx_a q_14 cyI 12 (fun _ => 0), kx_a q_15 cyI 12 (fun _ => 0), kx_a q_7 cyI 319 (fun _ => 0), kx_a q_8 cyI 319 (fun _ => 0), kx_a q_9 cyI 319 (fun _ => 0), kx_a q_10 cyI 319 (fun _ => 0), kx_a q_11 cyI 319 (fun _ => 0), kx_a q_12 cyI 1914 (fun _ => 0), kx_a q_13 cyI 1914 (fun _ => 0), kx_1 q_16 q_18 q_19 0 0, kx_a q_18 cyI 160 (fun _ => 0), kx_a q_19 cyI 160 (fun _ => 0), kx_3 q_20 q_22 q_23 0 0 0, kx_a q_22 cyI 12 (fun _ => 0), kx_a q_23 cyI 12 (fun _ => 0), kx_3 q_24 q_26 q_27 0 0 0, kx_a q_26 cyI 12 (fun _ => 0), kx_a q_27 cyI 12 (fun _ => 0), kx_a q_28 cyI 160 (fun _ => 0)]) hP hD rfl
  refine va_putF (D := (dC, dI)) (ci := 4) (v := .ref q_28) (ty := .array .int) (C := RX4) (T := TX4) (N := 9) hx hb hts hi_4 tyX4 tyX4_ok nmX4 hown hK hP hD hS 0 rfl rfl 5 (by decide) hf_42 (fun _ h9 => h9) rfl hin rfl (by decide +kernel) rfl rfl (Nat.le_of_ble_eq_true rfl) dX4_init_69 (fun H locs hP hD hS => ?_)
  obtain ⟨hP, hD⟩ := kx_re (w2 := [(k_x, .inr (4, [.ref q_1, .ref q_4, .ref q_16, .ref q_20, .ref q_24, .ref q_28, .null, .int 0, .int 0])), kx_0 q_1 q_3 0, kx_a q_3 cyI 160 (fun _ => 0), kx_2 q_4 q_1 q_6 q_7 q_8 q_9 q_10 q_11 q_12 q_13 0 0, kx_3 q_6 q_14 q_15 0 0 0, kx_a q_14 cyI 12 (fun _ => 0), kx_a q_15 cyI 12 (fun _ => 0), kx_a q_7 cyI 319 (fun _ => 0), kx_a q_8 cyI 319 (fun _ => 0), kx_a q_9 cyI 319 (fun _ => 0), kx_a q_10 cyI 319 (fun _ => 0), kx_a q_11 cyI 319 (fun _ => 0), kx_a q_12 cyI 1914 (fun _ => 0), kx_a q_13 cyI 1914 (fun _ => 0), kx_1 q_16 q_18 q_19 0 0, kx_a q_18 cyI 160 (fun _ => 0), kx_a q_19 cyI 160 (fun _ => 0), kx_3 q_20 q_22 q_23 0 0 0, kx_a q_22 cyI 12 (fun _ => 0), kx_a q_23 cyI 12 (fun _ => 0), kx_3 q_24 q_26 q_27 0 0 0, kx_a q_26 cyI 12 (fun _ => 0), kx_a q_27 cyI 12 (fun _ => 0), kx_a q_28 cyI 160 (fun _ => 0)]) hP hD rfl
  refine lv_aload_n hx hb dX4_init_72 rfl (lv_at hl 0 rfl) ?_
  refine lv_sipush (v := 161) hx hb dX4_init_73 (by decide) ?_
  refine va_newa (atype := .int) (a0 := (161, .inl (fun _ => 0))) hx hb ha_int rfl hK hP hD hS hA (N' := 161) (fun cA => ki_zi cA 161) (by decide) (by decide) (Nat.le_of_ble_eq_true rfl) (Nat.le_of_ble_eq_true rfl) (Nat.le_of_ble_eq_true rfl) dX4_init_76 (fun q_30 cA_31 H hK hP hD hS => ?_)
  obtain rfl : cyI = cA_31 := (ki_cA hK 0 1 rfl rfl).symm
  have hK : va_K (dC, dI) vwCl [(cyI, .int)] s := hK.sub [0] rfl
  refine W.widen (k := 24) (n := 6328) (Nat.le_of_ble_eq_true rfl) (Nat.le_of_ble_eq_true rfl) ?_
  obtain ⟨hP, hD⟩ := kx_re (w2 := [(k_x, .inr (4, [.ref q_1, .ref q_4, .ref q_16, .ref q_20, .ref q_24, .ref q_28, .null, .int 0, .int 0])), kx_0 q_1 q_3 0, kx_a q_3 cyI 160 (fun _ => 0), kx_2 q_4 q_1 q_6 q_7 q_8 q_9 q_10 q_11 q_12 q_13 0 0, kx_3 q_6 q_14 q_15 0 0 0, kx_a q_14 cyI 12 (fun _ => 0), kx_a q_15 cyI 12 (fun _ => 0), kx_a q_7 cyI 319 (fun _ => 0), kx_a q_8 cyI 319 (fun _ => 0), kx_a q_9 cyI 319 (fun _ => 0), kx_a q_10 cyI 319 (fun _ => 0), kx_a q_11 cyI 319 (fun _ => 0), kx_a q_12 cyI 1914 (fun _ => 0), kx_a q_13 cyI 1914 (fun _ => 0), kx_1 q_16 q_18 q_19 0 0, kx_a q_18 cyI 160 (fun _ => 0), kx_a q_19 cyI 160 (fun _ => 0), kx_3 q_20 q_22 q_23 0 0 0, kx_a q_22 cyI 12 (fun _ => 0), kx_a q_23 cyI 12 (fun _ => 0), kx_3 q_24 q_26 q_27 0 0 0, kx_a q_26 cyI 12 (fun _ => 0), kx_a q_27 cyI 12 (fun _ => 0), kx_a q_28 cyI 160 (fun _ => 0), kx_a q_30 cyI 161 (fun _ => 0)]) hP hD rfl
  refine va_putF (D := (dC, dI)) (ci := 4) (v := .ref q_30) (ty := .array .int) (C := RX4) (T := TX4) (N := 9) hx hb hts hi_4 tyX4 tyX4_ok nmX4 hown hK hP hD hS 0 rfl rfl 6 (by decide) hf_46 (fun _ h9 => h9) rfl hin rfl (by decide +kernel) rfl rfl (Nat.le_of_ble_eq_true rfl) dX4_init_78 (fun H locs hP hD hS => ?_)
  obtain ⟨hP, hD⟩ := kx_re (w2 := [kx_4 k_x q_1 q_4 q_16 q_20 q_24 q_28 q_30 0 0, kx_0 q_1 q_3 0, kx_a q_3 cyI 160 (fun _ => 0), kx_2 q_4 q_1 q_6 q_7 q_8 q_9 q_10 q_11 q_12 q_13 0 0, kx_3 q_6 q_14 q_15 0 0 0, kx_a q_14 cyI 12 (fun _ => 0), kx_a q_15 cyI 12 (fun _ => 0), kx_a q_7 cyI 319 (fun _ => 0), kx_a q_8 cyI 319 (fun _ => 0), kx_a q_9 cyI 319 (fun _ => 0), kx_a q_10 cyI 319 (fun _ => 0), kx_a q_11 cyI 319 (fun _ => 0), kx_a q_12 cyI 1914 (fun _ => 0), kx_a q_13 cyI 1914 (fun _ => 0), kx_1 q_16 q_18 q_19 0 0, kx_a q_18 cyI 160 (fun _ => 0), kx_a q_19 cyI 160 (fun _ => 0), kx_3 q_20 q_22 q_23 0 0 0, kx_a q_22 cyI 12 (fun _ => 0), kx_a q_23 cyI 12 (fun _ => 0), kx_3 q_24 q_26 q_27 0 0 0, kx_a q_26 cyI 12 (fun _ => 0), kx_a q_27 cyI 12 (fun _ => 0), kx_a q_28 cyI 160 (fun _ => 0), kx_a q_30 cyI 161 (fun _ => 0)]) hP hD rfl
  refine lv_aload_n hx hb dX4_init_81 rfl (lv_at hl 0 rfl) ?_
  refine lv_iconst (v := 2) hx hb dX4_init_82 (by decide) ?_
  refine va_put (D := (dC, dI)) (ci := 4) (v := .int 2) (ty := .int) (C := RX4) (T := TX4) (N := 9) hx hb hts hi_4 tyX4 tyX4_ok nmX4 hown hK hP hD hS 0 rfl rfl 7 (by decide) hf_49 (fun _ h9 => h9) rfl (by decide +kernel) rfl rfl (Nat.le_of_ble_eq_true rfl) dX4_init_83 (fun H locs hP hD hS => ?_)
  obtain ⟨hP, hD⟩ := kx_re (w2 := [kx_4 k_x q_1 q_4 q_16 q_20 q_24 q_28 q_30 2 0, kx_0 q_1 q_3 0, kx_a q_3 cyI 160 (fun _ => 0), kx_2 q_4 q_1 q_6 q_7 q_8 q_9 q_10 q_11 q_12 q_13 0 0, kx_3 q_6 q_14 q_15 0 0 0, kx_a q_14 cyI 12 (fun _ => 0), kx_a q_15 cyI 12 (fun _ => 0), kx_a q_7 cyI 319 (fun _ => 0), kx_a q_8 cyI 319 (fun _ => 0), kx_a q_9 cyI 319 (fun _ => 0), kx_a q_10 cyI 319 (fun _ => 0), kx_a q_11 cyI 319 (fun _ => 0), kx_a q_12 cyI 1914 (fun _ => 0), kx_a q_13 cyI 1914 (fun _ => 0), kx_1 q_16 q_18 q_19 0 0, kx_a q_18 cyI 160 (fun _ => 0), kx_a q_19 cyI 160 (fun _ => 0), kx_3 q_20 q_22 q_23 0 0 0, kx_a q_22 cyI 12 (fun _ => 0), kx_a q_23 cyI 12 (fun _ => 0), kx_3 q_24 q_26 q_27 0 0 0, kx_a q_26 cyI 12 (fun _ => 0), kx_a q_27 cyI 12 (fun _ => 0), kx_a q_28 cyI 160 (fun _ => 0), kx_a q_30 cyI 161 (fun _ => 0)]) hP hD rfl
  refine lv_aload_n hx hb dX4_init_86 rfl (lv_at hl 0 rfl) ?_
  refine lv_iconst (v := 1) hx hb dX4_init_87 (by decide) ?_
  refine va_put (D := (dC, dI)) (ci := 4) (v := .int 1) (ty := .boolean) (C := RX4) (T := TX4) (N := 9) hx hb hts hi_4 tyX4 tyX4_ok nmX4 hown hK hP hD hS 0 rfl rfl 8 (by decide) hf_53 (fun _ h9 => h9) rfl (by decide +kernel) (by decide) (by decide) (Nat.le_of_ble_eq_true rfl) dX4_init_88 (fun H locs hP hD hS => ?_)
  obtain ⟨hP, hD⟩ := kx_re (w2 := [kx_4 k_x q_1 q_4 q_16 q_20 q_24 q_28 q_30 2 1, kx_0 q_1 q_3 0, kx_a q_3 cyI 160 (fun _ => 0), kx_2 q_4 q_1 q_6 q_7 q_8 q_9 q_10 q_11 q_12 q_13 0 0, kx_3 q_6 q_14 q_15 0 0 0, kx_a q_14 cyI 12 (fun _ => 0), kx_a q_15 cyI 12 (fun _ => 0), kx_a q_7 cyI 319 (fun _ => 0), kx_a q_8 cyI 319 (fun _ => 0), kx_a q_9 cyI 319 (fun _ => 0), kx_a q_10 cyI 319 (fun _ => 0), kx_a q_11 cyI 319 (fun _ => 0), kx_a q_12 cyI 1914 (fun _ => 0), kx_a q_13 cyI 1914 (fun _ => 0), kx_1 q_16 q_18 q_19 0 0, kx_a q_18 cyI 160 (fun _ => 0), kx_a q_19 cyI 160 (fun _ => 0), kx_3 q_20 q_22 q_23 0 0 0, kx_a q_22 cyI 12 (fun _ => 0), kx_a q_23 cyI 12 (fun _ => 0), kx_3 q_24 q_26 q_27 0 0 0, kx_a q_26 cyI 12 (fun _ => 0), kx_a q_27 cyI 12 (fun _ => 0), kx_a q_28 cyI 160 (fun _ => 0), kx_a q_30 cyI 161 (fun _ => 0)]) hP hD rfl
  have hP9 := hP
  have hD9 := hD
  have hK9 := hK
  exact W.vret hx hb hr (hlocks := hlocks) (fun t ht hW => ⟨⟨(), rfl, trivial, q_1, q_4, q_16, q_20, q_24, q_28, q_30, q_3, q_6, q_7, q_8, q_9, q_10, q_11, q_12, q_13, q_14, q_15, q_18, q_19, q_22, q_23, q_26, q_27, by rw [ht]; exact hP9, va_K.moved hW.alike hK9, hD9⟩, hS.F ht⟩) hS.2.2 dX4_init_91

set_option maxHeartbeats 4000000 in
set_option maxRecDepth 100000 in
theorem c_X5_init (l : Launch) (dC : Nat → ClassId) (dI : Nat → Nat → Nat) (h0 : Nat) (cyI : ClassId) (sz : Nat) : Met l yX5_init wsX5_init ({ frames := 1, cells := 21, slots := 11297, locals := 45 }) (va_Pc [.ref h0] (fun U => U.heap.size = sz ∧ va_P (dC, dI) vwCl [(h0, .inr (5, [.null, .int 0, .int 0, .int 0, .null, .null, .null, .null, .null, .null, .null, .int 0, .null, .null, .int 0, .null, .int 0, .null, .null, .null, .null, .null, .int 0, .null, .null, .int 0, .null, .null, .null, .int 0]))] U.heap ∧ va_K (dC, dI) vwCl [(cyI, .int)] U ∧ va_D (fun _ => True) [(h0, .inr (5, [.null, .int 0, .int 0, .int 0, .null, .null, .null, .null, .null, .null, .null, .int 0, .null, .null, .int 0, .null, .int 0, .null, .null, .null, .null, .null, .int 0, .null, .null, .int 0, .null, .null, .null, .int 0]))])) (va_Qv (fun _ : Unit => True) (fun (_ : Unit) (t : State) => ∃ (k_row : Nat) (k_many : Nat) (k_loss : Nat) (k_less : Nat) (k_voteValue : Nat) (k_voteNumber : Nat) (k_allValue : Nat) (k_allNumber : Nat) (k_nodeL : Nat) (k_nodeR : Nat) (k_part : Nat) (k_wasMany : Nat) (k_wasLoss : Nat) (k_wasValue : Nat) (k_wasNumber : Nat) (k_path : Nat) (k_heavyValue : Nat) (k_heavyTimes : Nat) (k_fewest : Nat) (k_which : Nat) (k_met : Nat), va_P (dC, dI) vwCl [kx_5 h0 k_row 0 2 0 k_many k_loss k_less k_voteValue k_voteNumber k_allValue k_allNumber 0 k_nodeL k_nodeR 0 k_part 0 k_wasMany k_wasLoss k_wasValue k_wasNumber k_path 0 k_heavyValue k_heavyTimes 0 k_fewest k_which k_met 0, kx_a k_row cyI 160 (fun _ => 0), kx_a k_many cyI 324 (fun _ => 0), kx_a k_loss cyI 324 (fun _ => 0), kx_a k_less cyI 324 (fun _ => 0), kx_a k_voteValue cyI 1944 (fun _ => 0), kx_a k_voteNumber cyI 1944 (fun _ => 0), kx_a k_allValue cyI 12 (fun _ => 0), kx_a k_allNumber cyI 12 (fun _ => 0), kx_a k_nodeL cyI 320 (fun _ => 0), kx_a k_nodeR cyI 320 (fun _ => 0), kx_a k_part cyI 320 (fun _ => 0), kx_a k_wasMany cyI 320 (fun _ => 0), kx_a k_wasLoss cyI 320 (fun _ => 0), kx_a k_wasValue cyI 1920 (fun _ => 0), kx_a k_wasNumber cyI 1920 (fun _ => 0), kx_a k_path cyI 12 (fun _ => 0), kx_a k_heavyValue cyI 160 (fun _ => 0), kx_a k_heavyTimes cyI 160 (fun _ => 0), kx_a k_fewest cyI 161 (fun _ => 0), kx_a k_which cyI 160 (fun _ => 0), kx_a k_met cyI 160 (fun _ => 0)] t.heap ∧ va_K (dC, dI) vwCl [(cyI, .int)] t ∧ va_D (va_A [(h0, .inr (5, [.null, .int 0, .int 0, .int 0, .null, .null, .null, .null, .null, .null, .null, .int 0, .null, .null, .int 0, .null, .int 0, .null, .null, .null, .null, .null, .int 0, .null, .null, .int 0, .null, .null, .null, .int 0]))] sz) [kx_5 h0 k_row 0 2 0 k_many k_loss k_less k_voteValue k_voteNumber k_allValue k_allNumber 0 k_nodeL k_nodeR 0 k_part 0 k_wasMany k_wasLoss k_wasValue k_wasNumber k_path 0 k_heavyValue k_heavyTimes 0 k_fewest k_which k_met 0, kx_a k_row cyI 160 (fun _ => 0), kx_a k_many cyI 324 (fun _ => 0), kx_a k_loss cyI 324 (fun _ => 0), kx_a k_less cyI 324 (fun _ => 0), kx_a k_voteValue cyI 1944 (fun _ => 0), kx_a k_voteNumber cyI 1944 (fun _ => 0), kx_a k_allValue cyI 12 (fun _ => 0), kx_a k_allNumber cyI 12 (fun _ => 0), kx_a k_nodeL cyI 320 (fun _ => 0), kx_a k_nodeR cyI 320 (fun _ => 0), kx_a k_part cyI 320 (fun _ => 0), kx_a k_wasMany cyI 320 (fun _ => 0), kx_a k_wasLoss cyI 320 (fun _ => 0), kx_a k_wasValue cyI 1920 (fun _ => 0), kx_a k_wasNumber cyI 1920 (fun _ => 0), kx_a k_path cyI 12 (fun _ => 0), kx_a k_heavyValue cyI 160 (fun _ => 0), kx_a k_heavyTimes cyI 160 (fun _ => 0), kx_a k_fewest cyI 161 (fun _ => 0), kx_a k_which cyI 160 (fun _ => 0), kx_a k_met cyI 160 (fun _ => 0)]) (va_A [(h0, .inr (5, [.null, .int 0, .int 0, .int 0, .null, .null, .null, .null, .null, .null, .null, .int 0, .null, .null, .int 0, .null, .int 0, .null, .null, .null, .null, .null, .int 0, .null, .null, .int 0, .null, .null, .null, .int 0]))] sz)) 21 11297 (va_A [(h0, .inr (5, [.null, .int 0, .int 0, .int 0, .null, .null, .null, .null, .null, .null, .null, .int 0, .null, .null, .int 0, .null, .int 0, .null, .null, .null, .null, .null, .int 0, .null, .null, .int 0, .null, .null, .null, .int 0]))] sz) := by
  refine Met.ofW (cc := cX5_init) (maxL := 1) (ret := none) (by decide) rfl ?_
  intro p e s m args below meth c s₁ B hml hv
  obtain ⟨rfl, hsz, hP, hK, hD0⟩ := hv
  have hx := B.exec
  have hb := B.bytes
  have hr := B.returns
  have hts := atoms_spec (ws := wsX5_init) B.pre
  have hown : s.vm.findClass RX5 = some m.cls := findClass_of_methodNamed B.named
  have hlocks := B.notSynchronized
  have hin : meth.name = "<init>" := (name_of_methodNamed B.named B.method).1
  subst hsz
  have hD := hD0.self (sz := s.heap.size)
  generalize hAe : va_A [(h0, .inr (5, [.null, .int 0, .int 0, .int 0, .null, .null, .null, .null, .null, .null, .null, .int 0, .null, .null, .int 0, .null, .int 0, .null, .null, .null, .null, .null, .int 0, .null, .null, .int 0, .null, .null, .null, .int 0]))] s.heap.size = A at hD ⊢
  have hA : ∀ q : Nat, s.heap.size ≤ q → A q := fun q h => by rw [← hAe]; exact Or.inr h
  have hS : va_S A s.heap s.heap [] := va_S.rf
  have hP : va_P (dC, dI) vwCl [(h0, .inr (5, [.null, .int 0, .int 0, .int 0, .null, .null, .null, .null, .null, .null, .null, .int 0, .null, .null, .int 0, .null, .int 0, .null, .null, .null, .null, .null, .int 0, .null, .null, .int 0, .null, .null, .null, .int 0]))] s.heap := hP
  have hl := lv_entry ([.ref h0]) (n := 1) (Nat.le_of_ble_eq_true rfl)
  rw [lg_entry_eq]
  generalize (lg_sl ([.ref h0]) ++ List.replicate (1 - (lg_sl ([.ref h0])).length) Slot.unset).toArray = ls at hl ⊢
  have hl : lv_has ls 1 [(0, .ref h0)] := hl
  have hm_1 := hts (.methodLink RX5 1 objectInit) (List.mem_of_getElem? (i := 1) rfl)
  have ho_i := hts (.instanceMethod objectInit) (List.mem_of_getElem? (i := 2) rfl)
  have ho_c := hts (.code objectInit ⟨#[0xb1]⟩ 1 none) (List.mem_of_getElem? (i := 3) rfl)
  have ha_int := hts (.arrayClass .int) (List.mem_of_getElem? (i := 4) rfl)
  have hf_7 := hts (.fieldLink RX5 7 "MajorityIndexModel" "row" "[I") (List.mem_of_getElem? (i := 5) rfl)
  have hi_5 : ∀ w ∈ u_ws RX5 TX5 30, w ∈ wsX5_init := fun w h => List.mem_cons_of_mem _ (List.mem_append_right _ h)
  have hf_13 := hts (.fieldLink RX5 13 "MajorityIndexModel" "slots" "I") (List.mem_of_getElem? (i := 6) rfl)
  have hf_17 := hts (.fieldLink RX5 17 "MajorityIndexModel" "many" "[I") (List.mem_of_getElem? (i := 7) rfl)
  have hf_20 := hts (.fieldLink RX5 20 "MajorityIndexModel" "loss" "[I") (List.mem_of_getElem? (i := 8) rfl)
  have hf_23 := hts (.fieldLink RX5 23 "MajorityIndexModel" "less" "[I") (List.mem_of_getElem? (i := 9) rfl)
  have hf_26 := hts (.fieldLink RX5 26 "MajorityIndexModel" "voteValue" "[I") (List.mem_of_getElem? (i := 10) rfl)
  have hf_29 := hts (.fieldLink RX5 29 "MajorityIndexModel" "voteNumber" "[I") (List.mem_of_getElem? (i := 11) rfl)
  have hf_32 := hts (.fieldLink RX5 32 "MajorityIndexModel" "allValue" "[I") (List.mem_of_getElem? (i := 12) rfl)
  have hf_35 := hts (.fieldLink RX5 35 "MajorityIndexModel" "allNumber" "[I") (List.mem_of_getElem? (i := 13) rfl)
  have hf_38 := hts (.fieldLink RX5 38 "MajorityIndexModel" "nodeL" "[I") (List.mem_of_getElem? (i := 14) rfl)
  have hf_41 := hts (.fieldLink RX5 41 "MajorityIndexModel" "nodeR" "[I") (List.mem_of_getElem? (i := 15) rfl)
  have hf_44 := hts (.fieldLink RX5 44 "MajorityIndexModel" "part" "[I") (List.mem_of_getElem? (i := 16) rfl)
  have hf_47 := hts (.fieldLink RX5 47 "MajorityIndexModel" "wasMany" "[I") (List.mem_of_getElem? (i := 17) rfl)
  have hf_50 := hts (.fieldLink RX5 50 "MajorityIndexModel" "wasLoss" "[I") (List.mem_of_getElem? (i := 18) rfl)
  have hf_53 := hts (.fieldLink RX5 53 "MajorityIndexModel" "wasValue" "[I") (List.mem_of_getElem? (i := 19) rfl)
  have hf_56 := hts (.fieldLink RX5 56 "MajorityIndexModel" "wasNumber" "[I") (List.mem_of_getElem? (i := 20) rfl)
  have hf_59 := hts (.fieldLink RX5 59 "MajorityIndexModel" "path" "[I") (List.mem_of_getElem? (i := 21) rfl)
  have hf_62 := hts (.fieldLink RX5 62 "MajorityIndexModel" "heavyValue" "[I") (List.mem_of_getElem? (i := 22) rfl)
  have hf_65 := hts (.fieldLink RX5 65 "MajorityIndexModel" "heavyTimes" "[I") (List.mem_of_getElem? (i := 23) rfl)
  have hf_68 := hts (.fieldLink RX5 68 "MajorityIndexModel" "fewest" "[I") (List.mem_of_getElem? (i := 24) rfl)
  have hf_71 := hts (.fieldLink RX5 71 "MajorityIndexModel" "which" "[I") (List.mem_of_getElem? (i := 25) rfl)
  have hf_74 := hts (.fieldLink RX5 74 "MajorityIndexModel" "met" "[I") (List.mem_of_getElem? (i := 26) rfl)
  refine lv_aload_n hx hb dX5_init_0 rfl (lv_at hl 0 rfl) ?_
  refine W.objInit hx hb hown hm_1 ho_i ho_c rfl (by rw [hml]; exact hl.1) rfl dX5_init_1 (Nat.le_of_ble_eq_true rfl) (Nat.le_of_ble_eq_true rfl) ?_
  refine W.eq (g2 := F0 m 4 ls []) rfl ?_
  refine lv_aload_n hx hb dX5_init_4 rfl (lv_at hl 0 rfl) ?_
  refine lv_sipush (v := 160) hx hb dX5_init_5 (by decide) ?_
  refine va_newa (atype := .int) (a0 := (160, .inl (fun _ => 0))) hx hb ha_int rfl hK hP hD hS hA (N' := 160) (fun cA => ki_zi cA 160) (by decide) (by decide) (Nat.le_of_ble_eq_true rfl) (Nat.le_of_ble_eq_true rfl) (Nat.le_of_ble_eq_true rfl) dX5_init_8 (fun q_1 cA_2 H hK hP hD hS => ?_)
  obtain rfl : cyI = cA_2 := (ki_cA hK 0 1 rfl rfl).symm
  have hK : va_K (dC, dI) vwCl [(cyI, .int)] s := hK.sub [0] rfl
  refine W.widen (k := 1) (n := 160) (Nat.le_of_ble_eq_true rfl) (Nat.le_of_ble_eq_true rfl) ?_
  obtain ⟨hP, hD⟩ := kx_re (w2 := [(h0, .inr (5, [.null, .int 0, .int 0, .int 0, .null, .null, .null, .null, .null, .null, .null, .int 0, .null, .null, .int 0, .null, .int 0, .null, .null, .null, .null, .null, .int 0, .null, .null, .int 0, .null, .null, .null, .int 0])), kx_a q_1 cyI 160 (fun _ => 0)]) hP hD rfl
  refine va_putF (D := (dC, dI)) (ci := 5) (v := .ref q_1) (ty := .array .int) (C := RX5) (T := TX5) (N := 30) hx hb hts hi_5 tyX5 tyX5_ok nmX5 hown hK hP hD hS 0 rfl rfl 0 (by decide) hf_7 (fun _ h9 => h9) rfl hin rfl (by decide +kernel) rfl rfl (Nat.le_of_ble_eq_true rfl) dX5_init_10 (fun H locs hP hD hS => ?_)
  obtain ⟨hP, hD⟩ := kx_re (w2 := [(h0, .inr (5, [.ref q_1, .int 0, .int 0, .int 0, .null, .null, .null, .null, .null, .null, .null, .int 0, .null, .null, .int 0, .null, .int 0, .null, .null, .null, .null, .null, .int 0, .null, .null, .int 0, .null, .null, .null, .int 0])), kx_a q_1 cyI 160 (fun _ => 0)]) hP hD rfl
  refine lv_aload_n hx hb dX5_init_13 rfl (lv_at hl 0 rfl) ?_
  refine lv_iconst (v := 2) hx hb dX5_init_14 (by decide) ?_
  refine va_put (D := (dC, dI)) (ci := 5) (v := .int 2) (ty := .int) (C := RX5) (T := TX5) (N := 30) hx hb hts hi_5 tyX5 tyX5_ok nmX5 hown hK hP hD hS 0 rfl rfl 2 (by decide) hf_13 (fun _ h9 => h9) rfl (by decide +kernel) rfl rfl (Nat.le_of_ble_eq_true rfl) dX5_init_15 (fun H locs hP hD hS => ?_)
  obtain ⟨hP, hD⟩ := kx_re (w2 := [(h0, .inr (5, [.ref q_1, .int 0, .int 2, .int 0, .null, .null, .null, .null, .null, .null, .null, .int 0, .null, .null, .int 0, .null, .int 0, .null, .null, .null, .null, .null, .int 0, .null, .null, .int 0, .null, .null, .null, .int 0])), kx_a q_1 cyI 160 (fun _ => 0)]) hP hD rfl
  refine lv_aload_n hx hb dX5_init_18 rfl (lv_at hl 0 rfl) ?_
  refine lv_sipush (v := 324) hx hb dX5_init_19 (by decide) ?_
  refine va_newa (atype := .int) (a0 := (324, .inl (fun _ => 0))) hx hb ha_int rfl hK hP hD hS hA (N' := 324) (fun cA => ki_zi cA 324) (by decide) (by decide) (Nat.le_of_ble_eq_true rfl) (Nat.le_of_ble_eq_true rfl) (Nat.le_of_ble_eq_true rfl) dX5_init_22 (fun q_3 cA_4 H hK hP hD hS => ?_)
  obtain rfl : cyI = cA_4 := (ki_cA hK 0 1 rfl rfl).symm
  have hK : va_K (dC, dI) vwCl [(cyI, .int)] s := hK.sub [0] rfl
  refine W.widen (k := 2) (n := 484) (Nat.le_of_ble_eq_true rfl) (Nat.le_of_ble_eq_true rfl) ?_
  obtain ⟨hP, hD⟩ := kx_re (w2 := [(h0, .inr (5, [.ref q_1, .int 0, .int 2, .int 0, .null, .null, .null, .null, .null, .null, .null, .int 0, .null, .null, .int 0, .null, .int 0, .null, .null, .null, .null, .null, .int 0, .null, .null, .int 0, .null, .null, .null, .int 0])), kx_a q_1 cyI 160 (fun _ => 0), kx_a q_3 cyI 324 (fun _ => 0)]) hP hD rfl
  refine va_putF (D := (dC, dI)) (ci := 5) (v := .ref q_3) (ty := .array .int) (C := RX5) (T := TX5) (N := 30) hx hb hts hi_5 tyX5 tyX5_ok nmX5 hown hK hP hD hS 0 rfl rfl 4 (by decide) hf_17 (fun _ h9 => h9) rfl hin rfl (by decide +kernel) rfl rfl (Nat.le_of_ble_eq_true rfl) dX5_init_24 (fun H locs hP hD hS => ?_)
  obtain ⟨hP, hD⟩ := kx_re (w2 := [(h0, .inr (5, [.ref q_1, .int 0, .int 2, .int 0, .ref q_3, .null, .null, .null, .null, .null, .null, .int 0, .null, .null, .int 0, .null, .int 0, .null, .null, .null, .null, .null, .int 0, .null, .null, .int 0, .null, .null, .null, .int 0])), kx_a q_1 cyI 160 (fun _ => 0), kx_a q_3 cyI 324 (fun _ => 0)]) hP hD rfl
  refine lv_aload_n hx hb dX5_init_27 rfl (lv_at hl 0 rfl) ?_
  refine lv_sipush (v := 324) hx hb dX5_init_28 (by decide) ?_
  refine va_newa (atype := .int) (a0 := (324, .inl (fun _ => 0))) hx hb ha_int rfl hK hP hD hS hA (N' := 324) (fun cA => ki_zi cA 324) (by decide) (by decide) (Nat.le_of_ble_eq_true rfl) (Nat.le_of_ble_eq_true rfl) (Nat.le_of_ble_eq_true rfl) dX5_init_31 (fun q_5 cA_6 H hK hP hD hS => ?_)
  obtain rfl : cyI = cA_6 := (ki_cA hK 0 1 rfl rfl).symm
  have hK : va_K (dC, dI) vwCl [(cyI, .int)] s := hK.sub [0] rfl
  refine W.widen (k := 3) (n := 808) (Nat.le_of_ble_eq_true rfl) (Nat.le_of_ble_eq_true rfl) ?_
  obtain ⟨hP, hD⟩ := kx_re (w2 := [(h0, .inr (5, [.ref q_1, .int 0, .int 2, .int 0, .ref q_3, .null, .null, .null, .null, .null, .null, .int 0, .null, .null, .int 0, .null, .int 0, .null, .null, .null, .null, .null, .int 0, .null, .null, .int 0, .null, .null, .null, .int 0])), kx_a q_1 cyI 160 (fun _ => 0), kx_a q_3 cyI 324 (fun _ => 0), kx_a q_5 cyI 324 (fun _ => 0)]) hP hD rfl
  refine va_putF (D := (dC, dI)) (ci := 5) (v := .ref q_5) (ty := .array .int) (C := RX5) (T := TX5) (N := 30) hx hb hts hi_5 tyX5 tyX5_ok nmX5 hown hK hP hD hS 0 rfl rfl 5 (by decide) hf_20 (fun _ h9 => h9) rfl hin rfl (by decide +kernel) rfl rfl (Nat.le_of_ble_eq_true rfl) dX5_init_33 (fun H locs hP hD hS => ?_)
  obtain ⟨hP, hD⟩ := kx_re (w2 := [(h0, .inr (5, [.ref q_1, .int 0, .int 2, .int 0, .ref q_3, .ref q_5, .null, .null, .null, .null, .null, .int 0, .null, .null, .int 0, .null, .int 0, .null, .null, .null, .null, .null, .int 0, .null, .null, .int 0, .null, .null, .null, .int 0])), kx_a q_1 cyI 160 (fun _ => 0), kx_a q_3 cyI 324 (fun _ => 0), kx_a q_5 cyI 324 (fun _ => 0)]) hP hD rfl
  refine lv_aload_n hx hb dX5_init_36 rfl (lv_at hl 0 rfl) ?_
  refine lv_sipush (v := 324) hx hb dX5_init_37 (by decide) ?_
  refine va_newa (atype := .int) (a0 := (324, .inl (fun _ => 0))) hx hb ha_int rfl hK hP hD hS hA (N' := 324) (fun cA => ki_zi cA 324) (by decide) (by decide) (Nat.le_of_ble_eq_true rfl) (Nat.le_of_ble_eq_true rfl) (Nat.le_of_ble_eq_true rfl) dX5_init_40 (fun q_7 cA_8 H hK hP hD hS => ?_)
  obtain rfl : cyI = cA_8 := (ki_cA hK 0 1 rfl rfl).symm
  have hK : va_K (dC, dI) vwCl [(cyI, .int)] s := hK.sub [0] rfl
  refine W.widen (k := 4) (n := 1132) (Nat.le_of_ble_eq_true rfl) (Nat.le_of_ble_eq_true rfl) ?_
  obtain ⟨hP, hD⟩ := kx_re (w2 := [(h0, .inr (5, [.ref q_1, .int 0, .int 2, .int 0, .ref q_3, .ref q_5, .null, .null, .null, .null, .null, .int 0, .null, .null, .int 0, .null, .int 0, .null, .null, .null, .null, .null, .int 0, .null, .null, .int 0, .null, .null, .null, .int 0])), kx_a q_1 cyI 160 (fun _ => 0), kx_a q_3 cyI 324 (fun _ => 0), kx_a q_5 cyI 324 (fun _ => 0), kx_a q_7 cyI 324 (fun _ => 0)]) hP hD rfl
  refine va_putF (D := (dC, dI)) (ci := 5) (v := .ref q_7) (ty := .array .int) (C := RX5) (T := TX5) (N := 30) hx hb hts hi_5 tyX5 tyX5_ok nmX5 hown hK hP hD hS 0 rfl rfl 6 (by decide) hf_23 (fun _ h9 => h9) rfl hin rfl (by decide +kernel) rfl rfl (Nat.le_of_ble_eq_true rfl) dX5_init_42 (fun H locs hP hD hS => ?_)
  obtain ⟨hP, hD⟩ := kx_re (w2 := [(h0, .inr (5, [.ref q_1, .int 0, .int 2, .int 0, .ref q_3, .ref q_5, .ref q_7, .null, .null, .null, .null, .int 0, .null, .null, .int 0, .null, .int 0, .null, .null, .null, .null, .null, .int 0, .null, .null, .int 0, .null, .null, .null, .int 0])), kx_a q_1 cyI 160 (fun _ => 0), kx_a q_3 cyI 324 (fun _ => 0), kx_a q_5 cyI 324 (fun _ => 0), kx_a q_7 cyI 324 (fun _ => 0)]) hP hD rfl
  refine lv_aload_n hx hb dX5_init_45 rfl (lv_at hl 0 rfl) ?_
  refine lv_sipush (v := 1944) hx hb dX5_init_46 (by decide) ?_
  refine va_newa (atype := .int) (a0 := (1944, .inl (fun _ => 0))) hx hb ha_int rfl hK hP hD hS hA (N' := 1944) (fun cA => ki_zi cA 1944) (by decide) (by decide) (Nat.le_of_ble_eq_true rfl) (Nat.le_of_ble_eq_true rfl) (Nat.le_of_ble_eq_true rfl) dX5_init_49 (fun q_9 cA_10 H hK hP hD hS => ?_)
  obtain rfl : cyI = cA_10 := (ki_cA hK 0 1 rfl rfl).symm
  have hK : va_K (dC, dI) vwCl [(cyI, .int)] s := hK.sub [0] rfl
  refine W.widen (k := 5) (n := 3076) (Nat.le_of_ble_eq_true rfl) (Nat.le_of_ble_eq_true rfl) ?_
  obtain ⟨hP, hD⟩ := kx_re (w2 := [(h0, .inr (5, [.ref q_1, .int 0, .int 2, .int 0, .ref q_3, .ref q_5, .ref q_7, .null, .null, .null, .null, .int 0, .null, .null, .int 0, .null, .int 0, .null, .null, .null, .null, .null, .int 0, .null, .null, .int 0, .null, .null, .null, .int 0])), kx_a q_1 cyI 160 (fun _ => 0), kx_a q_3 cyI 324 (fun _ => 0), kx_a q_5 cyI 324 (fun _ => 0), kx_a q_7 cyI 324 (fun _ => 0), kx_a q_9 cyI 1944 (fun _ => 0)]) hP hD rfl
  refine va_putF (D := (dC, dI)) (ci := 5) (v := .ref q_9) (ty := .array .int) (C := RX5) (T := TX5) (N := 30) hx hb hts hi_5 tyX5 tyX5_ok nmX5 hown hK hP hD hS 0 rfl rfl 7 (by decide) hf_26 (fun _ h9 => h9) rfl hin rfl (by decide +kernel) rfl rfl (Nat.le_of_ble_eq_true rfl) dX5_init_51 (fun H locs hP hD hS => ?_)
  obtain ⟨hP, hD⟩ := kx_re (w2 := [(h0, .inr (5, [.ref q_1, .int 0, .int 2, .int 0, .ref q_3, .ref q_5, .ref q_7, .ref q_9, .null, .null, .null, .int 0, .null, .null, .int 0, .null, .int 0, .null, .null, .null, .null, .null, .int 0, .null, .null, .int 0, .null, .null, .null, .int 0])), kx_a q_1 cyI 160 (fun _ => 0), kx_a q_3 cyI 324 (fun _ => 0), kx_a q_5 cyI 324 (fun _ => 0), kx_a q_7 cyI 324 (fun _ => 0), kx_a q_9 cyI 1944 (fun _ => 0)]) hP hD rfl
  refine lv_aload_n hx hb dX5_init_54 rfl (lv_at hl 0 rfl) ?_
  refine lv_sipush (v := 1944) hx hb dX5_init_55 (by decide) ?_
  refine va_newa (atype := .int) (a0 := (1944, .inl (fun _ => 0))) hx hb ha_int rfl hK hP hD hS hA (N' := 1944) (fun cA => ki_zi cA 1944) (by decide) (by decide) (Nat.le_of_ble_eq_true rfl) (Nat.le_of_ble_eq_true rfl) (Nat.le_of_ble_eq_true rfl) dX5_init_58 (fun q_11 cA_12 H hK hP hD hS => ?_)
  obtain rfl : cyI = cA_12 := (ki_cA hK 0 1 rfl rfl).symm
  have hK : va_K (dC, dI) vwCl [(cyI, .int)] s := hK.sub [0] rfl
  refine W.widen (k := 6) (n := 5020) (Nat.le_of_ble_eq_true rfl) (Nat.le_of_ble_eq_true rfl) ?_
  obtain ⟨hP, hD⟩ := kx_re (w2 := [(h0, .inr (5, [.ref q_1, .int 0, .int 2, .int 0, .ref q_3, .ref q_5, .ref q_7, .ref q_9, .null, .null, .null, .int 0, .null, .null, .int 0, .null, .int 0, .null, .null, .null, .null, .null, .int 0, .null, .null, .int 0, .null, .null, .null, .int 0])), kx_a q_1 cyI 160 (fun _ => 0), kx_a q_3 cyI 324 (fun _ => 0), kx_a q_5 cyI 324 (fun _ => 0), kx_a q_7 cyI 324 (fun _ => 0), kx_a q_9 cyI 1944 (fun _ => 0), kx_a q_11 cyI 1944 (fun _ => 0)]) hP hD rfl
  refine va_putF (D := (dC, dI)) (ci := 5) (v := .ref q_11) (ty := .array .int) (C := RX5) (T := TX5) (N := 30) hx hb hts hi_5 tyX5 tyX5_ok nmX5 hown hK hP hD hS 0 rfl rfl 8 (by decide) hf_29 (fun _ h9 => h9) rfl hin rfl (by decide +kernel) rfl rfl (Nat.le_of_ble_eq_true rfl) dX5_init_60 (fun H locs hP hD hS => ?_)
  obtain ⟨hP, hD⟩ := kx_re (w2 := [(h0, .inr (5, [.ref q_1, .int 0, .int 2, .int 0, .ref q_3, .ref q_5, .ref q_7, .ref q_9, .ref q_11, .null, .null, .int 0, .null, .null, .int 0, .null, .int 0, .null, .null, .null, .null, .null, .int 0, .null, .null, .int 0, .null, .null, .null, .int 0])), kx_a q_1 cyI 160 (fun _ => 0), kx_a q_3 cyI 324 (fun _ => 0), kx_a q_5 cyI 324 (fun _ => 0), kx_a q_7 cyI 324 (fun _ => 0), kx_a q_9 cyI 1944 (fun _ => 0), kx_a q_11 cyI 1944 (fun _ => 0)]) hP hD rfl
  refine lv_aload_n hx hb dX5_init_63 rfl (lv_at hl 0 rfl) ?_
  refine lv_bipush (v := 12) hx hb dX5_init_64 (by decide) ?_
  refine va_newa (atype := .int) (a0 := (12, .inl (fun _ => 0))) hx hb ha_int rfl hK hP hD hS hA (N' := 12) (fun cA => ki_zi cA 12) (by decide) (by decide) (Nat.le_of_ble_eq_true rfl) (Nat.le_of_ble_eq_true rfl) (Nat.le_of_ble_eq_true rfl) dX5_init_66 (fun q_13 cA_14 H hK hP hD hS => ?_)
  obtain rfl : cyI = cA_14 := (ki_cA hK 0 1 rfl rfl).symm
  have hK : va_K (dC, dI) vwCl [(cyI, .int)] s := hK.sub [0] rfl
  refine W.widen (k := 7) (n := 5032) (Nat.le_of_ble_eq_true rfl) (Nat.le_of_ble_eq_true rfl) ?_
  obtain ⟨hP, hD⟩ := kx_re (w2 := [(h0, .inr (5, [.ref q_1, .int 0, .int 2, .int 0, .ref q_3, .ref q_5, .ref q_7, .ref q_9, .ref q_11, .null, .null, .int 0, .null, .null, .int 0, .null, .int 0, .null, .null, .null, .null, .null, .int 0, .null, .null, .int 0, .null, .null, .null, .int 0])), kx_a q_1 cyI 160 (fun _ => 0), kx_a q_3 cyI 324 (fun _ => 0), kx_a q_5 cyI 324 (fun _ => 0), kx_a q_7 cyI 324 (fun _ => 0), kx_a q_9 cyI 1944 (fun _ => 0), kx_a q_11 cyI 1944 (fun _ => 0), kx_a q_13 cyI 12 (fun _ => 0)]) hP hD rfl
  refine va_putF (D := (dC, dI)) (ci := 5) (v := .ref q_13) (ty := .array .int) (C := RX5) (T := TX5) (N := 30) hx hb hts hi_5 tyX5 tyX5_ok nmX5 hown hK hP hD hS 0 rfl rfl 9 (by decide) hf_32 (fun _ h9 => h9) rfl hin rfl (by decide +kernel) rfl rfl (Nat.le_of_ble_eq_true rfl) dX5_init_68 (fun H locs hP hD hS => ?_)
  obtain ⟨hP, hD⟩ := kx_re (w2 := [(h0, .inr (5, [.ref q_1, .int 0, .int 2, .int 0, .ref q_3, .ref q_5, .ref q_7, .ref q_9, .ref q_11, .ref q_13, .null, .int 0, .null, .null, .int 0, .null, .int 0, .null, .null, .null, .null, .null, .int 0, .null, .null, .int 0, .null, .null, .null, .int 0])), kx_a q_1 cyI 160 (fun _ => 0), kx_a q_3 cyI 324 (fun _ => 0), kx_a q_5 cyI 324 (fun _ => 0), kx_a q_7 cyI 324 (fun _ => 0), kx_a q_9 cyI 1944 (fun _ => 0), kx_a q_11 cyI 1944 (fun _ => 0), kx_a q_13 cyI 12 (fun _ => 0)]) hP hD rfl
  refine lv_aload_n hx hb dX5_init_71 rfl (lv_at hl 0 rfl) ?_
  refine lv_bipush (v := 12) hx hb dX5_init_72 (by decide) ?_
  refine va_newa (atype := .int) (a0 := (12, .inl (fun _ => 0))) hx hb ha_int rfl hK hP hD hS hA (N' := 12) (fun cA => ki_zi cA 12) (by decide) (by decide) (Nat.le_of_ble_eq_true rfl) (Nat.le_of_ble_eq_true rfl) (Nat.le_of_ble_eq_true rfl) dX5_init_74 (fun q_15 cA_16 H hK hP hD hS => ?_)
  obtain rfl : cyI = cA_16 := (ki_cA hK 0 1 rfl rfl).symm
  have hK : va_K (dC, dI) vwCl [(cyI, .int)] s := hK.sub [0] rfl
  refine W.widen (k := 8) (n := 5044) (Nat.le_of_ble_eq_true rfl) (Nat.le_of_ble_eq_true rfl) ?_
  obtain ⟨hP, hD⟩ := kx_re (w2 := [(h0, .inr (5, [.ref q_1, .int 0, .int 2, .int 0, .ref q_3, .ref q_5, .ref q_7, .ref q_9, .ref q_11, .ref q_13, .null, .int 0, .null, .null, .int 0, .null, .int 0, .null, .null, .null, .null, .null, .int 0, .null, .null, .int 0, .null, .null, .null, .int 0])), kx_a q_1 cyI 160 (fun _ => 0), kx_a q_3 cyI 324 (fun _ => 0), kx_a q_5 cyI 324 (fun _ => 0), kx_a q_7 cyI 324 (fun _ => 0), kx_a q_9 cyI 1944 (fun _ => 0), kx_a q_11 cyI 1944 (fun _ => 0), kx_a q_13 cyI 12 (fun _ => 0), kx_a q_15 cyI 12 (fun _ => 0)]) hP hD rfl
  refine va_putF (D := (dC, dI)) (ci := 5) (v := .ref q_15) (ty := .array .int) (C := RX5) (T := TX5) (N := 30) hx hb hts hi_5 tyX5 tyX5_ok nmX5 hown hK hP hD hS 0 rfl rfl 10 (by decide) hf_35 (fun _ h9 => h9) rfl hin rfl (by decide +kernel) rfl rfl (Nat.le_of_ble_eq_true rfl) dX5_init_76 (fun H locs hP hD hS => ?_)
  obtain ⟨hP, hD⟩ := kx_re (w2 := [(h0, .inr (5, [.ref q_1, .int 0, .int 2, .int 0, .ref q_3, .ref q_5, .ref q_7, .ref q_9, .ref q_11, .ref q_13, .ref q_15, .int 0, .null, .null, .int 0, .null, .int 0, .null, .null, .null, .null, .null, .int 0, .null, .null, .int 0, .null, .null, .null, .int 0])), kx_a q_1 cyI 160 (fun _ => 0), kx_a q_3 cyI 324 (fun _ => 0), kx_a q_5 cyI 324 (fun _ => 0), kx_a q_7 cyI 324 (fun _ => 0), kx_a q_9 cyI 1944 (fun _ => 0), kx_a q_11 cyI 1944 (fun _ => 0), kx_a q_13 cyI 12 (fun _ => 0), kx_a q_15 cyI 12 (fun _ => 0)]) hP hD rfl
  refine lv_aload_n hx hb dX5_init_79 rfl (lv_at hl 0 rfl) ?_
  refine lv_sipush (v := 320) hx hb dX5_init_80 (by decide) ?_
  refine va_newa (atype := .int) (a0 := (320, .inl (fun _ => 0))) hx hb ha_int rfl hK hP hD hS hA (N' := 320) (fun cA => ki_zi cA 320) (by decide) (by decide) (Nat.le_of_ble_eq_true rfl) (Nat.le_of_ble_eq_true rfl) (Nat.le_of_ble_eq_true rfl) dX5_init_83 (fun q_17 cA_18 H hK hP hD hS => ?_)
  obtain rfl : cyI = cA_18 := (ki_cA hK 0 1 rfl rfl).symm
  have hK : va_K (dC, dI) vwCl [(cyI, .int)] s := hK.sub [0] rfl
  refine W.widen (k := 9) (n := 5364) (Nat.le_of_ble_eq_true rfl) (Nat.le_of_ble_eq_true rfl) ?_
  obtain ⟨hP, hD⟩ := kx_re (w2 := [(h0, .inr (5, [.ref q_1, .int 0, .int 2, .int 0, .ref q_3, .ref q_5, .ref q_7, .ref q_9, .ref q_11, .ref q_13, .ref q_15, .int 0, .null, .null, .int 0, .null, .int 0, .null, .null, .null, .null, .null, .int 0, .null, .null, .int 0, .null, .null, .null, .int 0])), kx_a q_1 cyI 160 (fun _ => 0), kx_a q_3 cyI 324 (fun _ => 0), kx_a q_5 cyI 324 (fun _ => 0), kx_a q_7 cyI 324 (fun _ => 0), kx_a q_9 cyI 1944 (fun _ => 0), kx_a q_11 cyI 1944 (fun _ => 0), kx_a q_13 cyI 12 (fun _ => 0), kx_a q_15 cyI 12 (fun _ => 0), kx_a q_17 cyI 320 (fun _ => 0)]) hP hD rfl
  refine va_putF (D := (dC, dI)) (ci := 5) (v := .ref q_17) (ty := .array .int) (C := RX5) (T := TX5) (N := 30) hx hb hts hi_5 tyX5 tyX5_ok nmX5 hown hK hP hD hS 0 rfl rfl 12 (by decide) hf_38 (fun _ h9 => h9) rfl hin rfl (by decide +kernel) rfl rfl (Nat.le_of_ble_eq_true rfl) dX5_init_85 (fun H locs hP hD hS => ?_)
  obtain ⟨hP, hD⟩ := kx_re (w2 := [(h0, .inr (5, [.ref q_1, .int 0, .int 2, .int 0, .ref q_3, .ref q_5, .ref q_7, .ref q_9, .ref q_11, .ref q_13, .ref q_15, .int 0, .ref q_17, .null, .int 0, .null, .int 0, .null, .null, .null, .null, .null, .int 0, .null, .null, .int 0, .null, .null, .null, .int 0])), kx_a q_1 cyI 160 (fun _ => 0), kx_a q_3 cyI 324 (fun _ => 0), kx_a q_5 cyI 324 (fun _ => 0), kx_a q_7 cyI 324 (fun _ => 0), kx_a q_9 cyI 1944 (fun _ => 0), kx_a q_11 cyI 1944 (fun _ => 0), kx_a q_13 cyI 12 (fun _ => 0), kx_a q_15 cyI 12 (fun _ => 0), kx_a q_17 cyI 320 (fun _ => 0)]) hP hD rfl
  refine lv_aload_n hx hb dX5_init_88 rfl (lv_at hl 0 rfl) ?_
  refine lv_sipush (v := 320) hx hb dX5_init_89 (by decide) ?_
  refine va_newa (atype := .int) (a0 := (320, .inl (fun _ => 0))) hx hb ha_int rfl hK hP hD hS hA (N' := 320) (fun cA => ki_zi cA 320) (by decide) (by decide) (Nat.le_of_ble_eq_true rfl) (Nat.le_of_ble_eq_true rfl) (Nat.le_of_ble_eq_true rfl) dX5_init_92 (fun q_19 cA_20 H hK hP hD hS => ?_)
  obtain rfl : cyI = cA_20 := (ki_cA hK 0 1 rfl rfl).symm
  have hK : va_K (dC, dI) vwCl [(cyI, .int)] s := hK.sub [0] rfl
  refine W.widen (k := 10) (n := 5684) (Nat.le_of_ble_eq_true rfl) (Nat.le_of_ble_eq_true rfl) ?_
  obtain ⟨hP, hD⟩ := kx_re (w2 := [(h0, .inr (5, [.ref q_1, .int 0, .int 2, .int 0, .ref q_3, .ref q_5, .ref q_7, .ref q_9, .ref q_11, .ref q_13, .ref q_15, .int 0, .ref q_17, .null, .int 0, .null, .int 0, .null, .null, .null, .null, .null, .int 0, .null, .null, .int 0, .null, .null, .null, .int 0])), kx_a q_1 cyI 160 (fun _ => 0), kx_a q_3 cyI 324 (fun _ => 0), kx_a q_5 cyI 324 (fun _ => 0), kx_a q_7 cyI 324 (fun _ => 0), kx_a q_9 cyI 1944 (fun _ => 0), kx_a q_11 cyI 1944 (fun _ => 0), kx_a q_13 cyI 12 (fun _ => 0), kx_a q_15 cyI 12 (fun _ => 0), kx_a q_17 cyI 320 (fun _ => 0), kx_a q_19 cyI 320 (fun _ => 0)]) hP hD rfl
  refine va_putF (D := (dC, dI)) (ci := 5) (v := .ref q_19) (ty := .array .int) (C := RX5) (T := TX5) (N := 30) hx hb hts hi_5 tyX5 tyX5_ok nmX5 hown hK hP hD hS 0 rfl rfl 13 (by decide) hf_41 (fun _ h9 => h9) rfl hin rfl (by decide +kernel) rfl rfl (Nat.le_of_ble_eq_true rfl) dX5_init_94 (fun H locs hP hD hS => ?_)
  obtain ⟨hP, hD⟩ := kx_re (w2 := [(h0, .inr (5, [.ref q_1, .int 0, .int 2, .int 0, .ref q_3, .ref q_5, .ref q_7, .ref q_9, .ref q_11, .ref q_13, .ref q_15, .int 0, .ref q_17, .ref q_19, .int 0, .null, .int 0, .null, .null, .null, .null, .null, .int 0, .null, .null, .int 0, .null, .null, .null, .int 0])), kx_a q_1 cyI 160 (fun _ => 0), kx_a q_3 cyI 324 (fun _ => 0), kx_a q_5 cyI 324 (fun _ => 0), kx_a q_7 cyI 324 (fun _ => 0), kx_a q_9 cyI 1944 (fun _ => 0), kx_a q_11 cyI 1944 (fun _ => 0), kx_a q_13 cyI 12 (fun _ => 0), kx_a q_15 cyI 12 (fun _ => 0), kx_a q_17 cyI 320 (fun _ => 0), kx_a q_19 cyI 320 (fun _ => 0)]) hP hD rfl
  refine lv_aload_n hx hb dX5_init_97 rfl (lv_at hl 0 rfl) ?_
  refine lv_sipush (v := 320) hx hb dX5_init_98 (by decide) ?_
  refine va_newa (atype := .int) (a0 := (320, .inl (fun _ => 0))) hx hb ha_int rfl hK hP hD hS hA (N' := 320) (fun cA => ki_zi cA 320) (by decide) (by decide) (Nat.le_of_ble_eq_true rfl) (Nat.le_of_ble_eq_true rfl) (Nat.le_of_ble_eq_true rfl) dX5_init_101 (fun q_21 cA_22 H hK hP hD hS => ?_)
  obtain rfl : cyI = cA_22 := (ki_cA hK 0 1 rfl rfl).symm
  have hK : va_K (dC, dI) vwCl [(cyI, .int)] s := hK.sub [0] rfl
  refine W.widen (k := 11) (n := 6004) (Nat.le_of_ble_eq_true rfl) (Nat.le_of_ble_eq_true rfl) ?_
  obtain ⟨hP, hD⟩ := kx_re (w2 := [(h0, .inr (5, [.ref q_1, .int 0, .int 2, .int 0, .ref q_3, .ref q_5, .ref q_7, .ref q_9, .ref q_11, .ref q_13, .ref q_15, .int 0, .ref q_17, .ref q_19, .int 0, .null, .int 0, .null, .null, .null, .null, .null, .int 0, .null, .null, .int 0, .null, .null, .null, .int 0])), kx_a q_1 cyI 160 (fun _ => 0), kx_a q_3 cyI 324 (fun _ => 0), kx_a q_5 cyI 324 (fun _ => 0), kx_a q_7 cyI 324 (fun _ => 0), kx_a q_9 cyI 1944 (fun _ => 0), kx_a q_11 cyI 1944 (fun _ => 0), kx_a q_13 cyI 12 (fun _ => 0), kx_a q_15 cyI 12 (fun _ => 0), kx_a q_17 cyI 320 (fun _ => 0), kx_a q_19 cyI 320 (fun _ => 0), kx_a q_21 cyI 320 (fun _ => 0)]) hP hD rfl
  refine va_putF (D := (dC, dI)) (ci := 5) (v := .ref q_21) (ty := .array .int) (C := RX5) (T := TX5) (N := 30) hx hb hts hi_5 tyX5 tyX5_ok nmX5 hown hK hP hD hS 0 rfl rfl 15 (by decide) hf_44 (fun _ h9 => h9) rfl hin rfl (by decide +kernel) rfl rfl (Nat.le_of_ble_eq_true rfl) dX5_init_103 (fun H locs hP hD hS => ?_)
  obtain ⟨hP, hD⟩ := kx_re (w2 := [(h0, .inr (5, [.ref q_1, .int 0, .int 2, .int 0, .ref q_3, .ref q_5, .ref q_7, .ref q_9, .ref q_11, .ref q_13, .ref q_15, .int 0, .ref q_17, .ref q_19, .int 0, .ref q_21, .int 0, .null, .null, .null, .null, .null, .int 0, .null, .null, .int 0, .null, .null, .null, .int 0])), kx_a q_1 cyI 160 (fun _ => 0), kx_a q_3 cyI 324 (fun _ => 0), kx_a q_5 cyI 324 (fun _ => 0), kx_a q_7 cyI 324 (fun _ => 0), kx_a q_9 cyI 1944 (fun _ => 0), kx_a q_11 cyI 1944 (fun _ => 0), kx_a q_13 cyI 12 (fun _ => 0), kx_a q_15 cyI 12 (fun _ => 0), kx_a q_17 cyI 320 (fun _ => 0), kx_a q_19 cyI 320 (fun _ => 0), kx_a q_21 cyI 320 (fun _ => 0)]) hP hD rfl
  refine lv_aload_n hx hb dX5_init_106 rfl (lv_at hl 0 rfl) ?_
  refine lv_sipush (v := 320) hx hb dX5_init_107 (by decide) ?_
  refine va_newa (atype := .int) (a0 := (320, .inl (fun _ => 0))) hx hb ha_int rfl hK hP hD hS hA (N' := 320) (fun cA => ki_zi cA 320) (by decide) (by decide) (Nat.le_of_ble_eq_true rfl) (Nat.le_of_ble_eq_true rfl) (Nat.le_of_ble_eq_true rfl) dX5_init_110 (fun q_23 cA_24 H hK hP hD hS => ?_)
  obtain rfl : cyI = cA_24 := (ki_cA hK 0 1 rfl rfl).symm
  have hK : va_K (dC, dI) vwCl [(cyI, .int)] s := hK.sub [0] rfl
  refine W.widen (k := 12) (n := 6324) (Nat.le_of_ble_eq_true rfl) (Nat.le_of_ble_eq_true rfl) ?_
  obtain ⟨hP, hD⟩ := kx_re (w2 := [(h0, .inr (5, [.ref q_1, .int 0, .int 2, .int 0, .ref q_3, .ref q_5, .ref q_7, .ref q_9, .ref q_11, .ref q_13, .ref q_15, .int 0, .ref q_17, .ref q_19, .int 0, .ref q_21, .int 0, .null, .null, .null, .null, .null, .int 0, .null, .null, .int 0, .null, .null, .null, .int 0])), kx_a q_1 cyI 160 (fun _ => 0), kx_a q_3 cyI 324 (fun _ => 0), kx_a q_5 cyI 324 (fun _ => 0), kx_a q_7 cyI 324 (fun _ => 0), kx_a q_9 cyI 1944 (fun _ => 0), kx_a q_11 cyI 1944 (fun _ => 0), kx_a q_13 cyI 12 (fun _ => 0), kx_a q_15 cyI 12 (fun _ => 0), kx_a q_17 cyI 320 (fun _ => 0), kx_a q_19 cyI 320 (fun _ => 0), kx_a q_21 cyI 320 (fun _ => 0), kx_a q_23 cyI 320 (fun _ => 0)]) hP hD rfl
  refine va_putF (D := (dC, dI)) (ci := 5) (v := .ref q_23) (ty := .array .int) (C := RX5) (T := TX5) (N := 30) hx hb hts hi_5 tyX5 tyX5_ok nmX5 hown hK hP hD hS 0 rfl rfl 17 (by decide) hf_47 (fun _ h9 => h9) rfl hin rfl (by decide +kernel) rfl rfl (Nat.le_of_ble_eq_true rfl) dX5_init_112 (fun H locs hP hD hS => ?_)
  obtain ⟨hP, hD⟩ := kx_re (w2 := [(h0, .inr (5, [.ref q_1, .int 0, .int 2, .int 0, .ref q_3, .ref q_5, .ref q_7, .ref q_9, .ref q_11, .ref q_13, .ref q_15, .int 0, .ref q_17, .ref q_19, .int 0, .ref q_21, .int 0, .ref q_23, .null, .null, .null, .null, .int 0, .null, .null, .int 0, .null, .null, .null, .int 0])), kx_a q_1 cyI 160 (fun _ => 0), kx_a q_3 cyI 324 (fun _ => 0), kx_a q_5 cyI 324 (fun _ => 0), kx_a q_7 cyI 324 (fun _ => 0), kx_a q_9 cyI 1944 (fun _ => 0), kx_a q_11 cyI 1944 (fun _ => 0), kx_a q_13 cyI 12 (fun _ => 0), kx_a q_15 cyI 12 (fun _ => 0), kx_a q_17 cyI 320 (fun _ => 0), kx_a q_19 cyI 320 (fun _ => 0), kx_a q_21 cyI 320 (fun _ => 0), kx_a q_23 cyI 320 (fun _ => 0)]) hP hD rfl
  refine lv_aload_n hx hb dX5_init_115 rfl (lv_at hl 0 rfl) ?_
  refine lv_sipush (v := 320) hx hb dX5_init_116 (by decide) ?_
  refine va_newa (atype := .int) (a0 := (320, .inl (fun _ => 0))) hx hb ha_int rfl hK hP hD hS hA (N' := 320) (fun cA => ki_zi cA 320) (by decide) (by decide) (Nat.le_of_ble_eq_true rfl) (Nat.le_of_ble_eq_true rfl) (Nat.le_of_ble_eq_true rfl) dX5_init_119 (fun q_25 cA_26 H hK hP hD hS => ?_)
  obtain rfl : cyI = cA_26 := (ki_cA hK 0 1 rfl rfl).symm
  have hK : va_K (dC, dI) vwCl [(cyI, .int)] s := hK.sub [0] rfl
  refine W.widen (k := 13) (n := 6644) (Nat.le_of_ble_eq_true rfl) (Nat.le_of_ble_eq_true rfl) ?_
  obtain ⟨hP, hD⟩ := kx_re (w2 := [(h0, .inr (5, [.ref q_1, .int 0, .int 2, .int 0, .ref q_3, .ref q_5, .ref q_7, .ref q_9, .ref q_11, .ref q_13, .ref q_15, .int 0, .ref q_17, .ref q_19, .int 0, .ref q_21, .int 0, .ref q_23, .null, .null, .null, .null, .int 0, .null, .null, .int 0, .null, .null, .null, .int 0])), kx_a q_1 cyI 160 (fun _ => 0), kx_a q_3 cyI 324 (fun _ => 0), kx_a q_5 cyI 324 (fun _ => 0), kx_a q_7 cyI 324 (fun _ => 0), kx_a q_9 cyI 1944 (fun _ => 0), kx_a q_11 cyI 1944 (fun _ => 0), kx_a q_13 cyI 12 (fun _ => 0), kx_a q_15 cyI 12 (fun _ => 0), kx_a q_17 cyI 320 (fun _ => 0), kx_a q_19 cyI 320 (fun _ => 0), kx_a q_21 cyI 320 (fun _ => 0), kx_a q_23 cyI 320 (fun _ => 0), kx_a q_25 cyI 320 (fun _ => 0)]) hP hD rfl
  refine va_putF (D := (dC, dI)) (ci := 5) (v := .ref q_25) (ty := .array .int) (C := RX5) (T := TX5) (N := 30) hx hb hts hi_5 tyX5 tyX5_ok nmX5 hown hK hP hD hS 0 rfl rfl 18 (by decide) hf_50 (fun _ h9 => h9) rfl hin rfl (by decide +kernel) rfl rfl (Nat.le_of_ble_eq_true rfl) dX5_init_121 (fun H locs hP hD hS => ?_)
  obtain ⟨hP, hD⟩ := kx_re (w2 := [(h0, .inr (5, [.ref q_1, .int 0, .int 2, .int 0, .ref q_3, .ref q_5, .ref q_7, .ref q_9, .ref q_11, .ref q_13, .ref q_15, .int 0, .ref q_17, .ref q_19, .int 0, .ref q_21, .int 0, .ref q_23, .ref q_25, .null, .null, .null, .int 0, .null, .null, .int 0, .null, .null, .null, .int 0])), kx_a q_1 cyI 160 (fun _ => 0), kx_a q_3 cyI 324 (fun _ => 0), kx_a q_5 cyI 324 (fun _ => 0), kx_a q_7 cyI 324 (fun _ => 0), kx_a q_9 cyI 1944 (fun _ => 0), kx_a q_11 cyI 1944 (fun _ => 0), kx_a q_13 cyI 12 (fun _ => 0), kx_a q_15 cyI 12 (fun _ => 0), kx_a q_17 cyI 320 (fun _ => 0), kx_a q_19 cyI 320 (fun _ => 0), kx_a q_21 cyI 320 (fun _ => 0), kx_a q_23 cyI 320 (fun _ => 0), kx_a q_25 cyI 320 (fun _ => 0)]) hP hD rfl
  refine lv_aload_n hx hb dX5_init_124 rfl (lv_at hl 0 rfl) ?_
  refine lv_sipush (v := 1920) hx hb dX5_init_125 (by decide) ?_
  refine va_newa (atype := .int) (a0 := (1920, .inl (fun _ => 0))) hx hb ha_int rfl hK hP hD hS hA (N' := 1920) (fun cA => ki_zi cA 1920) (by decide) (by decide) (Nat.le_of_ble_eq_true rfl) (Nat.le_of_ble_eq_true rfl) (Nat.le_of_ble_eq_true rfl) dX5_init_128 (fun q_27 cA_28 H hK hP hD hS => ?_)
  obtain rfl : cyI = cA_28 := (ki_cA hK 0 1 rfl rfl).symm
  have hK : va_K (dC, dI) vwCl [(cyI, .int)] s := hK.sub [0] rfl
  refine W.widen (k := 14) (n := 8564) (Nat.le_of_ble_eq_true rfl) (Nat.le_of_ble_eq_true rfl) ?_
  obtain ⟨hP, hD⟩ := kx_re (w2 := [(h0, .inr (5, [.ref q_1, .int 0, .int 2, .int 0, .ref q_3, .ref q_5, .ref q_7, .ref q_9, .ref q_11, .ref q_13, .ref q_15, .int 0, .ref q_17, .ref q_19, .int 0, .ref q_21, .int 0, .ref q_23, .ref q_25, .null, .null, .null, .int 0, .null, .null, .int 0, .null, .null, .null, .int 0])), kx_a q_1 cyI 160 (fun _ => 0), kx_a q_3 cyI 324 (fun _ => 0), kx_a q_5 cyI 324 (fun _ => 0), kx_a q_7 cyI 324 (fun _ => 0), kx_a q_9 cyI 1944 (fun _ => 0), kx_a q_11 cyI 1944 (fun _ => 0), kx_a q_13 cyI 12 (fun _ => 0), kx_a q_15 cyI 12 (fun _ => 0), kx_a q_17 cyI 320 (fun _ => 0), kx_a q_19 cyI 320 (fun _ => 0), kx_a q_21 cyI 320 (fun _ => 0), kx_a q_23 cyI 320 (fun _ => 0), kx_a q_25 cyI 320 (fun _ => 0), kx_a q_27 cyI 1920 (fun _ => 0)]) hP hD rfl
  refine va_putF (D := (dC, dI)) (ci := 5) (v := .ref q_27) (ty := .array .int) (C := RX5) (T := TX5) (N := 30) hx hb hts hi_5 tyX5 tyX5_ok nmX5 hown hK hP hD hS 0 rfl rfl 19 (by decide) hf_53 (fun _ h9 => h9) rfl hin rfl (by decide +kernel) rfl rfl (Nat.le_of_ble_eq_true rfl) dX5_init_130 (fun H locs hP hD hS => ?_)
  obtain ⟨hP, hD⟩ := kx_re (w2 := [(h0, .inr (5, [.ref q_1, .int 0, .int 2, .int 0, .ref q_3, .ref q_5, .ref q_7, .ref q_9, .ref q_11, .ref q_13, .ref q_15, .int 0, .ref q_17, .ref q_19, .int 0, .ref q_21, .int 0, .ref q_23, .ref q_25, .ref q_27, .null, .null, .int 0, .null, .null, .int 0, .null, .null, .null, .int 0])), kx_a q_1 cyI 160 (fun _ => 0), kx_a q_3 cyI 324 (fun _ => 0), kx_a q_5 cyI 324 (fun _ => 0), kx_a q_7 cyI 324 (fun _ => 0), kx_a q_9 cyI 1944 (fun _ => 0), kx_a q_11 cyI 1944 (fun _ => 0), kx_a q_13 cyI 12 (fun _ => 0), kx_a q_15 cyI 12 (fun _ => 0), kx_a q_17 cyI 320 (fun _ => 0), kx_a q_19 cyI 320 (fun _ => 0), kx_a q_21 cyI 320 (fun _ => 0), kx_a q_23 cyI 320 (fun _ => 0), kx_a q_25 cyI 320 (fun _ => 0), kx_a q_27 cyI 1920 (fun _ => 0)]) hP hD rfl
  refine lv_aload_n hx hb dX5_init_133 rfl (lv_at hl 0 rfl) ?_
  refine lv_sipush (v := 1920) hx hb dX5_init_134 (by decide) ?_
  refine va_newa (atype := .int) (a0 := (1920, .inl (fun _ => 0))) hx hb ha_int rfl hK hP hD hS hA (N' := 1920) (fun cA => ki_zi cA 1920) (by decide) (by decide) (Nat.le_of_ble_eq_true rfl) (Nat.le_of_ble_eq_true rfl) (Nat.le_of_ble_eq_true rfl) dX5_init_137 (fun q_29 cA_30 H hK hP hD hS => ?_)
  obtain rfl : cyI = cA_30 := (ki_cA hK 0 1 rfl rfl).symm
  have hK : va_K (dC, dI) vwCl [(cyI, .int)] s := hK.sub [0] rfl
  refine W.widen (k := 15) (n := 10484) (Nat.le_of_ble_eq_true rfl) (Nat.le_of_ble_eq_true rfl) ?_
  obtain ⟨hP, hD⟩ := kx_re (w2 := [(h0, .inr (5, [.ref q_1, .int 0, .int 2, .int 0, .ref q_3, .ref q_5, .ref q_7, .ref q_9, .ref q_11, .ref q_13, .ref q_15, .int 0, .ref q_17, .ref q_19, .int 0, .ref q_21, .int 0, .ref q_23, .ref q_25, .ref q_27, .null, .null, .int 0, .null, .null, .int 0, .null, .null, .null, .int 0])), kx_a q_1 cyI 160 (fun _ => 0), kx_a q_3 cyI 324 (fun _ => 0), kx_a q_5 cyI 324 (fun _ => 0), kx_a q_7 cyI 324 (fun _ => 0), kx_a q_9 cyI 1944 (fun _ => 0), kx_a q_11 cyI 1944 (fun _ => 0), kx_a q_13 cyI 12 (fun _ => 0), kx_a q_15 cyI 12 (fun _ => 0), kx_a q_17 cyI 320 (fun _ => 0), kx_a q_19 cyI 320 (fun _ => 0), kx_a q_21 cyI 320 (fun _ => 0), kx_a q_23 cyI 320 (fun _ => 0), kx_a q_25 cyI 320 (fun _ => 0), kx_a q_27 cyI 1920 (fun _ => 0), kx_a q_29 cyI 1920 (fun _ => 0)]) hP hD rfl
  refine va_putF (D := (dC, dI)) (ci := 5) (v := .ref q_29) (ty := .array .int) (C := RX5) (T := TX5) (N := 30) hx hb hts hi_5 tyX5 tyX5_ok nmX5 hown hK hP hD hS 0 rfl rfl 20 (by decide) hf_56 (fun _ h9 => h9) rfl hin rfl (by decide +kernel) rfl rfl (Nat.le_of_ble_eq_true rfl) dX5_init_139 (fun H locs hP hD hS => ?_)
  obtain ⟨hP, hD⟩ := kx_re (w2 := [(h0, .inr (5, [.ref q_1, .int 0, .int 2, .int 0, .ref q_3, .ref q_5, .ref q_7, .ref q_9, .ref q_11, .ref q_13, .ref q_15, .int 0, .ref q_17, .ref q_19, .int 0, .ref q_21, .int 0, .ref q_23, .ref q_25, .ref q_27, .ref q_29, .null, .int 0, .null, .null, .int 0, .null, .null, .null, .int 0])), kx_a q_1 cyI 160 (fun _ => 0), kx_a q_3 cyI 324 (fun _ => 0), kx_a q_5 cyI 324 (fun _ => 0), kx_a q_7 cyI 324 (fun _ => 0), kx_a q_9 cyI 1944 (fun _ => 0), kx_a q_11 cyI 1944 (fun _ => 0), kx_a q_13 cyI 12 (fun _ => 0), kx_a q_15 cyI 12 (fun _ => 0), kx_a q_17 cyI 320 (fun _ => 0), kx_a q_19 cyI 320 (fun _ => 0), kx_a q_21 cyI 320 (fun _ => 0), kx_a q_23 cyI 320 (fun _ => 0), kx_a q_25 cyI 320 (fun _ => 0), kx_a q_27 cyI 1920 (fun _ => 0), kx_a q_29 cyI 1920 (fun _ => 0)]) hP hD rfl
  refine lv_aload_n hx hb dX5_init_142 rfl (lv_at hl 0 rfl) ?_
  refine lv_bipush (v := 12) hx hb dX5_init_143 (by decide) ?_
  refine va_newa (atype := .int) (a0 := (12, .inl (fun _ => 0))) hx hb ha_int rfl hK hP hD hS hA (N' := 12) (fun cA => ki_zi cA 12) (by decide) (by decide) (Nat.le_of_ble_eq_true rfl) (Nat.le_of_ble_eq_true rfl) (Nat.le_of_ble_eq_true rfl) dX5_init_145 (fun q_31 cA_32 H hK hP hD hS => ?_)
  obtain rfl : cyI = cA_32 := (ki_cA hK 0 1 rfl rfl).symm
  have hK : va_K (dC, dI) vwCl [(cyI, .int)] s := hK.sub [0] rfl
  refine W.widen (k := 16) (n := 10496) (Nat.le_of_ble_eq_true rfl) (Nat.le_of_ble_eq_true rfl) ?_
  obtain ⟨hP, hD⟩ := kx_re (w2 := [(h0, .inr (5, [.ref q_1, .int 0, .int 2, .int 0, .ref q_3, .ref q_5, .ref q_7, .ref q_9, .ref q_11, .ref q_13, .ref q_15, .int 0, .ref q_17, .ref q_19, .int 0, .ref q_21, .int 0, .ref q_23, .ref q_25, .ref q_27, .ref q_29, .null, .int 0, .null, .null, .int 0, .null, .null, .null, .int 0])), kx_a q_1 cyI 160 (fun _ => 0), kx_a q_3 cyI 324 (fun _ => 0), kx_a q_5 cyI 324 (fun _ => 0), kx_a q_7 cyI 324 (fun _ => 0), kx_a q_9 cyI 1944 (fun _ => 0), kx_a q_11 cyI 1944 (fun _ => 0), kx_a q_13 cyI 12 (fun _ => 0), kx_a q_15 cyI 12 (fun _ => 0), kx_a q_17 cyI 320 (fun _ => 0), kx_a q_19 cyI 320 (fun _ => 0), kx_a q_21 cyI 320 (fun _ => 0), kx_a q_23 cyI 320 (fun _ => 0), kx_a q_25 cyI 320 (fun _ => 0), kx_a q_27 cyI 1920 (fun _ => 0), kx_a q_29 cyI 1920 (fun _ => 0), kx_a q_31 cyI 12 (fun _ => 0)]) hP hD rfl
  refine va_putF (D := (dC, dI)) (ci := 5) (v := .ref q_31) (ty := .array .int) (C := RX5) (T := TX5) (N := 30) hx hb hts hi_5 tyX5 tyX5_ok nmX5 hown hK hP hD hS 0 rfl rfl 21 (by decide) hf_59 (fun _ h9 => h9) rfl hin rfl (by decide +kernel) rfl rfl (Nat.le_of_ble_eq_true rfl) dX5_init_147 (fun H locs hP hD hS => ?_)
  obtain ⟨hP, hD⟩ := kx_re (w2 := [(h0, .inr (5, [.ref q_1, .int 0, .int 2, .int 0, .ref q_3, .ref q_5, .ref q_7, .ref q_9, .ref q_11, .ref q_13, .ref q_15, .int 0, .ref q_17, .ref q_19, .int 0, .ref q_21, .int 0, .ref q_23, .ref q_25, .ref q_27, .ref q_29, .ref q_31, .int 0, .null, .null, .int 0, .null, .null, .null, .int 0])), kx_a q_1 cyI 160 (fun _ => 0), kx_a q_3 cyI 324 (fun _ => 0), kx_a q_5 cyI 324 (fun _ => 0), kx_a q_7 cyI 324 (fun _ => 0), kx_a q_9 cyI 1944 (fun _ => 0), kx_a q_11 cyI 1944 (fun _ => 0), kx_a q_13 cyI 12 (fun _ => 0), kx_a q_15 cyI 12 (fun _ => 0), kx_a q_17 cyI 320 (fun _ => 0), kx_a q_19 cyI 320 (fun _ => 0), kx_a q_21 cyI 320 (fun _ => 0), kx_a q_23 cyI 320 (fun _ => 0), kx_a q_25 cyI 320 (fun _ => 0), kx_a q_27 cyI 1920 (fun _ => 0), kx_a q_29 cyI 1920 (fun _ => 0), kx_a q_31 cyI 12 (fun _ => 0)]) hP hD rfl
  refine lv_aload_n hx hb dX5_init_150 rfl (lv_at hl 0 rfl) ?_
  refine lv_sipush (v := 160) hx hb dX5_init_151 (by decide) ?_
  refine va_newa (atype := .int) (a0 := (160, .inl (fun _ => 0))) hx hb ha_int rfl hK hP hD hS hA (N' := 160) (fun cA => ki_zi cA 160) (by decide) (by decide) (Nat.le_of_ble_eq_true rfl) (Nat.le_of_ble_eq_true rfl) (Nat.le_of_ble_eq_true rfl) dX5_init_154 (fun q_33 cA_34 H hK hP hD hS => ?_)
  obtain rfl : cyI = cA_34 := (ki_cA hK 0 1 rfl rfl).symm
  have hK : va_K (dC, dI) vwCl [(cyI, .int)] s := hK.sub [0] rfl
  refine W.widen (k := 17) (n := 10656) (Nat.le_of_ble_eq_true rfl) (Nat.le_of_ble_eq_true rfl) ?_
  obtain ⟨hP, hD⟩ := kx_re (w2 := [(h0, .inr (5, [.ref q_1, .int 0, .int 2, .int 0, .ref q_3, .ref q_5, .ref q_7, .ref q_9, .ref q_11, .ref q_13, .ref q_15, .int 0, .ref q_17, .ref q_19, .int 0, .ref q_21, .int 0, .ref q_23, .ref q_25, .ref q_27, .ref q_29, .ref q_31, .int 0, .null, .null, .int 0, .null, .null, .null, .int 0])), kx_a q_1 cyI 160 (fun _ => 0), kx_a q_3 cyI 324 (fun _ => 0), kx_a q_5 cyI 324 (fun _ => 0), kx_a q_7 cyI 324 (fun _ => 0), kx_a q_9 cyI 1944 (fun _ => 0), kx_a q_11 cyI 1944 (fun _ => 0), kx_a q_13 cyI 12 (fun _ => 0), kx_a q_15 cyI 12 (fun _ => 0), kx_a q_17 cyI 320 (fun _ => 0), kx_a q_19 cyI 320 (fun _ => 0), kx_a q_21 cyI 320 (fun _ => 0), kx_a q_23 cyI 320 (fun _ => 0), kx_a q_25 cyI 320 (fun _ => 0), kx_a q_27 cyI 1920 (fun _ => 0), kx_a q_29 cyI 1920 (fun _ => 0), kx_a q_31 cyI 12 (fun _ => 0), kx_a q_33 cyI 160 (fun _ => 0)]) hP hD rfl
  refine va_putF (D := (dC, dI)) (ci := 5) (v := .ref q_33) (ty := .array .int) (C := RX5) (T := TX5) (N := 30) hx hb hts hi_5 tyX5 tyX5_ok nmX5 hown hK hP hD hS 0 rfl rfl 23 (by decide) hf_62 (fun _ h9 => h9) rfl hin rfl (by decide +kernel) rfl rfl (Nat.le_of_ble_eq_true rfl) dX5_init_156 (fun H locs hP hD hS => ?_)
  obtain ⟨hP, hD⟩ := kx_re (w2 := [(h0, .inr (5, [.ref q_1, .int 0, .int 2, .int 0, .ref q_3, .ref q_5, .ref q_7, .ref q_9, .ref q_11, .ref q_13, .ref q_15, .int 0, .ref q_17, .ref q_19, .int 0, .ref q_21, .int 0, .ref q_23, .ref q_25, .ref q_27, .ref q_29, .ref q_31, .int 0, .ref q_33, .null, .int 0, .null, .null, .null, .int 0])), kx_a q_1 cyI 160 (fun _ => 0), kx_a q_3 cyI 324 (fun _ => 0), kx_a q_5 cyI 324 (fun _ => 0), kx_a q_7 cyI 324 (fun _ => 0), kx_a q_9 cyI 1944 (fun _ => 0), kx_a q_11 cyI 1944 (fun _ => 0), kx_a q_13 cyI 12 (fun _ => 0), kx_a q_15 cyI 12 (fun _ => 0), kx_a q_17 cyI 320 (fun _ => 0), kx_a q_19 cyI 320 (fun _ => 0), kx_a q_21 cyI 320 (fun _ => 0), kx_a q_23 cyI 320 (fun _ => 0), kx_a q_25 cyI 320 (fun _ => 0), kx_a q_27 cyI 1920 (fun _ => 0), kx_a q_29 cyI 1920 (fun _ => 0), kx_a q_31 cyI 12 (fun _ => 0), kx_a q_33 cyI 160 (fun _ => 0)]) hP hD rfl
  refine lv_aload_n hx hb dX5_init_159 rfl (lv_at hl 0 rfl) ?_
  refine lv_sipush (v := 160) hx hb dX5_init_160 (by decide) ?_
  refine va_newa (atype := .int) (a0 := (160, .inl (fun _ => 0))) hx hb ha_int rfl hK hP hD hS hA (N' := 160) (fun cA => ki_zi cA 160) (by decide) (by decide) (Nat.le_of_ble_eq_true rfl) (Nat.le_of_ble_eq_true rfl) (Nat.le_of_ble_eq_true rfl) dX5_init_163 (fun q_35 cA_36 H hK hP hD hS => ?_)
  obtain rfl : cyI = cA_36 := (ki_cA hK 0 1 rfl rfl).symm
  have hK : va_K (dC, dI) vwCl [(cyI, .int)] s := hK.sub [0] rfl
  refine W.widen (k := 18) (n := 10816) (Nat.le_of_ble_eq_true rfl) (Nat.le_of_ble_eq_true rfl) ?_
  obtain ⟨hP, hD⟩ := kx_re (w2 := [(h0, .inr (5, [.ref q_1, .int 0, .int 2, .int 0, .ref q_3, .ref q_5, .ref q_7, .ref q_9, .ref q_11, .ref q_13, .ref q_15, .int 0, .ref q_17, .ref q_19, .int 0, .ref q_21, .int 0, .ref q_23, .ref q_25, .ref q_27, .ref q_29, .ref q_31, .int 0, .ref q_33, .null, .int 0, .null, .null, .null, .int 0])), kx_a q_1 cyI 160 (fun _ => 0), kx_a q_3 cyI 324 (fun _ => 0), kx_a q_5 cyI 324 (fun _ => 0), kx_a q_7 cyI 324 (fun _ => 0), kx_a q_9 cyI 1944 (fun _ => 0), kx_a q_11 cyI 1944 (fun _ => 0), kx_a q_13 cyI 12 (fun _ => 0), kx_a q_15 cyI 12 (fun _ => 0), kx_a q_17 cyI 320 (fun _ => 0), kx_a q_19 cyI 320 (fun _ => 0), kx_a q_21 cyI 320 (fun _ => 0), kx_a q_23 cyI 320 (fun _ => 0), kx_a q_25 cyI 320 (fun _ => 0), kx_a q_27 cyI 1920 (fun _ => 0), kx_a q_29 cyI 1920 (fun _ => 0), kx_a q_31 cyI 12 (fun _ => 0), kx_a q_33 cyI 160 (fun _ => 0), kx_a q_35 cyI 160 (fun _ => 0)]) hP hD rfl
  refine va_putF (D := (dC, dI)) (ci := 5) (v := .ref q_35) (ty := .array .int) (C := RX5) (T := TX5) (N := 30) hx hb hts hi_5 tyX5 tyX5_ok nmX5 hown hK hP hD hS 0 rfl rfl 24 (by decide) hf_65 (fun _ h9 => h9) rfl hin rfl (by decide +kernel) rfl rfl (Nat.le_of_ble_eq_true rfl) dX5_init_165 (fun H locs hP hD hS => ?_)
  obtain ⟨hP, hD⟩ := kx_re (w2 := [(h0, .inr (5, [.ref q_1, .int 0, .int 2, .int 0, .ref q_3, .ref q_5, .ref q_7, .ref q_9, .ref q_11, .ref q_13, .ref q_15, .int 0, .ref q_17, .ref q_19, .int 0, .ref q_21, .int 0, .ref q_23, .ref q_25, .ref q_27, .ref q_29, .ref q_31, .int 0, .ref q_33, .ref q_35, .int 0, .null, .null, .null, .int 0])), kx_a q_1 cyI 160 (fun _ => 0), kx_a q_3 cyI 324 (fun _ => 0), kx_a q_5 cyI 324 (fun _ => 0), kx_a q_7 cyI 324 (fun _ => 0), kx_a q_9 cyI 1944 (fun _ => 0), kx_a q_11 cyI 1944 (fun _ => 0), kx_a q_13 cyI 12 (fun _ => 0), kx_a q_15 cyI 12 (fun _ => 0), kx_a q_17 cyI 320 (fun _ => 0), kx_a q_19 cyI 320 (fun _ => 0), kx_a q_21 cyI 320 (fun _ => 0), kx_a q_23 cyI 320 (fun _ => 0), kx_a q_25 cyI 320 (fun _ => 0), kx_a q_27 cyI 1920 (fun _ => 0), kx_a q_29 cyI 1920 (fun _ => 0), kx_a q_31 cyI 12 (fun _ => 0), kx_a q_33 cyI 160 (fun _ => 0), kx_a q_35 cyI 160 (fun _ => 0)]) hP hD rfl
  refine lv_aload_n hx hb dX5_init_168 rfl (lv_at hl 0 rfl) ?_
  refine lv_sipush (v := 161) hx hb dX5_init_169 (by decide) ?_
  refine va_newa (atype := .int) (a0 := (161, .inl (fun _ => 0))) hx hb ha_int rfl hK hP hD hS hA (N' := 161) (fun cA => ki_zi cA 161) (by decide) (by decide) (Nat.le_of_ble_eq_true rfl) (Nat.le_of_ble_eq_true rfl) (Nat.le_of_ble_eq_true rfl) dX5_init_172 (fun q_37 cA_38 H hK hP hD hS => ?_)
  obtain rfl : cyI = cA_38 := (ki_cA hK 0 1 rfl rfl).symm
  have hK : va_K (dC, dI) vwCl [(cyI, .int)] s := hK.sub [0] rfl
  refine W.widen (k := 19) (n := 10977) (Nat.le_of_ble_eq_true rfl) (Nat.le_of_ble_eq_true rfl) ?_
  obtain ⟨hP, hD⟩ := kx_re (w2 := [(h0, .inr (5, [.ref q_1, .int 0, .int 2, .int 0, .ref q_3, .ref q_5, .ref q_7, .ref q_9, .ref q_11, .ref q_13, .ref q_15, .int 0, .ref q_17, .ref q_19, .int 0, .ref q_21, .int 0, .ref q_23, .ref q_25, .ref q_27, .ref q_29, .ref q_31, .int 0, .ref q_33, .ref q_35, .int 0, .null, .null, .null, .int 0])), kx_a q_1 cyI 160 (fun _ => 0), kx_a q_3 cyI 324 (fun _ => 0), kx_a q_5 cyI 324 (fun _ => 0), kx_a q_7 cyI 324 (fun _ => 0), kx_a q_9 cyI 1944 (fun _ => 0), kx_a q_11 cyI 1944 (fun _ => 0), kx_a q_13 cyI 12 (fun _ => 0), kx_a q_15 cyI 12 (fun _ => 0), kx_a q_17 cyI 320 (fun _ => 0), kx_a q_19 cyI 320 (fun _ => 0), kx_a q_21 cyI 320 (fun _ => 0), kx_a q_23 cyI 320 (fun _ => 0), kx_a q_25 cyI 320 (fun _ => 0), kx_a q_27 cyI 1920 (fun _ => 0), kx_a q_29 cyI 1920 (fun _ => 0), kx_a q_31 cyI 12 (fun _ => 0), kx_a q_33 cyI 160 (fun _ => 0), kx_a q_35 cyI 160 (fun _ => 0), kx_a q_37 cyI 161 (fun _ => 0)]) hP hD rfl
  refine va_putF (D := (dC, dI)) (ci := 5) (v := .ref q_37) (ty := .array .int) (C := RX5) (T := TX5) (N := 30) hx hb hts hi_5 tyX5 tyX5_ok nmX5 hown hK hP hD hS 0 rfl rfl 26 (by decide) hf_68 (fun _ h9 => h9) rfl hin rfl (by decide +kernel) rfl rfl (Nat.le_of_ble_eq_true rfl) dX5_init_174 (fun H locs hP hD hS => ?_)
  obtain ⟨hP, hD⟩ := kx_re (w2 := [(h0, .inr (5, [.ref q_1, .int 0, .int 2, .int 0, .ref q_3, .ref q_5, .ref q_7, .ref q_9, .ref q_11, .ref q_13, .ref q_15, .int 0, .ref q_17, .ref q_19, .int 0, .ref q_21, .int 0, .ref q_23, .ref q_25, .ref q_27, .ref q_29, .ref q_31, .int 0, .ref q_33, .ref q_35, .int 0, .ref q_37, .null, .null, .int 0])), kx_a q_1 cyI 160 (fun _ => 0), kx_a q_3 cyI 324 (fun _ => 0), kx_a q_5 cyI 324 (fun _ => 0), kx_a q_7 cyI 324 (fun _ => 0), kx_a q_9 cyI 1944 (fun _ => 0), kx_a q_11 cyI 1944 (fun _ => 0), kx_a q_13 cyI 12 (fun _ => 0), kx_a q_15 cyI 12 (fun _ => 0), kx_a q_17 cyI 320 (fun _ => 0), kx_a q_19 cyI 320 (fun _ => 0), kx_a q_21 cyI 320 (fun _ => 0), kx_a q_23 cyI 320 (fun _ => 0), kx_a q_25 cyI 320 (fun _ => 0), kx_a q_27 cyI 1920 (fun _ => 0), kx_a q_29 cyI 1920 (fun _ => 0), kx_a q_31 cyI 12 (fun _ => 0), kx_a q_33 cyI 160 (fun _ => 0), kx_a q_35 cyI 160 (fun _ => 0), kx_a q_37 cyI 161 (fun _ => 0)]) hP hD rfl
  refine lv_aload_n hx hb dX5_init_177 rfl (lv_at hl 0 rfl) ?_
  refine lv_sipush (v := 160) hx hb dX5_init_178 (by decide) ?_
  refine va_newa (atype := .int) (a0 := (160, .inl (fun _ => 0))) hx hb ha_int rfl hK hP hD hS hA (N' := 160) (fun cA => ki_zi cA 160) (by decide) (by decide) (Nat.le_of_ble_eq_true rfl) (Nat.le_of_ble_eq_true rfl) (Nat.le_of_ble_eq_true rfl) dX5_init_181 (fun q_39 cA_40 H hK hP hD hS => ?_)
  obtain rfl : cyI = cA_40 := (ki_cA hK 0 1 rfl rfl).symm
  have hK : va_K (dC, dI) vwCl [(cyI, .int)] s := hK.sub [0] rfl
  refine W.widen (k := 20) (n := 11137) (Nat.le_of_ble_eq_true rfl) (Nat.le_of_ble_eq_true rfl) ?_
  obtain ⟨hP, hD⟩ := kx_re (w2 := [(h0, .inr (5, [.ref q_1, .int 0, .int 2, .int 0, .ref q_3, .ref q_5, .ref q_7, .ref q_9, .ref q_11, .ref q_13, .ref q_15, .int 0, .ref q_17, .ref q_19, .int 0, .ref q_21, .int 0, .ref q_23, .ref q_25, .ref q_27, .ref q_29, .ref q_31, .int 0, .ref q_33, .ref q_35, .int 0, .ref q_37, .null, .null, .int 0])), kx_a q_1 cyI 160 (fun _ => 0), kx_a q_3 cyI 324 (fun _ => 0), kx_a q_5 cyI 324 (fun _ => 0), kx_a q_7 cyI 324 (fun _ => 0), kx_a q_9 cyI 1944 (fun _ => 0), kx_a q_11 cyI 1944 (fun _ => 0), kx_a q_13 cyI 12 (fun _ => 0), kx_a q_15 cyI 12 (fun _ => 0), kx_a q_17 cyI 320 (fun _ => 0), kx_a q_19 cyI 320 (fun _ => 0), kx_a q_21 cyI 320 (fun _ => 0), kx_a q_23 cyI 320 (fun _ => 0), kx_a q_25 cyI 320 (fun _ => 0), kx_a q_27 cyI 1920 (fun _ => 0), kx_a q_29 cyI 1920 (fun _ => 0), kx_a q_31 cyI 12 (fun _ => 0), kx_a q_33 cyI 160 (fun _ => 0), kx_a q_35 cyI 160 (fun _ => 0), kx_a q_37 cyI 161 (fun _ => 0), kx_a q_39 cyI 160 (fun _ => 0)]) hP hD rfl
  refine va_putF (D := (dC, dI)) (ci := 5) (v := .ref q_39) (ty := .array .int) (C := RX5) (T := TX5) (N := 30) hx hb hts hi_5 tyX5 tyX5_ok nmX5 hown hK hP hD hS 0 rfl rfl 27 (by decide) hf_71 (fun _ h9 => h9) rfl hin rfl (by decide +kernel) rfl rfl (Nat.le_of_ble_eq_true rfl) dX5_init_183 (fun H locs hP hD hS => ?_)
  obtain ⟨hP, hD⟩ := kx_re (w2 := [(h0, .inr (5, [.ref q_1, .int 0, .int 2, .int 0, .ref q_3, .ref q_5, .ref q_7, .ref q_9, .ref q_11, .ref q_13, .ref q_15, .int 0, .ref q_17, .ref q_19, .int 0, .ref q_21, .int 0, .ref q_23, .ref q_25, .ref q_27, .ref q_29, .ref q_31, .int 0, .ref q_33, .ref q_35, .int 0, .ref q_37, .ref q_39, .null, .int 0])), kx_a q_1 cyI 160 (fun _ => 0), kx_a q_3 cyI 324 (fun _ => 0), kx_a q_5 cyI 324 (fun _ => 0), kx_a q_7 cyI 324 (fun _ => 0), kx_a q_9 cyI 1944 (fun _ => 0), kx_a q_11 cyI 1944 (fun _ => 0), kx_a q_13 cyI 12 (fun _ => 0), kx_a q_15 cyI 12 (fun _ => 0), kx_a q_17 cyI 320 (fun _ => 0), kx_a q_19 cyI 320 (fun _ => 0), kx_a q_21 cyI 320 (fun _ => 0), kx_a q_23 cyI 320 (fun _ => 0), kx_a q_25 cyI 320 (fun _ => 0), kx_a q_27 cyI 1920 (fun _ => 0), kx_a q_29 cyI 1920 (fun _ => 0), kx_a q_31 cyI 12 (fun _ => 0), kx_a q_33 cyI 160 (fun _ => 0), kx_a q_35 cyI 160 (fun _ => 0), kx_a q_37 cyI 161 (fun _ => 0), kx_a q_39 cyI 160 (fun _ => 0)]) hP hD rfl
  refine lv_aload_n hx hb dX5_init_186 rfl (lv_at hl 0 rfl) ?_
  refine lv_sipush (v := 160) hx hb dX5_init_187 (by decide) ?_
  refine va_newa (atype := .int) (a0 := (160, .inl (fun _ => 0))) hx hb ha_int rfl hK hP hD hS hA (N' := 160) (fun cA => ki_zi cA 160) (by decide) (by decide) (Nat.le_of_ble_eq_true rfl) (Nat.le_of_ble_eq_true rfl) (Nat.le_of_ble_eq_true rfl) dX5_init_190 (fun q_41 cA_42 H hK hP hD hS => ?_)
  obtain rfl : cyI = cA_42 := (ki_cA hK 0 1 rfl rfl).symm
  have hK : va_K (dC, dI) vwCl [(cyI, .int)] s := hK.sub [0] rfl
  refine W.widen (k := 21) (n := 11297) (Nat.le_of_ble_eq_true rfl) (Nat.le_of_ble_eq_true rfl) ?_
  obtain ⟨hP, hD⟩ := kx_re (w2 := [(h0, .inr (5, [.ref q_1, .int 0, .int 2, .int 0, .ref q_3, .ref q_5, .ref q_7, .ref q_9, .ref q_11, .ref q_13, .ref q_15, .int 0, .ref q_17, .ref q_19, .int 0, .ref q_21, .int 0, .ref q_23, .ref q_25, .ref q_27, .ref q_29, .ref q_31, .int 0, .ref q_33, .ref q_35, .int 0, .ref q_37, .ref q_39, .null, .int 0])), kx_a q_1 cyI 160 (fun _ => 0), kx_a q_3 cyI 324 (fun _ => 0), kx_a q_5 cyI 324 (fun _ => 0), kx_a q_7 cyI 324 (fun _ => 0), kx_a q_9 cyI 1944 (fun _ => 0), kx_a q_11 cyI 1944 (fun _ => 0), kx_a q_13 cyI 12 (fun _ => 0), kx_a q_15 cyI 12 (fun _ => 0), kx_a q_17 cyI 320 (fun _ => 0), kx_a q_19 cyI 320 (fun _ => 0), kx_a q_21 cyI 320 (fun _ => 0), kx_a q_23 cyI 320 (fun _ => 0), kx_a q_25 cyI 320 (fun _ => 0), kx_a q_27 cyI 1920 (fun _ => 0), kx_a q_29 cyI 1920 (fun _ => 0), kx_a q_31 cyI 12 (fun _ => 0), kx_a q_33 cyI 160 (fun _ => 0), kx_a q_35 cyI 160 (fun _ => 0), kx_a q_37 cyI 161 (fun _ => 0), kx_a q_39 cyI 160 (fun _ => 0), kx_a q_41 cyI 160 (fun _ => 0)]) hP hD rfl
  refine va_putF (D := (dC, dI)) (ci := 5) (v := .ref q_41) (ty := .array .int) (C := RX5) (T := TX5) (N := 30) hx hb hts hi_5 tyX5 tyX5_ok nmX5 hown hK hP hD hS 0 rfl rfl 28 (by decide) hf_74 (fun _ h9 => h9) rfl hin rfl (by decide +kernel) rfl rfl (Nat.le_of_ble_eq_true rfl) dX5_init_192 (fun H locs hP hD hS => ?_)
  obtain ⟨hP, hD⟩ := kx_re (w2 := [kx_5 h0 q_1 0 2 0 q_3 q_5 q_7 q_9 q_11 q_13 q_15 0 q_17 q_19 0 q_21 0 q_23 q_25 q_27 q_29 q_31 0 q_33 q_35 0 q_37 q_39 q_41 0, kx_a q_1 cyI 160 (fun _ => 0), kx_a q_3 cyI 324 (fun _ => 0), kx_a q_5 cyI 324 (fun _ => 0), kx_a q_7 cyI 324 (fun _ => 0), kx_a q_9 cyI 1944 (fun _ => 0), kx_a q_11 cyI 1944 (fun _ => 0), kx_a q_13 cyI 12 (fun _ => 0), kx_a q_15 cyI 12 (fun _ => 0), kx_a q_17 cyI 320 (fun _ => 0), kx_a q_19 cyI 320 (fun _ => 0), kx_a q_21 cyI 320 (fun _ => 0), kx_a q_23 cyI 320 (fun _ => 0), kx_a q_25 cyI 320 (fun _ => 0), kx_a q_27 cyI 1920 (fun _ => 0), kx_a q_29 cyI 1920 (fun _ => 0), kx_a q_31 cyI 12 (fun _ => 0), kx_a q_33 cyI 160 (fun _ => 0), kx_a q_35 cyI 160 (fun _ => 0), kx_a q_37 cyI 161 (fun _ => 0), kx_a q_39 cyI 160 (fun _ => 0), kx_a q_41 cyI 160 (fun _ => 0)]) hP hD rfl
  have hP9 := hP
  have hD9 := hD
  have hK9 := hK
  exact W.vret hx hb hr (hlocks := hlocks) (fun t ht hW => ⟨⟨(), rfl, trivial, q_1, q_3, q_5, q_7, q_9, q_11, q_13, q_15, q_17, q_19, q_21, q_23, q_25, q_27, q_29, q_31, q_33, q_35, q_37, q_39, q_41, by rw [ht]; exact hP9, va_K.moved hW.alike hK9, hD9⟩, hS.F ht⟩) hS.2.2 dX5_init_195



abbrev cX4_at : ByteArray := prog_1_method_11_code
def yX4_at : MethodName := ⟨RX4, "at", "(I)I"⟩
abbrev cX4_vote : ByteArray := prog_1_method_16_code
def yX4_vote : MethodName := ⟨RX4, "vote", "(IIII)I"⟩
abbrev cX4_candidate : ByteArray := prog_1_method_24_code
def yX4_candidate : MethodName := ⟨RX4, "candidate", "(IIII)I"⟩
abbrev cX4_heavyAt : ByteArray := prog_1_method_28_code
def yX4_heavyAt : MethodName := ⟨RX4, "heavyAt", "(IIIIII)I"⟩
def wsX4_at : List Cond := .code yX4_at cX4_at 2 (some .int) :: ([.classLink RX4 107 "java/util/NoSuchElementException", .initialized "java/util/NoSuchElementException", .fieldLink RX4 12 "MajorityIndex" "row" "LMajorityIndex$Row;", .fieldLink RX4 110 "MajorityIndex$Row" "cell" "[I", .methodLink RX4 64 yX0_hasPlace, .instanceMethod yX0_hasPlace, .selects RX0 yX0_hasPlace yX0_hasPlace, .initialized RX0, .code yX0_hasPlace cX0_hasPlace 2 (some .boolean), .fieldLink RX0 15 "MajorityIndex$Row" "length" "I"] ++ wsX40 ++ wsX00 ++ (vx_at0 RX4 109 "java/util/NoSuchElementException" ["java/lang/RuntimeException", "java/lang/Exception"]).filter goodWord)
def wsX4_vote_r1 : List Cond := [Cond.classLink RX4 107 "java/util/NoSuchElementException", Cond.initialized "java/util/NoSuchElementException", Cond.fieldLink RX4 12 "MajorityIndex" "row" "LMajorityIndex$Row;", Cond.fieldLink RX4 126 "MajorityIndex$Tree" "size" "[I", Cond.fieldLink RX4 35 "MajorityIndex" "votes" "LMajorityIndex$Votes;", Cond.fieldLink RX4 133 "MajorityIndex$Votes" "value" "[I", Cond.fieldLink RX4 136 "MajorityIndex$Votes" "number" "[I", Cond.methodLink RX4 79 yX0_hasRange, Cond.instanceMethod yX0_hasRange, Cond.selects RX0 yX0_hasRange yX0_hasRange, Cond.initialized RX0, Cond.code yX0_hasRange cX0_hasRange 3 (some .boolean), Cond.fieldLink RX0 15 "MajorityIndex$Row" "length" "I", Cond.methodLink RX4 71 yX4_laidTree, Cond.instanceMethod yX4_laidTree, Cond.selects RX4 yX4_laidTree yX4_laidTree, Cond.initialized RX4, Cond.code yX4_laidTree cX4_laidTree 1 (some (.object "MajorityIndex$Tree")), Cond.fieldLink RX4 53 "MajorityIndex" "treeIsOld" "Z", Cond.fieldLink RX4 21 "MajorityIndex" "tree" "LMajorityIndex$Tree;", Cond.fieldLink RX4 49 "MajorityIndex" "slotsNow" "I", Cond.fieldLink RX4 204 "MajorityIndex$Tree" "slotsHere" "I", Cond.fieldLink RX4 57 "MajorityIndex$Row" "length" "I", Cond.methodLink RX4 259 yX2_layRanges]
def wsX4_vote_r2 : List Cond := [Cond.instanceMethod yX2_layRanges, Cond.selects RX2 yX2_layRanges yX2_layRanges, Cond.initialized RX2, Cond.code yX2_layRanges cX2_layRanges 2 none, Cond.fieldLink RX2 40 "MajorityIndex$Tree" "row" "LMajorityIndex$Row;", Cond.fieldLink RX2 44 "MajorityIndex$Row" "length" "I", Cond.fieldLink RX2 50 "MajorityIndex$Tree" "nodes" "I", Cond.fieldLink RX2 18 "MajorityIndex$Tree" "from" "[I", Cond.fieldLink RX2 22 "MajorityIndex$Tree" "to" "[I", Cond.methodLink RX2 53 yX2_layBelow, Cond.instanceMethod yX2_layBelow, Cond.selects RX2 yX2_layBelow yX2_layBelow, Cond.code yX2_layBelow cX2_layBelow 4 none, Cond.methodLink RX2 57 yX2_rightBelow, Cond.instanceMethod yX2_rightBelow, Cond.selects RX2 yX2_rightBelow yX2_rightBelow, Cond.code yX2_rightBelow cX2_rightBelow 3 (some .int), Cond.methodLink RX4 87 yX2_renew, Cond.instanceMethod yX2_renew, Cond.selects RX2 yX2_renew yX2_renew, Cond.code yX2_renew cX2_renew 5 (some .int), Cond.methodLink RX2 61 yX2_putTogether, Cond.instanceMethod yX2_putTogether, Cond.selects RX2 yX2_putTogether yX2_putTogether]
def wsX4_vote_r3 : List Cond := [Cond.code yX2_putTogether cX2_putTogether 2 none, Cond.fieldLink RX2 12 "MajorityIndex$Tree" "joined" "LMajorityIndex$Votes;", Cond.fieldLink RX2 74 "MajorityIndex$Row" "cell" "[I", Cond.fieldLink RX2 85 "MajorityIndex$Tree" "slotsHere" "I", Cond.methodLink RX2 71 yX3_clear, Cond.instanceMethod yX3_clear, Cond.selects RX3 yX3_clear yX3_clear, Cond.initialized RX3, Cond.code yX3_clear cX3_clear 1 none, Cond.fieldLink RX3 18 "MajorityIndex$Votes" "size" "I", Cond.fieldLink RX3 22 "MajorityIndex$Votes" "lost" "I", Cond.fieldLink RX3 25 "MajorityIndex$Votes" "lessBy" "I", Cond.methodLink RX2 77 yX3_add, Cond.instanceMethod yX3_add, Cond.selects RX3 yX3_add yX3_add, Cond.code yX3_add cX3_add 4 none, Cond.fieldLink RX3 9 "MajorityIndex$Votes" "value" "[I", Cond.fieldLink RX3 15 "MajorityIndex$Votes" "number" "[I", Cond.methodLink RX2 81 yX2_joinNode, Cond.instanceMethod yX2_joinNode, Cond.selects RX2 yX2_joinNode yX2_joinNode, Cond.code yX2_joinNode cX2_joinNode 5 none, Cond.fieldLink RX2 25 "MajorityIndex$Tree" "size" "[I", Cond.fieldLink RX2 34 "MajorityIndex$Tree" "value" "[I"]
def wsX4_vote_r4 : List Cond := [Cond.fieldLink RX2 37 "MajorityIndex$Tree" "number" "[I", Cond.fieldLink RX2 91 "MajorityIndex$Votes" "lost" "I", Cond.fieldLink RX2 28 "MajorityIndex$Tree" "lossOf" "[I", Cond.methodLink RX2 88 yX3_cancel, Cond.instanceMethod yX3_cancel, Cond.selects RX3 yX3_cancel yX3_cancel, Cond.code yX3_cancel cX3_cancel 4 none, Cond.methodLink RX3 32 yX3_order, Cond.instanceMethod yX3_order, Cond.selects RX3 yX3_order yX3_order, Cond.code yX3_order cX3_order 3 none, Cond.methodLink RX3 35 yX3_isAhead, Cond.instanceMethod yX3_isAhead, Cond.selects RX3 yX3_isAhead yX3_isAhead, Cond.code yX3_isAhead cX3_isAhead 3 (some .boolean), Cond.methodLink RX3 39 yX3_exchange, Cond.instanceMethod yX3_exchange, Cond.selects RX3 yX3_exchange yX3_exchange, Cond.code yX3_exchange cX3_exchange 5 none, Cond.methodLink RX2 64 yX2_isJoined, Cond.instanceMethod yX2_isJoined, Cond.selects RX2 yX2_isJoined yX2_isJoined, Cond.code yX2_isJoined cX2_isJoined 4 (some .boolean), Cond.fieldLink RX2 94 "MajorityIndex$Votes" "size" "I"]
def wsX4_vote_r5 : List Cond := [Cond.fieldLink RX2 96 "MajorityIndex$Votes" "value" "[I", Cond.fieldLink RX2 97 "MajorityIndex$Votes" "number" "[I", Cond.methodLink RX2 68 yX2_keepJoined, Cond.instanceMethod yX2_keepJoined, Cond.selects RX2 yX2_keepJoined yX2_keepJoined, Cond.code yX2_keepJoined cX2_keepJoined 4 none, Cond.methodLink RX2 98 Lib.Math.min.name, Cond.static Lib.Math.min.name, Cond.initialized "java/lang/Math", Cond.code Lib.Math.min.name Lib.Math.min.code 2 (some .int), Cond.fieldLink RX2 31 "MajorityIndex$Tree" "lessBy" "[I", Cond.fieldLink RX2 104 "MajorityIndex$Votes" "lessBy" "I", Cond.methodLink RX4 123 yX2_find, Cond.instanceMethod yX2_find, Cond.selects RX2 yX2_find yX2_find, Cond.code yX2_find cX2_find 4 (some .int), Cond.methodLink RX4 129 yX2_copyTo, Cond.instanceMethod yX2_copyTo, Cond.selects RX2 yX2_copyTo yX2_copyTo, Cond.code yX2_copyTo cX2_copyTo 3 none]
def wsX4_vote : List Cond := .code yX4_vote cX4_vote 7 (some .int) :: ((wsX4_vote_r1 ++ (wsX4_vote_r2 ++ (wsX4_vote_r3 ++ (wsX4_vote_r4 ++ wsX4_vote_r5)))) ++ wsX40 ++ wsX20 ++ wsX30 ++ wsX00 ++ (vx_at0 RX4 109 "java/util/NoSuchElementException" ["java/lang/RuntimeException", "java/lang/Exception"]).filter goodWord)
def wsX4_candidate_r1 : List Cond := [Cond.classLink RX4 107 "java/util/NoSuchElementException", Cond.initialized "java/util/NoSuchElementException", Cond.fieldLink RX4 12 "MajorityIndex" "row" "LMajorityIndex$Row;", Cond.fieldLink RX4 35 "MajorityIndex" "votes" "LMajorityIndex$Votes;", Cond.fieldLink RX4 174 "MajorityIndex$Votes" "size" "I", Cond.fieldLink RX4 133 "MajorityIndex$Votes" "value" "[I", Cond.fieldLink RX4 136 "MajorityIndex$Votes" "number" "[I", Cond.methodLink RX4 79 yX0_hasRange, Cond.instanceMethod yX0_hasRange, Cond.selects RX0 yX0_hasRange yX0_hasRange, Cond.initialized RX0, Cond.code yX0_hasRange cX0_hasRange 3 (some .boolean), Cond.fieldLink RX0 15 "MajorityIndex$Row" "length" "I", Cond.methodLink RX4 71 yX4_laidTree, Cond.instanceMethod yX4_laidTree, Cond.selects RX4 yX4_laidTree yX4_laidTree, Cond.initialized RX4, Cond.code yX4_laidTree cX4_laidTree 1 (some (.object "MajorityIndex$Tree")), Cond.fieldLink RX4 53 "MajorityIndex" "treeIsOld" "Z", Cond.fieldLink RX4 21 "MajorityIndex" "tree" "LMajorityIndex$Tree;", Cond.fieldLink RX4 49 "MajorityIndex" "slotsNow" "I", Cond.fieldLink RX4 204 "MajorityIndex$Tree" "slotsHere" "I", Cond.fieldLink RX4 57 "MajorityIndex$Row" "length" "I", Cond.methodLink RX4 259 yX2_layRanges]
def wsX4_candidate_r2 : List Cond := [Cond.instanceMethod yX2_layRanges, Cond.selects RX2 yX2_layRanges yX2_layRanges, Cond.initialized RX2, Cond.code yX2_layRanges cX2_layRanges 2 none, Cond.fieldLink RX2 40 "MajorityIndex$Tree" "row" "LMajorityIndex$Row;", Cond.fieldLink RX2 44 "MajorityIndex$Row" "length" "I", Cond.fieldLink RX2 50 "MajorityIndex$Tree" "nodes" "I", Cond.fieldLink RX2 18 "MajorityIndex$Tree" "from" "[I", Cond.fieldLink RX2 22 "MajorityIndex$Tree" "to" "[I", Cond.methodLink RX2 53 yX2_layBelow, Cond.instanceMethod yX2_layBelow, Cond.selects RX2 yX2_layBelow yX2_layBelow, Cond.code yX2_layBelow cX2_layBelow 4 none, Cond.methodLink RX2 57 yX2_rightBelow, Cond.instanceMethod yX2_rightBelow, Cond.selects RX2 yX2_rightBelow yX2_rightBelow, Cond.code yX2_rightBelow cX2_rightBelow 3 (some .int), Cond.methodLink RX4 87 yX2_renew, Cond.instanceMethod yX2_renew, Cond.selects RX2 yX2_renew yX2_renew, Cond.code yX2_renew cX2_renew 5 (some .int), Cond.methodLink RX2 61 yX2_putTogether, Cond.instanceMethod yX2_putTogether, Cond.selects RX2 yX2_putTogether yX2_putTogether]
def wsX4_candidate_r3 : List Cond := [Cond.code yX2_putTogether cX2_putTogether 2 none, Cond.fieldLink RX2 12 "MajorityIndex$Tree" "joined" "LMajorityIndex$Votes;", Cond.fieldLink RX2 74 "MajorityIndex$Row" "cell" "[I", Cond.fieldLink RX2 85 "MajorityIndex$Tree" "slotsHere" "I", Cond.methodLink RX2 71 yX3_clear, Cond.instanceMethod yX3_clear, Cond.selects RX3 yX3_clear yX3_clear, Cond.initialized RX3, Cond.code yX3_clear cX3_clear 1 none, Cond.fieldLink RX3 18 "MajorityIndex$Votes" "size" "I", Cond.fieldLink RX3 22 "MajorityIndex$Votes" "lost" "I", Cond.fieldLink RX3 25 "MajorityIndex$Votes" "lessBy" "I", Cond.methodLink RX2 77 yX3_add, Cond.instanceMethod yX3_add, Cond.selects RX3 yX3_add yX3_add, Cond.code yX3_add cX3_add 4 none, Cond.fieldLink RX3 9 "MajorityIndex$Votes" "value" "[I", Cond.fieldLink RX3 15 "MajorityIndex$Votes" "number" "[I", Cond.methodLink RX2 81 yX2_joinNode, Cond.instanceMethod yX2_joinNode, Cond.selects RX2 yX2_joinNode yX2_joinNode, Cond.code yX2_joinNode cX2_joinNode 5 none, Cond.fieldLink RX2 25 "MajorityIndex$Tree" "size" "[I", Cond.fieldLink RX2 34 "MajorityIndex$Tree" "value" "[I"]
def wsX4_candidate_r4 : List Cond := [Cond.fieldLink RX2 37 "MajorityIndex$Tree" "number" "[I", Cond.fieldLink RX2 91 "MajorityIndex$Votes" "lost" "I", Cond.fieldLink RX2 28 "MajorityIndex$Tree" "lossOf" "[I", Cond.methodLink RX2 88 yX3_cancel, Cond.instanceMethod yX3_cancel, Cond.selects RX3 yX3_cancel yX3_cancel, Cond.code yX3_cancel cX3_cancel 4 none, Cond.methodLink RX3 32 yX3_order, Cond.instanceMethod yX3_order, Cond.selects RX3 yX3_order yX3_order, Cond.code yX3_order cX3_order 3 none, Cond.methodLink RX3 35 yX3_isAhead, Cond.instanceMethod yX3_isAhead, Cond.selects RX3 yX3_isAhead yX3_isAhead, Cond.code yX3_isAhead cX3_isAhead 3 (some .boolean), Cond.methodLink RX3 39 yX3_exchange, Cond.instanceMethod yX3_exchange, Cond.selects RX3 yX3_exchange yX3_exchange, Cond.code yX3_exchange cX3_exchange 5 none, Cond.methodLink RX2 64 yX2_isJoined, Cond.instanceMethod yX2_isJoined, Cond.selects RX2 yX2_isJoined yX2_isJoined, Cond.code yX2_isJoined cX2_isJoined 4 (some .boolean), Cond.fieldLink RX2 94 "MajorityIndex$Votes" "size" "I"]
def wsX4_candidate_r5 : List Cond := [Cond.fieldLink RX2 96 "MajorityIndex$Votes" "value" "[I", Cond.fieldLink RX2 97 "MajorityIndex$Votes" "number" "[I", Cond.methodLink RX2 68 yX2_keepJoined, Cond.instanceMethod yX2_keepJoined, Cond.selects RX2 yX2_keepJoined yX2_keepJoined, Cond.code yX2_keepJoined cX2_keepJoined 4 none, Cond.methodLink RX2 98 Lib.Math.min.name, Cond.static Lib.Math.min.name, Cond.initialized "java/lang/Math", Cond.code Lib.Math.min.name Lib.Math.min.code 2 (some .int), Cond.fieldLink RX2 31 "MajorityIndex$Tree" "lessBy" "[I", Cond.fieldLink RX2 104 "MajorityIndex$Votes" "lessBy" "I", Cond.methodLink RX4 170 yX2_gather, Cond.instanceMethod yX2_gather, Cond.selects RX2 yX2_gather yX2_gather, Cond.code yX2_gather cX2_gather 6 none, Cond.methodLink RX2 106 yX2_isPart, Cond.instanceMethod yX2_isPart, Cond.selects RX2 yX2_isPart yX2_isPart, Cond.code yX2_isPart cX2_isPart 4 (some .boolean), Cond.methodLink RX4 113 yX0_oftenIn, Cond.instanceMethod yX0_oftenIn, Cond.selects RX0 yX0_oftenIn yX0_oftenIn, Cond.code yX0_oftenIn cX0_oftenIn 6 (some .int)]
def wsX4_candidate_r6 : List Cond := [Cond.fieldLink RX0 9 "MajorityIndex$Row" "cell" "[I"]
def wsX4_candidate : List Cond := .code yX4_candidate cX4_candidate 5 (some .int) :: ((wsX4_candidate_r1 ++ (wsX4_candidate_r2 ++ (wsX4_candidate_r3 ++ (wsX4_candidate_r4 ++ (wsX4_candidate_r5 ++ wsX4_candidate_r6))))) ++ wsX40 ++ wsX30 ++ wsX00 ++ wsX20 ++ (vx_at0 RX4 109 "java/util/NoSuchElementException" ["java/lang/RuntimeException", "java/lang/Exception"]).filter goodWord)
def wsX4_heavyAt_r1 : List Cond := [Cond.classLink RX4 107 "java/util/NoSuchElementException", Cond.initialized "java/util/NoSuchElementException", Cond.fieldLink RX4 12 "MajorityIndex" "row" "LMajorityIndex$Row;", Cond.fieldLink RX4 35 "MajorityIndex" "votes" "LMajorityIndex$Votes;", Cond.fieldLink RX4 174 "MajorityIndex$Votes" "size" "I", Cond.fieldLink RX4 133 "MajorityIndex$Votes" "value" "[I", Cond.fieldLink RX4 136 "MajorityIndex$Votes" "number" "[I", Cond.methodLink RX4 79 yX0_hasRange, Cond.instanceMethod yX0_hasRange, Cond.selects RX0 yX0_hasRange yX0_hasRange, Cond.initialized RX0, Cond.code yX0_hasRange cX0_hasRange 3 (some .boolean), Cond.fieldLink RX0 15 "MajorityIndex$Row" "length" "I", Cond.methodLink RX4 186 yX4_isShare, Cond.static yX4_isShare, Cond.initialized RX4, Cond.code yX4_isShare cX4_isShare 2 (some .boolean), Cond.methodLink RX4 189 yX4_isEnough, Cond.instanceMethod yX4_isEnough, Cond.selects RX4 yX4_isEnough yX4_isEnough, Cond.code yX4_isEnough cX4_isEnough 3 (some .boolean), Cond.fieldLink RX4 49 "MajorityIndex" "slotsNow" "I", Cond.methodLink RX4 71 yX4_laidTree, Cond.instanceMethod yX4_laidTree]
def wsX4_heavyAt_r2 : List Cond := [Cond.selects RX4 yX4_laidTree yX4_laidTree, Cond.code yX4_laidTree cX4_laidTree 1 (some (.object "MajorityIndex$Tree")), Cond.fieldLink RX4 53 "MajorityIndex" "treeIsOld" "Z", Cond.fieldLink RX4 21 "MajorityIndex" "tree" "LMajorityIndex$Tree;", Cond.fieldLink RX4 204 "MajorityIndex$Tree" "slotsHere" "I", Cond.fieldLink RX4 57 "MajorityIndex$Row" "length" "I", Cond.methodLink RX4 259 yX2_layRanges, Cond.instanceMethod yX2_layRanges, Cond.selects RX2 yX2_layRanges yX2_layRanges, Cond.initialized RX2, Cond.code yX2_layRanges cX2_layRanges 2 none, Cond.fieldLink RX2 40 "MajorityIndex$Tree" "row" "LMajorityIndex$Row;", Cond.fieldLink RX2 44 "MajorityIndex$Row" "length" "I", Cond.fieldLink RX2 50 "MajorityIndex$Tree" "nodes" "I", Cond.fieldLink RX2 18 "MajorityIndex$Tree" "from" "[I", Cond.fieldLink RX2 22 "MajorityIndex$Tree" "to" "[I", Cond.methodLink RX2 53 yX2_layBelow, Cond.instanceMethod yX2_layBelow, Cond.selects RX2 yX2_layBelow yX2_layBelow, Cond.code yX2_layBelow cX2_layBelow 4 none, Cond.methodLink RX2 57 yX2_rightBelow, Cond.instanceMethod yX2_rightBelow, Cond.selects RX2 yX2_rightBelow yX2_rightBelow, Cond.code yX2_rightBelow cX2_rightBelow 3 (some .int)]
def wsX4_heavyAt_r3 : List Cond := [Cond.methodLink RX4 87 yX2_renew, Cond.instanceMethod yX2_renew, Cond.selects RX2 yX2_renew yX2_renew, Cond.code yX2_renew cX2_renew 5 (some .int), Cond.methodLink RX2 61 yX2_putTogether, Cond.instanceMethod yX2_putTogether, Cond.selects RX2 yX2_putTogether yX2_putTogether, Cond.code yX2_putTogether cX2_putTogether 2 none, Cond.fieldLink RX2 12 "MajorityIndex$Tree" "joined" "LMajorityIndex$Votes;", Cond.fieldLink RX2 74 "MajorityIndex$Row" "cell" "[I", Cond.fieldLink RX2 85 "MajorityIndex$Tree" "slotsHere" "I", Cond.methodLink RX2 71 yX3_clear, Cond.instanceMethod yX3_clear, Cond.selects RX3 yX3_clear yX3_clear, Cond.initialized RX3, Cond.code yX3_clear cX3_clear 1 none, Cond.fieldLink RX3 18 "MajorityIndex$Votes" "size" "I", Cond.fieldLink RX3 22 "MajorityIndex$Votes" "lost" "I", Cond.fieldLink RX3 25 "MajorityIndex$Votes" "lessBy" "I", Cond.methodLink RX2 77 yX3_add, Cond.instanceMethod yX3_add, Cond.selects RX3 yX3_add yX3_add, Cond.code yX3_add cX3_add 4 none, Cond.fieldLink RX3 9 "MajorityIndex$Votes" "value" "[I"]
def wsX4_heavyAt_r4 : List Cond := [Cond.fieldLink RX3 15 "MajorityIndex$Votes" "number" "[I", Cond.methodLink RX2 81 yX2_joinNode, Cond.instanceMethod yX2_joinNode, Cond.selects RX2 yX2_joinNode yX2_joinNode, Cond.code yX2_joinNode cX2_joinNode 5 none, Cond.fieldLink RX2 25 "MajorityIndex$Tree" "size" "[I", Cond.fieldLink RX2 34 "MajorityIndex$Tree" "value" "[I", Cond.fieldLink RX2 37 "MajorityIndex$Tree" "number" "[I", Cond.fieldLink RX2 91 "MajorityIndex$Votes" "lost" "I", Cond.fieldLink RX2 28 "MajorityIndex$Tree" "lossOf" "[I", Cond.methodLink RX2 88 yX3_cancel, Cond.instanceMethod yX3_cancel, Cond.selects RX3 yX3_cancel yX3_cancel, Cond.code yX3_cancel cX3_cancel 4 none, Cond.methodLink RX3 32 yX3_order, Cond.instanceMethod yX3_order, Cond.selects RX3 yX3_order yX3_order, Cond.code yX3_order cX3_order 3 none, Cond.methodLink RX3 35 yX3_isAhead, Cond.instanceMethod yX3_isAhead, Cond.selects RX3 yX3_isAhead yX3_isAhead, Cond.code yX3_isAhead cX3_isAhead 3 (some .boolean), Cond.methodLink RX3 39 yX3_exchange, Cond.instanceMethod yX3_exchange]
def wsX4_heavyAt_r5 : List Cond := [Cond.selects RX3 yX3_exchange yX3_exchange, Cond.code yX3_exchange cX3_exchange 5 none, Cond.methodLink RX2 64 yX2_isJoined, Cond.instanceMethod yX2_isJoined, Cond.selects RX2 yX2_isJoined yX2_isJoined, Cond.code yX2_isJoined cX2_isJoined 4 (some .boolean), Cond.fieldLink RX2 94 "MajorityIndex$Votes" "size" "I", Cond.fieldLink RX2 96 "MajorityIndex$Votes" "value" "[I", Cond.fieldLink RX2 97 "MajorityIndex$Votes" "number" "[I", Cond.methodLink RX2 68 yX2_keepJoined, Cond.instanceMethod yX2_keepJoined, Cond.selects RX2 yX2_keepJoined yX2_keepJoined, Cond.code yX2_keepJoined cX2_keepJoined 4 none, Cond.methodLink RX2 98 Lib.Math.min.name, Cond.static Lib.Math.min.name, Cond.initialized "java/lang/Math", Cond.code Lib.Math.min.name Lib.Math.min.code 2 (some .int), Cond.fieldLink RX2 31 "MajorityIndex$Tree" "lessBy" "[I", Cond.fieldLink RX2 104 "MajorityIndex$Votes" "lessBy" "I", Cond.methodLink RX4 192 yX4_gatherHeavy, Cond.instanceMethod yX4_gatherHeavy, Cond.selects RX4 yX4_gatherHeavy yX4_gatherHeavy, Cond.code yX4_gatherHeavy cX4_gatherHeavy 7 none, Cond.methodLink RX4 170 yX2_gather]
def wsX4_heavyAt_r6 : List Cond := [Cond.instanceMethod yX2_gather, Cond.selects RX2 yX2_gather yX2_gather, Cond.code yX2_gather cX2_gather 6 none, Cond.methodLink RX2 106 yX2_isPart, Cond.instanceMethod yX2_isPart, Cond.selects RX2 yX2_isPart yX2_isPart, Cond.code yX2_isPart cX2_isPart 4 (some .boolean), Cond.methodLink RX4 113 yX0_oftenIn, Cond.instanceMethod yX0_oftenIn, Cond.selects RX0 yX0_oftenIn yX0_oftenIn, Cond.code yX0_oftenIn cX0_oftenIn 6 (some .int), Cond.fieldLink RX0 9 "MajorityIndex$Row" "cell" "[I", Cond.methodLink RX4 262 yX3_keepHeavy, Cond.instanceMethod yX3_keepHeavy, Cond.selects RX3 yX3_keepHeavy yX3_keepHeavy, Cond.code yX3_keepHeavy cX3_keepHeavy 6 none, Cond.static yX4_isHeavy, Cond.code yX4_isHeavy cX4_isHeavy 4 (some .boolean)]
def wsX4_heavyAt : List Cond := .code yX4_heavyAt cX4_heavyAt 7 (some .int) :: ((wsX4_heavyAt_r1 ++ (wsX4_heavyAt_r2 ++ (wsX4_heavyAt_r3 ++ (wsX4_heavyAt_r4 ++ (wsX4_heavyAt_r5 ++ wsX4_heavyAt_r6))))) ++ wsX40 ++ wsX30 ++ wsX00 ++ wsX20 ++ (vx_at0 RX4 109 "java/util/NoSuchElementException" ["java/lang/RuntimeException", "java/lang/Exception"]).filter goodWord)
set_option maxRecDepth 20000 in
theorem ggX4_at_X0_hasPlace : GoodIn wsX4_at wsX0_hasPlace := goodIn_r _ [9, 10, 20, 21] rfl (by decide +kernel)
set_option maxRecDepth 20000 in
theorem gX4_at_X0_hasPlace : GoodIn wsX4_at (wsV RX4 64 RX0 yX0_hasPlace wsX0_hasPlace) := goodIn_app (goodIn_r _ [5, 6, 7, 8] rfl (by decide +kernel)) ggX4_at_X0_hasPlace
def dt_cX4_at_0 : List (Nat × Nat × Nat × Nat) := [(0, 42, 0, 0), (1, 180, 2, 12), (4, 27, 0, 0), (5, 182, 2, 64), (8, 154, 2, 11), (11, 187, 2, 107), (14, 89, 0, 0), (15, 183, 2, 109), (18, 191, 0, 0), (19, 42, 0, 0), (20, 180, 2, 12), (23, 180, 2, 110), (26, 27, 0, 0), (27, 46, 0, 0), (28, 172, 0, 0)]
theorem da_cX4_at_0 : fw dt_cX4_at_0 0 cX4_at.data.toList = true := by decide +kernel
theorem dX4_at_0 : decode cX4_at 0 = .ok (.aload_n 0, 1) := fo_42 (fw_get da_cX4_at_0 0 rfl)
theorem dX4_at_1 : decode cX4_at 1 = .ok (.getfield 12, 3) := fo_180 (fw_get da_cX4_at_0 1 rfl)
theorem dX4_at_4 : decode cX4_at 4 = .ok (.iload_n 1, 1) := fo_27 (fw_get da_cX4_at_0 2 rfl)
theorem dX4_at_5 : decode cX4_at 5 = .ok (.invokevirtual 64, 3) := fo_182 (fw_get da_cX4_at_0 3 rfl)
theorem dX4_at_8 : decode cX4_at 8 = .ok (.ifCond .ne 11, 3) := fo_154 (fw_get da_cX4_at_0 4 rfl) (by decide +kernel)
theorem dX4_at_11 : decode cX4_at 11 = .ok (.new 107, 3) := fo_187 (fw_get da_cX4_at_0 5 rfl)
theorem dX4_at_14 : decode cX4_at 14 = .ok (.dup, 1) := fo_89 (fw_get da_cX4_at_0 6 rfl)
theorem dX4_at_15 : decode cX4_at 15 = .ok (.invokespecial 109, 3) := fo_183 (fw_get da_cX4_at_0 7 rfl)
theorem dX4_at_18 : decode cX4_at 18 = .ok (.athrow, 1) := fo_191 (fw_get da_cX4_at_0 8 rfl)
theorem dX4_at_19 : decode cX4_at 19 = .ok (.aload_n 0, 1) := fo_42 (fw_get da_cX4_at_0 9 rfl)
theorem dX4_at_20 : decode cX4_at 20 = .ok (.getfield 12, 3) := fo_180 (fw_get da_cX4_at_0 10 rfl)
theorem dX4_at_23 : decode cX4_at 23 = .ok (.getfield 110, 3) := fo_180 (fw_get da_cX4_at_0 11 rfl)
theorem dX4_at_26 : decode cX4_at 26 = .ok (.iload_n 1, 1) := fo_27 (fw_get da_cX4_at_0 12 rfl)
theorem dX4_at_27 : decode cX4_at 27 = .ok (.iaload, 1) := fo_46 (fw_get da_cX4_at_0 13 rfl)
theorem dX4_at_28 : decode cX4_at 28 = .ok (.ireturn, 1) := fo_172 (fw_get da_cX4_at_0 14 rfl)
set_option maxRecDepth 20000 in
theorem ggX4_vote_X0_hasRange : GoodIn wsX4_vote wsX0_hasRange := goodIn_r _ [12, 13, 142, 143] rfl (by decide +kernel)
set_option maxRecDepth 20000 in
theorem gX4_vote_X0_hasRange : GoodIn wsX4_vote (wsV RX4 79 RX0 yX0_hasRange wsX0_hasRange) := goodIn_app (goodIn_r _ [8, 9, 10, 11] rfl (by decide +kernel)) ggX4_vote_X0_hasRange
set_option maxRecDepth 20000 in
theorem ggX4_vote_X4_laidTree : GoodIn wsX4_vote wsX4_laidTree := goodIn_r _ [18, 19, 20, 21, 22, 3, 23, 24, 25, 26, 27, 28, 29, 30, 31, 32, 33, 34, 35, 36, 37, 38, 39, 40, 41, 42, 43, 44, 45, 46, 47, 48, 49, 50, 51, 52, 53, 54, 55, 56, 57, 58, 59, 60, 61, 62, 63, 64, 65, 66, 67, 68, 69, 70, 71, 72, 73, 74, 75, 76, 77, 78, 79, 80, 81, 82, 83, 84, 85, 86, 87, 88, 89, 90, 91, 92, 93, 94, 95, 96, 97, 98, 99, 100, 101, 102, 103, 104, 105, 106, 107, 108, 117, 118, 119, 120, 121, 122, 123, 124, 125, 126, 127, 128, 129, 130, 131, 132, 133, 134, 135, 136, 142, 143, 137, 138, 139, 140, 141] rfl (by decide +kernel)
set_option maxRecDepth 20000 in
theorem gX4_vote_X4_laidTree : GoodIn wsX4_vote (wsV RX4 71 RX4 yX4_laidTree wsX4_laidTree) := goodIn_app (goodIn_r _ [14, 15, 16, 17] rfl (by decide +kernel)) ggX4_vote_X4_laidTree
set_option maxRecDepth 20000 in
theorem ggX4_vote_X2_find : GoodIn wsX4_vote wsX2_find := goodIn_r _ [112, 31, 32, 33, 126, 127, 128, 129, 130, 131, 132, 133, 134, 135, 136] rfl (by decide +kernel)
set_option maxRecDepth 20000 in
theorem gX4_vote_X2_find : GoodIn wsX4_vote (wsV RX4 123 RX2 yX2_find wsX2_find) := goodIn_app (goodIn_r _ [109, 110, 111, 27] rfl (by decide +kernel)) ggX4_vote_X2_find
set_option maxRecDepth 20000 in
theorem ggX4_vote_X2_copyTo : GoodIn wsX4_vote wsX2_copyTo := goodIn_r _ [116, 53, 54, 55, 56, 57, 58, 59, 60, 67, 68, 69, 27, 70, 71, 72, 73, 74, 75, 61, 62, 63, 64, 65, 66, 137, 138, 139, 140, 141, 126, 127, 128, 129, 130, 131, 132, 133, 134, 135, 136] rfl (by decide +kernel)
set_option maxRecDepth 20000 in
theorem gX4_vote_X2_copyTo : GoodIn wsX4_vote (wsV RX4 129 RX2 yX2_copyTo wsX2_copyTo) := goodIn_app (goodIn_r _ [113, 114, 115, 27] rfl (by decide +kernel)) ggX4_vote_X2_copyTo
def dt_cX4_vote_0 : List (Nat × Nat × Nat × Nat) := [(0, 42, 0, 0), (1, 180, 2, 12), (4, 27, 0, 0), (5, 28, 0, 0), (6, 182, 2, 79), (9, 153, 2, 14), (12, 21, 1, 4), (14, 155, 2, 9), (17, 21, 1, 4), (19, 4, 0, 0), (20, 164, 2, 11), (23, 187, 2, 107), (26, 89, 0, 0), (27, 183, 2, 109), (30, 191, 0, 0), (31, 42, 0, 0), (32, 182, 2, 71), (35, 58, 1, 5), (37, 25, 1, 5), (39, 27, 0, 0)]
theorem da_cX4_vote_0 : fw dt_cX4_vote_0 0 cX4_vote.data.toList = true := by decide +kernel
theorem dX4_vote_0 : decode cX4_vote 0 = .ok (.aload_n 0, 1) := fo_42 (fw_get da_cX4_vote_0 0 rfl)
theorem dX4_vote_1 : decode cX4_vote 1 = .ok (.getfield 12, 3) := fo_180 (fw_get da_cX4_vote_0 1 rfl)
theorem dX4_vote_4 : decode cX4_vote 4 = .ok (.iload_n 1, 1) := fo_27 (fw_get da_cX4_vote_0 2 rfl)
theorem dX4_vote_5 : decode cX4_vote 5 = .ok (.iload_n 2, 1) := fo_28 (fw_get da_cX4_vote_0 3 rfl)
theorem dX4_vote_6 : decode cX4_vote 6 = .ok (.invokevirtual 79, 3) := fo_182 (fw_get da_cX4_vote_0 4 rfl)
theorem dX4_vote_9 : decode cX4_vote 9 = .ok (.ifCond .eq 14, 3) := fo_153 (fw_get da_cX4_vote_0 5 rfl) (by decide +kernel)
theorem dX4_vote_12 : decode cX4_vote 12 = .ok (.iload 4, 2) := fo_21 (fw_get da_cX4_vote_0 6 rfl)
theorem dX4_vote_14 : decode cX4_vote 14 = .ok (.ifCond .lt 9, 3) := fo_155 (fw_get da_cX4_vote_0 7 rfl) (by decide +kernel)
theorem dX4_vote_17 : decode cX4_vote 17 = .ok (.iload 4, 2) := fo_21 (fw_get da_cX4_vote_0 8 rfl)
theorem dX4_vote_19 : decode cX4_vote 19 = .ok (.iconst 1, 1) := fo_4 (fw_get da_cX4_vote_0 9 rfl)
theorem dX4_vote_20 : decode cX4_vote 20 = .ok (.if_icmp .le 11, 3) := fo_164 (fw_get da_cX4_vote_0 10 rfl) (by decide +kernel)
theorem dX4_vote_23 : decode cX4_vote 23 = .ok (.new 107, 3) := fo_187 (fw_get da_cX4_vote_0 11 rfl)
theorem dX4_vote_26 : decode cX4_vote 26 = .ok (.dup, 1) := fo_89 (fw_get da_cX4_vote_0 12 rfl)
theorem dX4_vote_27 : decode cX4_vote 27 = .ok (.invokespecial 109, 3) := fo_183 (fw_get da_cX4_vote_0 13 rfl)
theorem dX4_vote_30 : decode cX4_vote 30 = .ok (.athrow, 1) := fo_191 (fw_get da_cX4_vote_0 14 rfl)
theorem dX4_vote_31 : decode cX4_vote 31 = .ok (.aload_n 0, 1) := fo_42 (fw_get da_cX4_vote_0 15 rfl)
theorem dX4_vote_32 : decode cX4_vote 32 = .ok (.invokevirtual 71, 3) := fo_182 (fw_get da_cX4_vote_0 16 rfl)
theorem dX4_vote_35 : decode cX4_vote 35 = .ok (.astore 5, 2) := fo_58 (fw_get da_cX4_vote_0 17 rfl)
theorem dX4_vote_37 : decode cX4_vote 37 = .ok (.aload 5, 2) := fo_25 (fw_get da_cX4_vote_0 18 rfl)
theorem dX4_vote_39 : decode cX4_vote 39 = .ok (.iload_n 1, 1) := fo_27 (fw_get da_cX4_vote_0 19 rfl)
def dt_cX4_vote_1 : List (Nat × Nat × Nat × Nat) := [(40, 28, 0, 0), (41, 182, 2, 123), (44, 54, 1, 6), (46, 21, 1, 6), (48, 2, 0, 0), (49, 159, 2, 19), (52, 29, 0, 0), (53, 155, 2, 15), (56, 29, 0, 0), (57, 25, 1, 5), (59, 180, 2, 126), (62, 21, 1, 6), (64, 46, 0, 0), (65, 161, 2, 11), (68, 187, 2, 107), (71, 89, 0, 0), (72, 183, 2, 109), (75, 191, 0, 0), (76, 25, 1, 5), (78, 42, 0, 0)]
theorem da_cX4_vote_1 : fw dt_cX4_vote_1 0 cX4_vote.data.toList = true := by decide +kernel
theorem dX4_vote_40 : decode cX4_vote 40 = .ok (.iload_n 2, 1) := fo_28 (fw_get da_cX4_vote_1 0 rfl)
theorem dX4_vote_41 : decode cX4_vote 41 = .ok (.invokevirtual 123, 3) := fo_182 (fw_get da_cX4_vote_1 1 rfl)
theorem dX4_vote_44 : decode cX4_vote 44 = .ok (.istore 6, 2) := fo_54 (fw_get da_cX4_vote_1 2 rfl)
theorem dX4_vote_46 : decode cX4_vote 46 = .ok (.iload 6, 2) := fo_21 (fw_get da_cX4_vote_1 3 rfl)
theorem dX4_vote_48 : decode cX4_vote 48 = .ok (.iconst (-1), 1) := fo_2 (fw_get da_cX4_vote_1 4 rfl)
theorem dX4_vote_49 : decode cX4_vote 49 = .ok (.if_icmp .eq 19, 3) := fo_159 (fw_get da_cX4_vote_1 5 rfl) (by decide +kernel)
theorem dX4_vote_52 : decode cX4_vote 52 = .ok (.iload_n 3, 1) := fo_29 (fw_get da_cX4_vote_1 6 rfl)
theorem dX4_vote_53 : decode cX4_vote 53 = .ok (.ifCond .lt 15, 3) := fo_155 (fw_get da_cX4_vote_1 7 rfl) (by decide +kernel)
theorem dX4_vote_56 : decode cX4_vote 56 = .ok (.iload_n 3, 1) := fo_29 (fw_get da_cX4_vote_1 8 rfl)
theorem dX4_vote_57 : decode cX4_vote 57 = .ok (.aload 5, 2) := fo_25 (fw_get da_cX4_vote_1 9 rfl)
theorem dX4_vote_59 : decode cX4_vote 59 = .ok (.getfield 126, 3) := fo_180 (fw_get da_cX4_vote_1 10 rfl)
theorem dX4_vote_62 : decode cX4_vote 62 = .ok (.iload 6, 2) := fo_21 (fw_get da_cX4_vote_1 11 rfl)
theorem dX4_vote_64 : decode cX4_vote 64 = .ok (.iaload, 1) := fo_46 (fw_get da_cX4_vote_1 12 rfl)
theorem dX4_vote_65 : decode cX4_vote 65 = .ok (.if_icmp .lt 11, 3) := fo_161 (fw_get da_cX4_vote_1 13 rfl) (by decide +kernel)
theorem dX4_vote_68 : decode cX4_vote 68 = .ok (.new 107, 3) := fo_187 (fw_get da_cX4_vote_1 14 rfl)
theorem dX4_vote_71 : decode cX4_vote 71 = .ok (.dup, 1) := fo_89 (fw_get da_cX4_vote_1 15 rfl)
theorem dX4_vote_72 : decode cX4_vote 72 = .ok (.invokespecial 109, 3) := fo_183 (fw_get da_cX4_vote_1 16 rfl)
theorem dX4_vote_75 : decode cX4_vote 75 = .ok (.athrow, 1) := fo_191 (fw_get da_cX4_vote_1 17 rfl)
theorem dX4_vote_76 : decode cX4_vote 76 = .ok (.aload 5, 2) := fo_25 (fw_get da_cX4_vote_1 18 rfl)
theorem dX4_vote_78 : decode cX4_vote 78 = .ok (.aload_n 0, 1) := fo_42 (fw_get da_cX4_vote_1 19 rfl)
def dt_cX4_vote_2 : List (Nat × Nat × Nat × Nat) := [(79, 180, 2, 35), (82, 21, 1, 6), (84, 182, 2, 129), (87, 21, 1, 4), (89, 154, 2, 15), (92, 42, 0, 0), (93, 180, 2, 35), (96, 180, 2, 133), (99, 29, 0, 0), (100, 46, 0, 0), (101, 167, 2, 12), (104, 42, 0, 0), (105, 180, 2, 35), (108, 180, 2, 136), (111, 29, 0, 0), (112, 46, 0, 0), (113, 172, 0, 0)]
theorem da_cX4_vote_2 : fw dt_cX4_vote_2 0 cX4_vote.data.toList = true := by decide +kernel
theorem dX4_vote_79 : decode cX4_vote 79 = .ok (.getfield 35, 3) := fo_180 (fw_get da_cX4_vote_2 0 rfl)
theorem dX4_vote_82 : decode cX4_vote 82 = .ok (.iload 6, 2) := fo_21 (fw_get da_cX4_vote_2 1 rfl)
theorem dX4_vote_84 : decode cX4_vote 84 = .ok (.invokevirtual 129, 3) := fo_182 (fw_get da_cX4_vote_2 2 rfl)
theorem dX4_vote_87 : decode cX4_vote 87 = .ok (.iload 4, 2) := fo_21 (fw_get da_cX4_vote_2 3 rfl)
theorem dX4_vote_89 : decode cX4_vote 89 = .ok (.ifCond .ne 15, 3) := fo_154 (fw_get da_cX4_vote_2 4 rfl) (by decide +kernel)
theorem dX4_vote_92 : decode cX4_vote 92 = .ok (.aload_n 0, 1) := fo_42 (fw_get da_cX4_vote_2 5 rfl)
theorem dX4_vote_93 : decode cX4_vote 93 = .ok (.getfield 35, 3) := fo_180 (fw_get da_cX4_vote_2 6 rfl)
theorem dX4_vote_96 : decode cX4_vote 96 = .ok (.getfield 133, 3) := fo_180 (fw_get da_cX4_vote_2 7 rfl)
theorem dX4_vote_99 : decode cX4_vote 99 = .ok (.iload_n 3, 1) := fo_29 (fw_get da_cX4_vote_2 8 rfl)
theorem dX4_vote_100 : decode cX4_vote 100 = .ok (.iaload, 1) := fo_46 (fw_get da_cX4_vote_2 9 rfl)
theorem dX4_vote_101 : decode cX4_vote 101 = .ok (.goto 12, 3) := fo_167 (fw_get da_cX4_vote_2 10 rfl) (by decide +kernel)
theorem dX4_vote_104 : decode cX4_vote 104 = .ok (.aload_n 0, 1) := fo_42 (fw_get da_cX4_vote_2 11 rfl)
theorem dX4_vote_105 : decode cX4_vote 105 = .ok (.getfield 35, 3) := fo_180 (fw_get da_cX4_vote_2 12 rfl)
theorem dX4_vote_108 : decode cX4_vote 108 = .ok (.getfield 136, 3) := fo_180 (fw_get da_cX4_vote_2 13 rfl)
theorem dX4_vote_111 : decode cX4_vote 111 = .ok (.iload_n 3, 1) := fo_29 (fw_get da_cX4_vote_2 14 rfl)
theorem dX4_vote_112 : decode cX4_vote 112 = .ok (.iaload, 1) := fo_46 (fw_get da_cX4_vote_2 15 rfl)
theorem dX4_vote_113 : decode cX4_vote 113 = .ok (.ireturn, 1) := fo_172 (fw_get da_cX4_vote_2 16 rfl)
set_option maxRecDepth 20000 in
theorem ggX4_candidate_X0_hasRange : GoodIn wsX4_candidate wsX0_hasRange := goodIn_r _ [12, 13, 136, 137] rfl (by decide +kernel)
set_option maxRecDepth 20000 in
theorem gX4_candidate_X0_hasRange : GoodIn wsX4_candidate (wsV RX4 79 RX0 yX0_hasRange wsX0_hasRange) := goodIn_app (goodIn_r _ [8, 9, 10, 11] rfl (by decide +kernel)) ggX4_candidate_X0_hasRange
set_option maxRecDepth 20000 in
theorem ggX4_candidate_X4_laidTree : GoodIn wsX4_candidate wsX4_laidTree := goodIn_r _ [18, 19, 20, 21, 22, 3, 23, 24, 25, 26, 27, 28, 29, 30, 31, 32, 33, 34, 35, 36, 37, 38, 39, 40, 41, 42, 43, 44, 45, 46, 47, 48, 49, 50, 51, 52, 53, 54, 55, 56, 57, 58, 59, 60, 61, 62, 63, 64, 65, 66, 67, 68, 69, 70, 71, 72, 73, 74, 75, 76, 77, 78, 79, 80, 81, 82, 83, 84, 85, 86, 87, 88, 89, 90, 91, 92, 93, 94, 95, 96, 97, 98, 99, 100, 101, 102, 103, 104, 105, 106, 107, 108, 122, 123, 124, 125, 126, 127, 128, 129, 130, 138, 139, 140, 141, 142, 143, 144, 145, 146, 147, 148, 136, 137, 131, 132, 133, 134, 135] rfl (by decide +kernel)
set_option maxRecDepth 20000 in
theorem gX4_candidate_X4_laidTree : GoodIn wsX4_candidate (wsV RX4 71 RX4 yX4_laidTree wsX4_laidTree) := goodIn_app (goodIn_r _ [14, 15, 16, 17] rfl (by decide +kernel)) ggX4_candidate_X4_laidTree
set_option maxRecDepth 20000 in
theorem ggX4_candidate_X2_gather : GoodIn wsX4_candidate wsX2_gather := goodIn_r _ [112, 31, 33, 52, 53, 54, 55, 56, 57, 58, 59, 60, 113, 114, 115, 27, 116, 32, 67, 68, 69, 70, 71, 72, 73, 74, 75, 61, 62, 63, 64, 65, 66, 76, 77, 78, 79, 80, 81, 82, 83, 84, 85, 86, 87, 88, 89, 90, 91, 138, 139, 140, 141, 142, 143, 144, 145, 146, 147, 148, 131, 132, 133, 134, 135] rfl (by decide +kernel)
set_option maxRecDepth 20000 in
theorem gX4_candidate_X2_gather : GoodIn wsX4_candidate (wsV RX4 170 RX2 yX2_gather wsX2_gather) := goodIn_app (goodIn_r _ [109, 110, 111, 27] rfl (by decide +kernel)) ggX4_candidate_X2_gather
set_option maxRecDepth 20000 in
theorem ggX4_candidate_X0_oftenIn : GoodIn wsX4_candidate wsX0_oftenIn := goodIn_r _ [120, 121, 136, 137] rfl (by decide +kernel)
set_option maxRecDepth 20000 in
theorem gX4_candidate_X0_oftenIn : GoodIn wsX4_candidate (wsV RX4 113 RX0 yX0_oftenIn wsX0_oftenIn) := goodIn_app (goodIn_r _ [117, 118, 119, 11] rfl (by decide +kernel)) ggX4_candidate_X0_oftenIn
def dt_cX4_candidate_0 : List (Nat × Nat × Nat × Nat) := [(0, 42, 0, 0), (1, 180, 2, 12), (4, 27, 0, 0), (5, 28, 0, 0), (6, 182, 2, 79), (9, 153, 2, 18), (12, 29, 0, 0), (13, 155, 2, 14), (16, 21, 1, 4), (18, 155, 2, 9), (21, 21, 1, 4), (23, 5, 0, 0), (24, 164, 2, 11), (27, 187, 2, 107), (30, 89, 0, 0), (31, 183, 2, 109), (34, 191, 0, 0), (35, 42, 0, 0), (36, 182, 2, 71), (39, 42, 0, 0)]
theorem da_cX4_candidate_0 : fw dt_cX4_candidate_0 0 cX4_candidate.data.toList = true := by decide +kernel
theorem dX4_candidate_0 : decode cX4_candidate 0 = .ok (.aload_n 0, 1) := fo_42 (fw_get da_cX4_candidate_0 0 rfl)
theorem dX4_candidate_1 : decode cX4_candidate 1 = .ok (.getfield 12, 3) := fo_180 (fw_get da_cX4_candidate_0 1 rfl)
theorem dX4_candidate_4 : decode cX4_candidate 4 = .ok (.iload_n 1, 1) := fo_27 (fw_get da_cX4_candidate_0 2 rfl)
theorem dX4_candidate_5 : decode cX4_candidate 5 = .ok (.iload_n 2, 1) := fo_28 (fw_get da_cX4_candidate_0 3 rfl)
theorem dX4_candidate_6 : decode cX4_candidate 6 = .ok (.invokevirtual 79, 3) := fo_182 (fw_get da_cX4_candidate_0 4 rfl)
theorem dX4_candidate_9 : decode cX4_candidate 9 = .ok (.ifCond .eq 18, 3) := fo_153 (fw_get da_cX4_candidate_0 5 rfl) (by decide +kernel)
theorem dX4_candidate_12 : decode cX4_candidate 12 = .ok (.iload_n 3, 1) := fo_29 (fw_get da_cX4_candidate_0 6 rfl)
theorem dX4_candidate_13 : decode cX4_candidate 13 = .ok (.ifCond .lt 14, 3) := fo_155 (fw_get da_cX4_candidate_0 7 rfl) (by decide +kernel)
theorem dX4_candidate_16 : decode cX4_candidate 16 = .ok (.iload 4, 2) := fo_21 (fw_get da_cX4_candidate_0 8 rfl)
theorem dX4_candidate_18 : decode cX4_candidate 18 = .ok (.ifCond .lt 9, 3) := fo_155 (fw_get da_cX4_candidate_0 9 rfl) (by decide +kernel)
theorem dX4_candidate_21 : decode cX4_candidate 21 = .ok (.iload 4, 2) := fo_21 (fw_get da_cX4_candidate_0 10 rfl)
theorem dX4_candidate_23 : decode cX4_candidate 23 = .ok (.iconst 2, 1) := fo_5 (fw_get da_cX4_candidate_0 11 rfl)
theorem dX4_candidate_24 : decode cX4_candidate 24 = .ok (.if_icmp .le 11, 3) := fo_164 (fw_get da_cX4_candidate_0 12 rfl) (by decide +kernel)
theorem dX4_candidate_27 : decode cX4_candidate 27 = .ok (.new 107, 3) := fo_187 (fw_get da_cX4_candidate_0 13 rfl)
theorem dX4_candidate_30 : decode cX4_candidate 30 = .ok (.dup, 1) := fo_89 (fw_get da_cX4_candidate_0 14 rfl)
theorem dX4_candidate_31 : decode cX4_candidate 31 = .ok (.invokespecial 109, 3) := fo_183 (fw_get da_cX4_candidate_0 15 rfl)
theorem dX4_candidate_34 : decode cX4_candidate 34 = .ok (.athrow, 1) := fo_191 (fw_get da_cX4_candidate_0 16 rfl)
theorem dX4_candidate_35 : decode cX4_candidate 35 = .ok (.aload_n 0, 1) := fo_42 (fw_get da_cX4_candidate_0 17 rfl)
theorem dX4_candidate_36 : decode cX4_candidate 36 = .ok (.invokevirtual 71, 3) := fo_182 (fw_get da_cX4_candidate_0 18 rfl)
theorem dX4_candidate_39 : decode cX4_candidate 39 = .ok (.aload_n 0, 1) := fo_42 (fw_get da_cX4_candidate_0 19 rfl)
def dt_cX4_candidate_1 : List (Nat × Nat × Nat × Nat) := [(40, 180, 2, 35), (43, 27, 0, 0), (44, 28, 0, 0), (45, 182, 2, 170), (48, 29, 0, 0), (49, 42, 0, 0), (50, 180, 2, 35), (53, 180, 2, 174), (56, 161, 2, 11), (59, 187, 2, 107), (62, 89, 0, 0), (63, 183, 2, 109), (66, 191, 0, 0), (67, 21, 1, 4)]
theorem da_cX4_candidate_1 : fw dt_cX4_candidate_1 0 cX4_candidate.data.toList = true := by decide +kernel
theorem dX4_candidate_40 : decode cX4_candidate 40 = .ok (.getfield 35, 3) := fo_180 (fw_get da_cX4_candidate_1 0 rfl)
theorem dX4_candidate_43 : decode cX4_candidate 43 = .ok (.iload_n 1, 1) := fo_27 (fw_get da_cX4_candidate_1 1 rfl)
theorem dX4_candidate_44 : decode cX4_candidate 44 = .ok (.iload_n 2, 1) := fo_28 (fw_get da_cX4_candidate_1 2 rfl)
theorem dX4_candidate_45 : decode cX4_candidate 45 = .ok (.invokevirtual 170, 3) := fo_182 (fw_get da_cX4_candidate_1 3 rfl)
theorem dX4_candidate_48 : decode cX4_candidate 48 = .ok (.iload_n 3, 1) := fo_29 (fw_get da_cX4_candidate_1 4 rfl)
theorem dX4_candidate_49 : decode cX4_candidate 49 = .ok (.aload_n 0, 1) := fo_42 (fw_get da_cX4_candidate_1 5 rfl)
theorem dX4_candidate_50 : decode cX4_candidate 50 = .ok (.getfield 35, 3) := fo_180 (fw_get da_cX4_candidate_1 6 rfl)
theorem dX4_candidate_53 : decode cX4_candidate 53 = .ok (.getfield 174, 3) := fo_180 (fw_get da_cX4_candidate_1 7 rfl)
theorem dX4_candidate_56 : decode cX4_candidate 56 = .ok (.if_icmp .lt 11, 3) := fo_161 (fw_get da_cX4_candidate_1 8 rfl) (by decide +kernel)
theorem dX4_candidate_59 : decode cX4_candidate 59 = .ok (.new 107, 3) := fo_187 (fw_get da_cX4_candidate_1 9 rfl)
theorem dX4_candidate_62 : decode cX4_candidate 62 = .ok (.dup, 1) := fo_89 (fw_get da_cX4_candidate_1 10 rfl)
theorem dX4_candidate_63 : decode cX4_candidate 63 = .ok (.invokespecial 109, 3) := fo_183 (fw_get da_cX4_candidate_1 11 rfl)
theorem dX4_candidate_66 : decode cX4_candidate 66 = .ok (.athrow, 1) := fo_191 (fw_get da_cX4_candidate_1 12 rfl)
theorem dX4_candidate_67 : decode cX4_candidate 67 = .ok (.iload 4, 2) := fo_21 (fw_get da_cX4_candidate_1 13 rfl)
theorem dX4_candidate_69 : decode cX4_candidate 69 = .ok (.lookupswitch 47 #[(0, 27), (1, 37)], 27) := by decide +kernel
def dt_cX4_candidate_2 : List (Nat × Nat × Nat × Nat) := [(96, 42, 0, 0), (97, 180, 2, 35), (100, 180, 2, 133), (103, 29, 0, 0), (104, 46, 0, 0), (105, 172, 0, 0), (106, 42, 0, 0), (107, 180, 2, 35), (110, 180, 2, 136), (113, 29, 0, 0), (114, 46, 0, 0), (115, 172, 0, 0), (116, 42, 0, 0), (117, 180, 2, 12), (120, 42, 0, 0), (121, 180, 2, 35), (124, 180, 2, 133), (127, 29, 0, 0), (128, 46, 0, 0), (129, 27, 0, 0)]
theorem da_cX4_candidate_2 : fw dt_cX4_candidate_2 0 cX4_candidate.data.toList = true := by decide +kernel
theorem dX4_candidate_96 : decode cX4_candidate 96 = .ok (.aload_n 0, 1) := fo_42 (fw_get da_cX4_candidate_2 0 rfl)
theorem dX4_candidate_97 : decode cX4_candidate 97 = .ok (.getfield 35, 3) := fo_180 (fw_get da_cX4_candidate_2 1 rfl)
theorem dX4_candidate_100 : decode cX4_candidate 100 = .ok (.getfield 133, 3) := fo_180 (fw_get da_cX4_candidate_2 2 rfl)
theorem dX4_candidate_103 : decode cX4_candidate 103 = .ok (.iload_n 3, 1) := fo_29 (fw_get da_cX4_candidate_2 3 rfl)
theorem dX4_candidate_104 : decode cX4_candidate 104 = .ok (.iaload, 1) := fo_46 (fw_get da_cX4_candidate_2 4 rfl)
theorem dX4_candidate_105 : decode cX4_candidate 105 = .ok (.ireturn, 1) := fo_172 (fw_get da_cX4_candidate_2 5 rfl)
theorem dX4_candidate_106 : decode cX4_candidate 106 = .ok (.aload_n 0, 1) := fo_42 (fw_get da_cX4_candidate_2 6 rfl)
theorem dX4_candidate_107 : decode cX4_candidate 107 = .ok (.getfield 35, 3) := fo_180 (fw_get da_cX4_candidate_2 7 rfl)
theorem dX4_candidate_110 : decode cX4_candidate 110 = .ok (.getfield 136, 3) := fo_180 (fw_get da_cX4_candidate_2 8 rfl)
theorem dX4_candidate_113 : decode cX4_candidate 113 = .ok (.iload_n 3, 1) := fo_29 (fw_get da_cX4_candidate_2 9 rfl)
theorem dX4_candidate_114 : decode cX4_candidate 114 = .ok (.iaload, 1) := fo_46 (fw_get da_cX4_candidate_2 10 rfl)
theorem dX4_candidate_115 : decode cX4_candidate 115 = .ok (.ireturn, 1) := fo_172 (fw_get da_cX4_candidate_2 11 rfl)
theorem dX4_candidate_116 : decode cX4_candidate 116 = .ok (.aload_n 0, 1) := fo_42 (fw_get da_cX4_candidate_2 12 rfl)
theorem dX4_candidate_117 : decode cX4_candidate 117 = .ok (.getfield 12, 3) := fo_180 (fw_get da_cX4_candidate_2 13 rfl)
theorem dX4_candidate_120 : decode cX4_candidate 120 = .ok (.aload_n 0, 1) := fo_42 (fw_get da_cX4_candidate_2 14 rfl)
theorem dX4_candidate_121 : decode cX4_candidate 121 = .ok (.getfield 35, 3) := fo_180 (fw_get da_cX4_candidate_2 15 rfl)
theorem dX4_candidate_124 : decode cX4_candidate 124 = .ok (.getfield 133, 3) := fo_180 (fw_get da_cX4_candidate_2 16 rfl)
theorem dX4_candidate_127 : decode cX4_candidate 127 = .ok (.iload_n 3, 1) := fo_29 (fw_get da_cX4_candidate_2 17 rfl)
theorem dX4_candidate_128 : decode cX4_candidate 128 = .ok (.iaload, 1) := fo_46 (fw_get da_cX4_candidate_2 18 rfl)
theorem dX4_candidate_129 : decode cX4_candidate 129 = .ok (.iload_n 1, 1) := fo_27 (fw_get da_cX4_candidate_2 19 rfl)
def dt_cX4_candidate_3 : List (Nat × Nat × Nat × Nat) := [(130, 28, 0, 0), (131, 182, 2, 113), (134, 172, 0, 0)]
theorem da_cX4_candidate_3 : fw dt_cX4_candidate_3 0 cX4_candidate.data.toList = true := by decide +kernel
theorem dX4_candidate_130 : decode cX4_candidate 130 = .ok (.iload_n 2, 1) := fo_28 (fw_get da_cX4_candidate_3 0 rfl)
theorem dX4_candidate_131 : decode cX4_candidate 131 = .ok (.invokevirtual 113, 3) := fo_182 (fw_get da_cX4_candidate_3 1 rfl)
theorem dX4_candidate_134 : decode cX4_candidate 134 = .ok (.ireturn, 1) := fo_172 (fw_get da_cX4_candidate_3 2 rfl)
set_option maxRecDepth 20000 in
theorem ggX4_heavyAt_X0_hasRange : GoodIn wsX4_heavyAt wsX0_hasRange := goodIn_r _ [12, 13, 153, 154] rfl (by decide +kernel)
set_option maxRecDepth 20000 in
theorem gX4_heavyAt_X0_hasRange : GoodIn wsX4_heavyAt (wsV RX4 79 RX0 yX0_hasRange wsX0_hasRange) := goodIn_app (goodIn_r _ [8, 9, 10, 11] rfl (by decide +kernel)) ggX4_heavyAt_X0_hasRange
set_option maxRecDepth 20000 in
theorem ggX4_heavyAt_X4_isShare : GoodIn wsX4_heavyAt wsX4_isShare := goodIn_r _ [17] rfl (by decide +kernel)
set_option maxRecDepth 20000 in
theorem gX4_heavyAt_X4_isShare : GoodIn wsX4_heavyAt (va_wsS RX4 186 yX4_isShare wsX4_isShare) := goodIn_app (goodIn_r _ [14, 15, 16] rfl (by decide +kernel)) ggX4_heavyAt_X4_isShare
set_option maxRecDepth 20000 in
theorem ggX4_heavyAt_X4_isEnough : GoodIn wsX4_heavyAt wsX4_isEnough := goodIn_r _ [21, 22, 139, 140, 141, 142, 143, 144, 145, 146, 147] rfl (by decide +kernel)
set_option maxRecDepth 20000 in
theorem gX4_heavyAt_X4_isEnough : GoodIn wsX4_heavyAt (wsV RX4 189 RX4 yX4_isEnough wsX4_isEnough) := goodIn_app (goodIn_r _ [18, 19, 20, 16] rfl (by decide +kernel)) ggX4_heavyAt_X4_isEnough
set_option maxRecDepth 20000 in
theorem ggX4_heavyAt_X4_laidTree : GoodIn wsX4_heavyAt wsX4_laidTree := goodIn_r _ [26, 27, 28, 22, 29, 3, 30, 31, 32, 33, 34, 35, 36, 37, 38, 39, 40, 41, 42, 43, 44, 45, 46, 47, 48, 49, 50, 51, 52, 53, 54, 55, 56, 57, 58, 59, 60, 61, 62, 63, 64, 65, 66, 67, 68, 69, 70, 71, 72, 73, 74, 75, 76, 77, 78, 79, 80, 81, 82, 83, 84, 85, 86, 87, 88, 89, 90, 91, 92, 93, 94, 95, 96, 97, 98, 99, 100, 101, 102, 103, 104, 105, 106, 107, 108, 109, 110, 111, 112, 113, 114, 115, 139, 140, 141, 142, 143, 144, 145, 146, 147, 155, 156, 157, 158, 159, 160, 161, 162, 163, 164, 165, 153, 154, 148, 149, 150, 151, 152] rfl (by decide +kernel)
set_option maxRecDepth 20000 in
theorem gX4_heavyAt_X4_laidTree : GoodIn wsX4_heavyAt (wsV RX4 71 RX4 yX4_laidTree wsX4_laidTree) := goodIn_app (goodIn_r _ [23, 24, 25, 16] rfl (by decide +kernel)) ggX4_heavyAt_X4_laidTree
set_option maxRecDepth 20000 in
theorem ggX4_heavyAt_X4_gatherHeavy : GoodIn wsX4_heavyAt wsX4_gatherHeavy := goodIn_r _ [119, 4, 5, 7, 3, 6, 120, 121, 122, 34, 123, 38, 40, 59, 60, 61, 62, 63, 64, 65, 66, 67, 124, 125, 126, 127, 39, 74, 75, 76, 77, 78, 79, 80, 81, 82, 68, 69, 70, 71, 72, 73, 83, 84, 85, 86, 87, 88, 89, 90, 91, 92, 93, 94, 95, 96, 97, 98, 128, 129, 130, 11, 131, 132, 133, 134, 135, 136, 137, 16, 138, 139, 140, 141, 142, 143, 144, 145, 146, 147, 148, 149, 150, 151, 152, 155, 156, 157, 158, 159, 160, 161, 162, 163, 164, 165, 153, 154] rfl (by decide +kernel)
set_option maxRecDepth 20000 in
theorem gX4_heavyAt_X4_gatherHeavy : GoodIn wsX4_heavyAt (wsV RX4 192 RX4 yX4_gatherHeavy wsX4_gatherHeavy) := goodIn_app (goodIn_r _ [116, 117, 118, 16] rfl (by decide +kernel)) ggX4_heavyAt_X4_gatherHeavy
def dt_cX4_heavyAt_0 : List (Nat × Nat × Nat × Nat) := [(0, 42, 0, 0), (1, 180, 2, 12), (4, 27, 0, 0), (5, 28, 0, 0), (6, 182, 2, 79), (9, 153, 2, 28), (12, 29, 0, 0), (13, 21, 1, 4), (15, 184, 2, 186), (18, 153, 2, 19), (21, 21, 1, 5), (23, 155, 2, 14), (26, 21, 1, 6), (28, 155, 2, 9), (31, 21, 1, 6), (33, 4, 0, 0), (34, 164, 2, 11), (37, 187, 2, 107), (40, 89, 0, 0), (41, 183, 2, 109)]
theorem da_cX4_heavyAt_0 : fw dt_cX4_heavyAt_0 0 cX4_heavyAt.data.toList = true := by decide +kernel
theorem dX4_heavyAt_0 : decode cX4_heavyAt 0 = .ok (.aload_n 0, 1) := fo_42 (fw_get da_cX4_heavyAt_0 0 rfl)
theorem dX4_heavyAt_1 : decode cX4_heavyAt 1 = .ok (.getfield 12, 3) := fo_180 (fw_get da_cX4_heavyAt_0 1 rfl)
theorem dX4_heavyAt_4 : decode cX4_heavyAt 4 = .ok (.iload_n 1, 1) := fo_27 (fw_get da_cX4_heavyAt_0 2 rfl)
theorem dX4_heavyAt_5 : decode cX4_heavyAt 5 = .ok (.iload_n 2, 1) := fo_28 (fw_get da_cX4_heavyAt_0 3 rfl)
theorem dX4_heavyAt_6 : decode cX4_heavyAt 6 = .ok (.invokevirtual 79, 3) := fo_182 (fw_get da_cX4_heavyAt_0 4 rfl)
theorem dX4_heavyAt_9 : decode cX4_heavyAt 9 = .ok (.ifCond .eq 28, 3) := fo_153 (fw_get da_cX4_heavyAt_0 5 rfl) (by decide +kernel)
theorem dX4_heavyAt_12 : decode cX4_heavyAt 12 = .ok (.iload_n 3, 1) := fo_29 (fw_get da_cX4_heavyAt_0 6 rfl)
theorem dX4_heavyAt_13 : decode cX4_heavyAt 13 = .ok (.iload 4, 2) := fo_21 (fw_get da_cX4_heavyAt_0 7 rfl)
theorem dX4_heavyAt_15 : decode cX4_heavyAt 15 = .ok (.invokestatic 186, 3) := fo_184 (fw_get da_cX4_heavyAt_0 8 rfl)
theorem dX4_heavyAt_18 : decode cX4_heavyAt 18 = .ok (.ifCond .eq 19, 3) := fo_153 (fw_get da_cX4_heavyAt_0 9 rfl) (by decide +kernel)
theorem dX4_heavyAt_21 : decode cX4_heavyAt 21 = .ok (.iload 5, 2) := fo_21 (fw_get da_cX4_heavyAt_0 10 rfl)
theorem dX4_heavyAt_23 : decode cX4_heavyAt 23 = .ok (.ifCond .lt 14, 3) := fo_155 (fw_get da_cX4_heavyAt_0 11 rfl) (by decide +kernel)
theorem dX4_heavyAt_26 : decode cX4_heavyAt 26 = .ok (.iload 6, 2) := fo_21 (fw_get da_cX4_heavyAt_0 12 rfl)
theorem dX4_heavyAt_28 : decode cX4_heavyAt 28 = .ok (.ifCond .lt 9, 3) := fo_155 (fw_get da_cX4_heavyAt_0 13 rfl) (by decide +kernel)
theorem dX4_heavyAt_31 : decode cX4_heavyAt 31 = .ok (.iload 6, 2) := fo_21 (fw_get da_cX4_heavyAt_0 14 rfl)
theorem dX4_heavyAt_33 : decode cX4_heavyAt 33 = .ok (.iconst 1, 1) := fo_4 (fw_get da_cX4_heavyAt_0 15 rfl)
theorem dX4_heavyAt_34 : decode cX4_heavyAt 34 = .ok (.if_icmp .le 11, 3) := fo_164 (fw_get da_cX4_heavyAt_0 16 rfl) (by decide +kernel)
theorem dX4_heavyAt_37 : decode cX4_heavyAt 37 = .ok (.new 107, 3) := fo_187 (fw_get da_cX4_heavyAt_0 17 rfl)
theorem dX4_heavyAt_40 : decode cX4_heavyAt 40 = .ok (.dup, 1) := fo_89 (fw_get da_cX4_heavyAt_0 18 rfl)
theorem dX4_heavyAt_41 : decode cX4_heavyAt 41 = .ok (.invokespecial 109, 3) := fo_183 (fw_get da_cX4_heavyAt_0 19 rfl)
def dt_cX4_heavyAt_1 : List (Nat × Nat × Nat × Nat) := [(44, 191, 0, 0), (45, 42, 0, 0), (46, 29, 0, 0), (47, 21, 1, 4), (49, 182, 2, 189), (52, 154, 2, 11), (55, 187, 2, 107), (58, 89, 0, 0), (59, 183, 2, 109), (62, 191, 0, 0), (63, 42, 0, 0), (64, 42, 0, 0), (65, 182, 2, 71), (68, 27, 0, 0), (69, 28, 0, 0), (70, 29, 0, 0), (71, 21, 1, 4), (73, 182, 2, 192), (76, 21, 1, 5), (78, 42, 0, 0)]
theorem da_cX4_heavyAt_1 : fw dt_cX4_heavyAt_1 0 cX4_heavyAt.data.toList = true := by decide +kernel
theorem dX4_heavyAt_44 : decode cX4_heavyAt 44 = .ok (.athrow, 1) := fo_191 (fw_get da_cX4_heavyAt_1 0 rfl)
theorem dX4_heavyAt_45 : decode cX4_heavyAt 45 = .ok (.aload_n 0, 1) := fo_42 (fw_get da_cX4_heavyAt_1 1 rfl)
theorem dX4_heavyAt_46 : decode cX4_heavyAt 46 = .ok (.iload_n 3, 1) := fo_29 (fw_get da_cX4_heavyAt_1 2 rfl)
theorem dX4_heavyAt_47 : decode cX4_heavyAt 47 = .ok (.iload 4, 2) := fo_21 (fw_get da_cX4_heavyAt_1 3 rfl)
theorem dX4_heavyAt_49 : decode cX4_heavyAt 49 = .ok (.invokevirtual 189, 3) := fo_182 (fw_get da_cX4_heavyAt_1 4 rfl)
theorem dX4_heavyAt_52 : decode cX4_heavyAt 52 = .ok (.ifCond .ne 11, 3) := fo_154 (fw_get da_cX4_heavyAt_1 5 rfl) (by decide +kernel)
theorem dX4_heavyAt_55 : decode cX4_heavyAt 55 = .ok (.new 107, 3) := fo_187 (fw_get da_cX4_heavyAt_1 6 rfl)
theorem dX4_heavyAt_58 : decode cX4_heavyAt 58 = .ok (.dup, 1) := fo_89 (fw_get da_cX4_heavyAt_1 7 rfl)
theorem dX4_heavyAt_59 : decode cX4_heavyAt 59 = .ok (.invokespecial 109, 3) := fo_183 (fw_get da_cX4_heavyAt_1 8 rfl)
theorem dX4_heavyAt_62 : decode cX4_heavyAt 62 = .ok (.athrow, 1) := fo_191 (fw_get da_cX4_heavyAt_1 9 rfl)
theorem dX4_heavyAt_63 : decode cX4_heavyAt 63 = .ok (.aload_n 0, 1) := fo_42 (fw_get da_cX4_heavyAt_1 10 rfl)
theorem dX4_heavyAt_64 : decode cX4_heavyAt 64 = .ok (.aload_n 0, 1) := fo_42 (fw_get da_cX4_heavyAt_1 11 rfl)
theorem dX4_heavyAt_65 : decode cX4_heavyAt 65 = .ok (.invokevirtual 71, 3) := fo_182 (fw_get da_cX4_heavyAt_1 12 rfl)
theorem dX4_heavyAt_68 : decode cX4_heavyAt 68 = .ok (.iload_n 1, 1) := fo_27 (fw_get da_cX4_heavyAt_1 13 rfl)
theorem dX4_heavyAt_69 : decode cX4_heavyAt 69 = .ok (.iload_n 2, 1) := fo_28 (fw_get da_cX4_heavyAt_1 14 rfl)
theorem dX4_heavyAt_70 : decode cX4_heavyAt 70 = .ok (.iload_n 3, 1) := fo_29 (fw_get da_cX4_heavyAt_1 15 rfl)
theorem dX4_heavyAt_71 : decode cX4_heavyAt 71 = .ok (.iload 4, 2) := fo_21 (fw_get da_cX4_heavyAt_1 16 rfl)
theorem dX4_heavyAt_73 : decode cX4_heavyAt 73 = .ok (.invokevirtual 192, 3) := fo_182 (fw_get da_cX4_heavyAt_1 17 rfl)
theorem dX4_heavyAt_76 : decode cX4_heavyAt 76 = .ok (.iload 5, 2) := fo_21 (fw_get da_cX4_heavyAt_1 18 rfl)
theorem dX4_heavyAt_78 : decode cX4_heavyAt 78 = .ok (.aload_n 0, 1) := fo_42 (fw_get da_cX4_heavyAt_1 19 rfl)
def dt_cX4_heavyAt_2 : List (Nat × Nat × Nat × Nat) := [(79, 180, 2, 35), (82, 180, 2, 174), (85, 161, 2, 11), (88, 187, 2, 107), (91, 89, 0, 0), (92, 183, 2, 109), (95, 191, 0, 0), (96, 21, 1, 6), (98, 154, 2, 16), (101, 42, 0, 0), (102, 180, 2, 35), (105, 180, 2, 133), (108, 21, 1, 5), (110, 46, 0, 0), (111, 167, 2, 13), (114, 42, 0, 0), (115, 180, 2, 35), (118, 180, 2, 136), (121, 21, 1, 5), (123, 46, 0, 0)]
theorem da_cX4_heavyAt_2 : fw dt_cX4_heavyAt_2 0 cX4_heavyAt.data.toList = true := by decide +kernel
theorem dX4_heavyAt_79 : decode cX4_heavyAt 79 = .ok (.getfield 35, 3) := fo_180 (fw_get da_cX4_heavyAt_2 0 rfl)
theorem dX4_heavyAt_82 : decode cX4_heavyAt 82 = .ok (.getfield 174, 3) := fo_180 (fw_get da_cX4_heavyAt_2 1 rfl)
theorem dX4_heavyAt_85 : decode cX4_heavyAt 85 = .ok (.if_icmp .lt 11, 3) := fo_161 (fw_get da_cX4_heavyAt_2 2 rfl) (by decide +kernel)
theorem dX4_heavyAt_88 : decode cX4_heavyAt 88 = .ok (.new 107, 3) := fo_187 (fw_get da_cX4_heavyAt_2 3 rfl)
theorem dX4_heavyAt_91 : decode cX4_heavyAt 91 = .ok (.dup, 1) := fo_89 (fw_get da_cX4_heavyAt_2 4 rfl)
theorem dX4_heavyAt_92 : decode cX4_heavyAt 92 = .ok (.invokespecial 109, 3) := fo_183 (fw_get da_cX4_heavyAt_2 5 rfl)
theorem dX4_heavyAt_95 : decode cX4_heavyAt 95 = .ok (.athrow, 1) := fo_191 (fw_get da_cX4_heavyAt_2 6 rfl)
theorem dX4_heavyAt_96 : decode cX4_heavyAt 96 = .ok (.iload 6, 2) := fo_21 (fw_get da_cX4_heavyAt_2 7 rfl)
theorem dX4_heavyAt_98 : decode cX4_heavyAt 98 = .ok (.ifCond .ne 16, 3) := fo_154 (fw_get da_cX4_heavyAt_2 8 rfl) (by decide +kernel)
theorem dX4_heavyAt_101 : decode cX4_heavyAt 101 = .ok (.aload_n 0, 1) := fo_42 (fw_get da_cX4_heavyAt_2 9 rfl)
theorem dX4_heavyAt_102 : decode cX4_heavyAt 102 = .ok (.getfield 35, 3) := fo_180 (fw_get da_cX4_heavyAt_2 10 rfl)
theorem dX4_heavyAt_105 : decode cX4_heavyAt 105 = .ok (.getfield 133, 3) := fo_180 (fw_get da_cX4_heavyAt_2 11 rfl)
theorem dX4_heavyAt_108 : decode cX4_heavyAt 108 = .ok (.iload 5, 2) := fo_21 (fw_get da_cX4_heavyAt_2 12 rfl)
theorem dX4_heavyAt_110 : decode cX4_heavyAt 110 = .ok (.iaload, 1) := fo_46 (fw_get da_cX4_heavyAt_2 13 rfl)
theorem dX4_heavyAt_111 : decode cX4_heavyAt 111 = .ok (.goto 13, 3) := fo_167 (fw_get da_cX4_heavyAt_2 14 rfl) (by decide +kernel)
theorem dX4_heavyAt_114 : decode cX4_heavyAt 114 = .ok (.aload_n 0, 1) := fo_42 (fw_get da_cX4_heavyAt_2 15 rfl)
theorem dX4_heavyAt_115 : decode cX4_heavyAt 115 = .ok (.getfield 35, 3) := fo_180 (fw_get da_cX4_heavyAt_2 16 rfl)
theorem dX4_heavyAt_118 : decode cX4_heavyAt 118 = .ok (.getfield 136, 3) := fo_180 (fw_get da_cX4_heavyAt_2 17 rfl)
theorem dX4_heavyAt_121 : decode cX4_heavyAt 121 = .ok (.iload 5, 2) := fo_21 (fw_get da_cX4_heavyAt_2 18 rfl)
theorem dX4_heavyAt_123 : decode cX4_heavyAt 123 = .ok (.iaload, 1) := fo_46 (fw_get da_cX4_heavyAt_2 19 rfl)
def dt_cX4_heavyAt_3 : List (Nat × Nat × Nat × Nat) := [(124, 172, 0, 0)]
theorem da_cX4_heavyAt_3 : fw dt_cX4_heavyAt_3 0 cX4_heavyAt.data.toList = true := by decide +kernel
theorem dX4_heavyAt_124 : decode cX4_heavyAt 124 = .ok (.ireturn, 1) := fo_172 (fw_get da_cX4_heavyAt_3 0 rfl)


abbrev EXN : String := "java/util/NoSuchElementException"
abbrev EXC : List String := ["java/lang/RuntimeException", "java/lang/Exception"]
abbrev EXD : List Cond := [.declares (Bundle.init0 "java/lang/RuntimeException"), .declares (Bundle.init0 "java/lang/Exception"), .declares (Bundle.init0 Bundle.tN), .castable EXN EXN]
def ki_ThA (A : Nat → Prop) (U : State) : Prop := (va_Nw (.castable EXN EXN) U ∧ va_Nw (.declares (Bundle.init0 "java/lang/RuntimeException")) U ∧ va_Nw (.declares (Bundle.init0 "java/lang/Exception")) U ∧ va_Nw (.declares (Bundle.init0 Bundle.tN)) U) ∧ vx_Zq Bundle.tN "UNASSIGNED_STACK" Bundle.steD A U U.heap ∧ vx_Zq Bundle.tN "SUPPRESSED_SENTINEL" Bundle.listD A U U.heap
theorem ki_ThA.call {A : Nat → Prop} {U : State} (h : ki_ThA A U) (g : JFrame) (mk : MethodId) (a : Array Value) : ki_ThA A (U.calling g mk a) :=
  ⟨⟨va_Nw.same (u := U) (U := U.calling g mk a) rfl rfl h.1.1, va_Nw.same (u := U) (U := U.calling g mk a) rfl rfl h.1.2.1, va_Nw.same (u := U) (U := U.calling g mk a) rfl rfl h.1.2.2.1, va_Nw.same (u := U) (U := U.calling g mk a) rfl rfl h.1.2.2.2⟩, vx_Zq.moved (u := U) (U := U.calling g mk a) (Vm.Alike.refl U.vm) h.2.1, vx_Zq.moved (u := U) (U := U.calling g mk a) (Vm.Alike.refl U.vm) h.2.2⟩
theorem ki_ThA.from {A A2 : Nat → Prop} {s U : State} {H : Heap} {locs : List Loc} (h : ki_ThA A s) (hS : va_S A s.heap H locs) (hU : U.heap = H) (hW : s.WarmedH U.vm) (hn : ∀ q, A2 q → A q) : ki_ThA A2 U := by
  subst hU
  refine ⟨⟨va_Nw.warmC hW h.1.1, va_Nw.warmD hW h.1.2.1, va_Nw.warmD hW h.1.2.2.1, va_Nw.warmD hW h.1.2.2.2⟩, ?_, ?_⟩
  · exact vx_Zq.moved hW.alike ((h.2.1.kept (fun a h1 h2 => hS.2.1 a h1 h2)).narrow hn)
  · exact vx_Zq.moved hW.alike ((h.2.2.kept (fun a h1 h2 => hS.2.1 a h1 h2)).narrow hn)
theorem ki_ex {A : Nat → Prop} {args : Array Value} {s : State} (h : ki_ThA A s) : ∀ w ∈ EXD, w.before args s = true := vx_c (va_Nw.use rfl h.1.2.1) (vx_c (va_Nw.use rfl h.1.2.2.1) (vx_c (va_Nw.use rfl h.1.2.2.2) (vx_c (va_Nw.use rfl h.1.1) vx_n)))
theorem ki_bad : ∀ w ∈ (vx_at0 RX4 109 EXN EXC).filter (fun w => !goodWord w), w ∈ EXD := by decide +kernel
theorem ki_ot : ∀ w ∈ Cond.classLink RX4 107 EXN :: Cond.initialized EXN :: vx_at0 RX4 109 EXN EXC, vx_ot w = true := by decide +kernel
theorem ki_ints {args : Array Value} {s : State} {D : va_G} {cl : List vw_C} (h : (Cond.arrayClass .int).before args s = true) (hK : va_K D cl [] s) : ∃ cA : ClassId, va_K D cl [(cA, .int)] s := by
  obtain ⟨cA, kA, comp, h1, h2, h3⟩ := Cond.arrayClass_spec h
  refine ⟨cA, hK.1, fun k q hq => ?_⟩
  have hz : k < 1 := (List.getElem?_eq_some_iff.mp hq).1
  rw [show k = 0 by omega] at hq
  cases hq
  exact ⟨fun n z => ⟨fun k h => (by cases h), kA, h2, comp, h3⟩, h1⟩

set_option maxHeartbeats 4000000 in
set_option maxRecDepth 100000 in
theorem c_X4_at (l : Launch) (hl0 : l.stackTraces = false) (dC : Nat → ClassId) (dI : Nat → Nat → Nat) (m_ : Nat) (q_row : Nat) (q_t : Nat) (t_ : Nat) (h0 : Nat) (k0 : Nat) (w_ : Nat) (z_ : Nat) (slots : Int32) (old : Int32) (q_cell : Nat) (cyI : ClassId) (len : Int32) (f : Nat → Int32) (p0 : Int32) (sz : Nat) (a0 : 0 ≤ len.toInt) (a1 : len.toInt ≤ 160) : vx_Met l yX4_at wsX4_at ({ frames := 8, cells := 1, slots := 6, locals := 360 }) (va_Pc [.ref m_, .int p0] (fun U => U.heap.size = sz ∧ va_P (dC, dI) vwCl [kx_4 m_ q_row q_t t_ h0 k0 w_ z_ slots old, kx_0 q_row q_cell len, kx_a q_cell cyI 160 f] U.heap ∧ va_K (dC, dI) vwCl [(cyI, .int)] U ∧ va_D (fun _ => True) [kx_4 m_ q_row q_t t_ h0 k0 w_ z_ slots old, kx_0 q_row q_cell len, kx_a q_cell cyI 160 f] ∧ ki_ThA (va_A [kx_4 m_ q_row q_t t_ h0 k0 w_ z_ slots old, kx_0 q_row q_cell len, kx_a q_cell cyI 160 f] sz) U)) (va_Qi (fun (r : Int32) (_ : Unit) => 0 ≤ p0.toInt ∧ p0.toInt < len.toInt ∧ r = f p0.toNatClampNeg) (fun (_ : Unit) (t : State) => va_P (dC, dI) vwCl [kx_4 m_ q_row q_t t_ h0 k0 w_ z_ slots old, kx_0 q_row q_cell len, kx_a q_cell cyI 160 f] t.heap ∧ va_K (dC, dI) vwCl [(cyI, .int)] t ∧ va_D (va_A [kx_4 m_ q_row q_t t_ h0 k0 w_ z_ slots old, kx_0 q_row q_cell len, kx_a q_cell cyI 160 f] sz) [kx_4 m_ q_row q_t t_ h0 k0 w_ z_ slots old, kx_0 q_row q_cell len, kx_a q_cell cyI 160 f]) (va_A [kx_4 m_ q_row q_t t_ h0 k0 w_ z_ slots old, kx_0 q_row q_cell len, kx_a q_cell cyI 160 f] sz)) (vx_X (fun u : Unit => (p0.toInt < 0 ∨ len.toInt ≤ p0.toInt)) (fun (E : String) (u : Unit) (t : State) => E = EXN ∧ va_P (dC, dI) vwCl [kx_4 m_ q_row q_t t_ h0 k0 w_ z_ slots old, kx_0 q_row q_cell len, kx_a q_cell cyI 160 f] t.heap ∧ va_K (dC, dI) vwCl [(cyI, .int)] t ∧ va_D (va_A [kx_4 m_ q_row q_t t_ h0 k0 w_ z_ slots old, kx_0 q_row q_cell len, kx_a q_cell cyI 160 f] sz) [kx_4 m_ q_row q_t t_ h0 k0 w_ z_ slots old, kx_0 q_row q_cell len, kx_a q_cell cyI 160 f]) (va_A [kx_4 m_ q_row q_t t_ h0 k0 w_ z_ slots old, kx_0 q_row q_cell len, kx_a q_cell cyI 160 f] sz)) 1 6 (va_A [kx_4 m_ q_row q_t t_ h0 k0 w_ z_ slots old, kx_0 q_row q_cell len, kx_a q_cell cyI 160 f] sz) := by
  refine vx_ofW (cc := cX4_at) (maxL := 2) (ret := (some .int)) (by decide) rfl ?_
  intro p e s m args below meth c s₁ B hml htab hv
  obtain ⟨rfl, hsz, hP, hK, hD0, hth⟩ := hv
  have hx := B.exec
  have hb := B.bytes
  have hr := B.returns
  have hts := atoms_spec (ws := wsX4_at) B.pre
  have hown : s.vm.findClass RX4 = some m.cls := findClass_of_methodNamed B.named
  have hlocks := B.notSynchronized
  have hat : ∀ w ∈ vx_at0 RX4 109 EXN EXC, w.before _ s = true := vx_hat (B := EXD) (fun w h => hts w (List.mem_cons_of_mem _ (List.mem_append_right _ h))) ki_bad (ki_ex hth)
  subst hsz
  have hD := hD0.self (sz := s.heap.size)
  generalize hAe : va_A [kx_4 m_ q_row q_t t_ h0 k0 w_ z_ slots old, kx_0 q_row q_cell len, kx_a q_cell cyI 160 f] s.heap.size = A at hD hth ⊢
  have hA : ∀ q : Nat, s.heap.size ≤ q → A q := fun q h => by rw [← hAe]; exact Or.inr h
  have hS : va_S A s.heap s.heap [] := va_S.rf
  have hP : va_P (dC, dI) vwCl [kx_4 m_ q_row q_t t_ h0 k0 w_ z_ slots old, kx_0 q_row q_cell len, kx_a q_cell cyI 160 f] s.heap := hP
  have hl := lv_entry ([.ref m_, .int p0]) (n := 2) (Nat.le_of_ble_eq_true rfl)
  rw [lg_entry_eq]
  generalize (lg_sl ([.ref m_, .int p0]) ++ List.replicate (2 - (lg_sl ([.ref m_, .int p0])).length) Slot.unset).toArray = ls at hl ⊢
  have hl : lv_has ls 2 [(0, .ref m_), (1, .int p0)] := hl
  have hf_12 := hts (.fieldLink RX4 12 "MajorityIndex" "row" "LMajorityIndex$Row;") (List.mem_of_getElem? (i := 3) rfl)
  have hi_4 : ∀ w ∈ u_ws RX4 TX4 9, w ∈ wsX4_at := fun w h => List.mem_cons_of_mem _ (List.mem_append_left _ (List.mem_append_left _ (List.mem_append_right _ h)))
  have hf_110 := hts (.fieldLink RX4 110 "MajorityIndex$Row" "cell" "[I") (List.mem_of_getElem? (i := 4) rfl)
  have hi_0 : ∀ w ∈ u_ws RX0 TX0 2, w ∈ wsX4_at := fun w h => List.mem_cons_of_mem _ (List.mem_append_left _ (List.mem_append_right _ h))
  have hc_107 := hts (.classLink RX4 107 EXN) (by decide +kernel)
  have hz_ex := hts (.initialized EXN) (by decide +kernel)
  refine lv_aload_n hx hb dX4_at_0 rfl (lv_at hl 0 rfl) ?_
  refine va_get (D := (dC, dI)) (ci := 4) (v := .ref q_row) (C := RX4) (T := TX4) (N := 9) hx hb hts hi_4 hown hK hP 0 rfl rfl 0 (by decide) hf_12 (fun _ h9 => h9) rfl dX4_at_1 ?_
  refine lv_iload_n hx hb dX4_at_4 rfl (lv_at hl 1 rfl) ?_
  have hPc := hP.sub (ws' := [kx_0 q_row q_cell len]) [1] rfl
  have hKc := hK.sub (tys' := []) [] rfl
  refine vp_callSi (W.runV (As := [.int p0]) (rest := []) ⟨hx, hb, hml, hown, hts⟩ (c_X0_hasPlace l dC dI q_row q_cell len p0) (cwV 1 hts gX4_at_X0_hasPlace rfl rfl rfl (by decide +kernel) ⟨Nat.le_of_ble_eq_true rfl, Nat.le_of_ble_eq_true rfl⟩) ⟨fun a U g mk q => by obtain ⟨q0, qP, qK⟩ := q; exact ⟨q0, qP, va_K.moved (u := U) (U := U.calling g mk a) (Vm.Alike.refl U.vm) qK⟩, kx_rc0 hKc hPc (q0 := 0) rfl, fun U hU hW => ⟨rfl, by rw [hU]; exact hPc, va_K.moved hW.alike hKc⟩⟩ rfl rfl hl.1 rfl (lv_room (Nat.le_of_ble_eq_true rfl)) dX4_at_5 ⟨Nat.le_of_ble_eq_true rfl, Nat.le_of_ble_eq_true rfl⟩) (fun r_1 w_1 => ?_)
  rcases w_1 with ⟨rfl, w_1⟩ | ⟨rfl, w_1⟩
  · have w_1 : (0 ≤ p0.toInt ∧ p0.toInt < len.toInt) := w_1
    refine lv_if_ne (tgt := 19) hx hb dX4_at_8 (by decide) (fun c_2 => ?_) (fun c_2 => ?_)
    · refine lv_aload_n hx hb dX4_at_19 rfl (lv_at hl 0 rfl) ?_
      refine va_get (D := (dC, dI)) (ci := 4) (v := .ref q_row) (C := RX4) (T := TX4) (N := 9) hx hb hts hi_4 hown hK hP 0 rfl rfl 0 (by decide) hf_12 (fun _ h9 => h9) rfl dX4_at_20 ?_
      refine va_get (D := (dC, dI)) (ci := 0) (v := .ref q_cell) (C := RX0) (T := TX0) (N := 2) hx hb hts hi_0 hown hK hP 1 rfl rfl 0 (by decide) hf_110 (fun _ h9 => h9) rfl dX4_at_23 ?_
      refine lv_iload_n hx hb dX4_at_26 rfl (lv_at hl 1 rfl) ?_
      refine va_iald hx hb hK hP 2 0 rfl rfl (ki_in (om_10 w_1.1) (om_1 a1 w_1.2)) dX4_at_27 ?_
      refine lv_topi (fun y_3 ey_3 => ?_)
      have j_3 : y_3.toInt = (f p0.toNatClampNeg).toInt := congrArg Int32.toInt ey_3
      refine vx_ret ?_
      have hP9 := hP
      have hD9 := hD
      have hK9 := hK
      refine W.widen (k := 1) (n := 6) (Nat.le_of_ble_eq_true rfl) (Nat.le_of_ble_eq_true rfl) ?_
      exact W.iret (v := y_3) hx hb hr (hlocks := hlocks) (fun t ht hW => ⟨⟨y_3, (), rfl, ⟨by omega, by omega, ey_3⟩, by rw [ht]; exact hP9, va_K.moved hW.alike hK9, hD9⟩, hS.F ht⟩) hS.2.2 dX4_at_28
    · exact absurd c_2 (by decide)
  · have w_1 : (p0.toInt < 0 ∨ len.toInt ≤ p0.toInt) := w_1
    refine lv_if_ne (tgt := 19) hx hb dX4_at_8 (by decide) (fun c_4 => ?_) (fun c_4 => ?_)
    · exact absurd c_4 (by decide)
    · have hP9 := hP.sub (ws' := [kx_4 m_ q_row q_t t_ h0 k0 w_ z_ slots old, kx_0 q_row q_cell len, kx_a q_cell cyI 160 f]) [0, 1, 2] rfl
      have hD9 := hD.sub (ws' := [kx_4 m_ q_row q_t t_ h0 k0 w_ z_ slots old, kx_0 q_row q_cell len, kx_a q_cell cyI 160 f]) [0, 1, 2] (by decide) rfl
      have hK9 := hK.sub (tys' := [(cyI, .int)]) [0] rfl
      exact vx_throw0 (names := EXC) hx hb hl0 hown (by decide +kernel) (by decide +kernel) hc_107 hz_ex hat ki_ot hth.2.1 hth.2.2 hS (hl.1.trans hml.symm) dX4_at_11 dX4_at_14 dX4_at_15 dX4_at_18 (fun x h => (htab x h).elim) (Nat.le_of_ble_eq_true rfl) (Nat.le_of_ble_eq_true rfl) (Nat.le_of_ble_eq_true rfl) (Nat.le_of_ble_eq_true rfl) hlocks (fun t ha hz hk => ⟨(), (by omega), ⟨rfl, hP9.kept (fun k x hx => hk x.1 ((hP9 k x hx).lt)), va_K.moved ha hK9, hD9⟩, Nat.le_trans hS.1 hz, fun q h1 h2 => (hk q (Nat.lt_of_lt_of_le h1 hS.1)).trans (hS.2.1 q h1 h2)⟩) hS.2.2 (Nat.le_refl _) (Nat.le_refl _)



def RL : String := "MajorityIndexLaw"
abbrev cL_at : ByteArray := method_3_code
def yL_at : MethodName := ⟨RL, "at", "(LMajorityIndex;I[J)I"⟩
abbrev cL_vote : ByteArray := method_4_code
def yL_vote : MethodName := ⟨RL, "vote", "(LMajorityIndex;IIII[J)I"⟩
abbrev cL_candidate : ByteArray := method_5_code
def yL_candidate : MethodName := ⟨RL, "candidate", "(LMajorityIndex;IIII[J)I"⟩
abbrev cL_heavyAt : ByteArray := method_6_code
def yL_heavyAt : MethodName := ⟨RL, "heavyAt", "(LMajorityIndex;IIIIII[J)I"⟩
def wsL_at : List Cond := .codeWith yL_at cL_at 4 (some .int) [(0, 9, 12, 13)] :: ([.classLink RL 13 "java/util/NoSuchElementException", .methodLink RL 7 yX4_at, .instanceMethod yX4_at, .selects RX4 yX4_at yX4_at, .initialized RX4, .code yX4_at cX4_at 2 (some .int), .classLink RX4 107 "java/util/NoSuchElementException", .initialized "java/util/NoSuchElementException", .fieldLink RX4 12 "MajorityIndex" "row" "LMajorityIndex$Row;", .fieldLink RX4 110 "MajorityIndex$Row" "cell" "[I", .methodLink RX4 64 yX0_hasPlace, .instanceMethod yX0_hasPlace, .selects RX0 yX0_hasPlace yX0_hasPlace, .initialized RX0, .code yX0_hasPlace cX0_hasPlace 2 (some .boolean), .fieldLink RX0 15 "MajorityIndex$Row" "length" "I"] ++ wsX40 ++ wsX00 ++ (vx_at0 RX4 109 "java/util/NoSuchElementException" ["java/lang/RuntimeException", "java/lang/Exception"]).filter goodWord)
def wsL_vote_r1 : List Cond := [Cond.classLink RL 13 "java/util/NoSuchElementException", Cond.methodLink RL 15 yX4_vote, Cond.instanceMethod yX4_vote, Cond.selects RX4 yX4_vote yX4_vote, Cond.initialized RX4, Cond.code yX4_vote cX4_vote 7 (some .int), Cond.classLink RX4 107 "java/util/NoSuchElementException", Cond.initialized "java/util/NoSuchElementException", Cond.fieldLink RX4 12 "MajorityIndex" "row" "LMajorityIndex$Row;", Cond.fieldLink RX4 126 "MajorityIndex$Tree" "size" "[I", Cond.fieldLink RX4 35 "MajorityIndex" "votes" "LMajorityIndex$Votes;", Cond.fieldLink RX4 133 "MajorityIndex$Votes" "value" "[I", Cond.fieldLink RX4 136 "MajorityIndex$Votes" "number" "[I", Cond.methodLink RX4 79 yX0_hasRange, Cond.instanceMethod yX0_hasRange, Cond.selects RX0 yX0_hasRange yX0_hasRange, Cond.initialized RX0, Cond.code yX0_hasRange cX0_hasRange 3 (some .boolean), Cond.fieldLink RX0 15 "MajorityIndex$Row" "length" "I", Cond.methodLink RX4 71 yX4_laidTree, Cond.instanceMethod yX4_laidTree, Cond.selects RX4 yX4_laidTree yX4_laidTree, Cond.code yX4_laidTree cX4_laidTree 1 (some (.object "MajorityIndex$Tree")), Cond.fieldLink RX4 53 "MajorityIndex" "treeIsOld" "Z"]
def wsL_vote_r2 : List Cond := [Cond.fieldLink RX4 21 "MajorityIndex" "tree" "LMajorityIndex$Tree;", Cond.fieldLink RX4 49 "MajorityIndex" "slotsNow" "I", Cond.fieldLink RX4 204 "MajorityIndex$Tree" "slotsHere" "I", Cond.fieldLink RX4 57 "MajorityIndex$Row" "length" "I", Cond.methodLink RX4 259 yX2_layRanges, Cond.instanceMethod yX2_layRanges, Cond.selects RX2 yX2_layRanges yX2_layRanges, Cond.initialized RX2, Cond.code yX2_layRanges cX2_layRanges 2 none, Cond.fieldLink RX2 40 "MajorityIndex$Tree" "row" "LMajorityIndex$Row;", Cond.fieldLink RX2 44 "MajorityIndex$Row" "length" "I", Cond.fieldLink RX2 50 "MajorityIndex$Tree" "nodes" "I", Cond.fieldLink RX2 18 "MajorityIndex$Tree" "from" "[I", Cond.fieldLink RX2 22 "MajorityIndex$Tree" "to" "[I", Cond.methodLink RX2 53 yX2_layBelow, Cond.instanceMethod yX2_layBelow, Cond.selects RX2 yX2_layBelow yX2_layBelow, Cond.code yX2_layBelow cX2_layBelow 4 none, Cond.methodLink RX2 57 yX2_rightBelow, Cond.instanceMethod yX2_rightBelow, Cond.selects RX2 yX2_rightBelow yX2_rightBelow, Cond.code yX2_rightBelow cX2_rightBelow 3 (some .int), Cond.methodLink RX4 87 yX2_renew, Cond.instanceMethod yX2_renew]
def wsL_vote_r3 : List Cond := [Cond.selects RX2 yX2_renew yX2_renew, Cond.code yX2_renew cX2_renew 5 (some .int), Cond.methodLink RX2 61 yX2_putTogether, Cond.instanceMethod yX2_putTogether, Cond.selects RX2 yX2_putTogether yX2_putTogether, Cond.code yX2_putTogether cX2_putTogether 2 none, Cond.fieldLink RX2 12 "MajorityIndex$Tree" "joined" "LMajorityIndex$Votes;", Cond.fieldLink RX2 74 "MajorityIndex$Row" "cell" "[I", Cond.fieldLink RX2 85 "MajorityIndex$Tree" "slotsHere" "I", Cond.methodLink RX2 71 yX3_clear, Cond.instanceMethod yX3_clear, Cond.selects RX3 yX3_clear yX3_clear, Cond.initialized RX3, Cond.code yX3_clear cX3_clear 1 none, Cond.fieldLink RX3 18 "MajorityIndex$Votes" "size" "I", Cond.fieldLink RX3 22 "MajorityIndex$Votes" "lost" "I", Cond.fieldLink RX3 25 "MajorityIndex$Votes" "lessBy" "I", Cond.methodLink RX2 77 yX3_add, Cond.instanceMethod yX3_add, Cond.selects RX3 yX3_add yX3_add, Cond.code yX3_add cX3_add 4 none, Cond.fieldLink RX3 9 "MajorityIndex$Votes" "value" "[I", Cond.fieldLink RX3 15 "MajorityIndex$Votes" "number" "[I", Cond.methodLink RX2 81 yX2_joinNode]
def wsL_vote_r4 : List Cond := [Cond.instanceMethod yX2_joinNode, Cond.selects RX2 yX2_joinNode yX2_joinNode, Cond.code yX2_joinNode cX2_joinNode 5 none, Cond.fieldLink RX2 25 "MajorityIndex$Tree" "size" "[I", Cond.fieldLink RX2 34 "MajorityIndex$Tree" "value" "[I", Cond.fieldLink RX2 37 "MajorityIndex$Tree" "number" "[I", Cond.fieldLink RX2 91 "MajorityIndex$Votes" "lost" "I", Cond.fieldLink RX2 28 "MajorityIndex$Tree" "lossOf" "[I", Cond.methodLink RX2 88 yX3_cancel, Cond.instanceMethod yX3_cancel, Cond.selects RX3 yX3_cancel yX3_cancel, Cond.code yX3_cancel cX3_cancel 4 none, Cond.methodLink RX3 32 yX3_order, Cond.instanceMethod yX3_order, Cond.selects RX3 yX3_order yX3_order, Cond.code yX3_order cX3_order 3 none, Cond.methodLink RX3 35 yX3_isAhead, Cond.instanceMethod yX3_isAhead, Cond.selects RX3 yX3_isAhead yX3_isAhead, Cond.code yX3_isAhead cX3_isAhead 3 (some .boolean), Cond.methodLink RX3 39 yX3_exchange, Cond.instanceMethod yX3_exchange, Cond.selects RX3 yX3_exchange yX3_exchange, Cond.code yX3_exchange cX3_exchange 5 none]
def wsL_vote_r5 : List Cond := [Cond.methodLink RX2 64 yX2_isJoined, Cond.instanceMethod yX2_isJoined, Cond.selects RX2 yX2_isJoined yX2_isJoined, Cond.code yX2_isJoined cX2_isJoined 4 (some .boolean), Cond.fieldLink RX2 94 "MajorityIndex$Votes" "size" "I", Cond.fieldLink RX2 96 "MajorityIndex$Votes" "value" "[I", Cond.fieldLink RX2 97 "MajorityIndex$Votes" "number" "[I", Cond.methodLink RX2 68 yX2_keepJoined, Cond.instanceMethod yX2_keepJoined, Cond.selects RX2 yX2_keepJoined yX2_keepJoined, Cond.code yX2_keepJoined cX2_keepJoined 4 none, Cond.methodLink RX2 98 Lib.Math.min.name, Cond.static Lib.Math.min.name, Cond.initialized "java/lang/Math", Cond.code Lib.Math.min.name Lib.Math.min.code 2 (some .int), Cond.fieldLink RX2 31 "MajorityIndex$Tree" "lessBy" "[I", Cond.fieldLink RX2 104 "MajorityIndex$Votes" "lessBy" "I", Cond.methodLink RX4 123 yX2_find, Cond.instanceMethod yX2_find, Cond.selects RX2 yX2_find yX2_find, Cond.code yX2_find cX2_find 4 (some .int), Cond.methodLink RX4 129 yX2_copyTo, Cond.instanceMethod yX2_copyTo, Cond.selects RX2 yX2_copyTo yX2_copyTo]
def wsL_vote_r6 : List Cond := [Cond.code yX2_copyTo cX2_copyTo 3 none]
def wsL_vote : List Cond := .codeWith yL_vote cL_vote 7 (some .int) [(0, 14, 17, 13)] :: ((wsL_vote_r1 ++ (wsL_vote_r2 ++ (wsL_vote_r3 ++ (wsL_vote_r4 ++ (wsL_vote_r5 ++ wsL_vote_r6))))) ++ wsX40 ++ wsX20 ++ wsX30 ++ wsX00 ++ (vx_at0 RX4 109 "java/util/NoSuchElementException" ["java/lang/RuntimeException", "java/lang/Exception"]).filter goodWord)
def wsL_candidate_r1 : List Cond := [Cond.classLink RL 13 "java/util/NoSuchElementException", Cond.methodLink RL 19 yX4_candidate, Cond.instanceMethod yX4_candidate, Cond.selects RX4 yX4_candidate yX4_candidate, Cond.initialized RX4, Cond.code yX4_candidate cX4_candidate 5 (some .int), Cond.classLink RX4 107 "java/util/NoSuchElementException", Cond.initialized "java/util/NoSuchElementException", Cond.fieldLink RX4 12 "MajorityIndex" "row" "LMajorityIndex$Row;", Cond.fieldLink RX4 35 "MajorityIndex" "votes" "LMajorityIndex$Votes;", Cond.fieldLink RX4 174 "MajorityIndex$Votes" "size" "I", Cond.fieldLink RX4 133 "MajorityIndex$Votes" "value" "[I", Cond.fieldLink RX4 136 "MajorityIndex$Votes" "number" "[I", Cond.methodLink RX4 79 yX0_hasRange, Cond.instanceMethod yX0_hasRange, Cond.selects RX0 yX0_hasRange yX0_hasRange, Cond.initialized RX0, Cond.code yX0_hasRange cX0_hasRange 3 (some .boolean), Cond.fieldLink RX0 15 "MajorityIndex$Row" "length" "I", Cond.methodLink RX4 71 yX4_laidTree, Cond.instanceMethod yX4_laidTree, Cond.selects RX4 yX4_laidTree yX4_laidTree, Cond.code yX4_laidTree cX4_laidTree 1 (some (.object "MajorityIndex$Tree")), Cond.fieldLink RX4 53 "MajorityIndex" "treeIsOld" "Z"]
def wsL_candidate_r2 : List Cond := [Cond.fieldLink RX4 21 "MajorityIndex" "tree" "LMajorityIndex$Tree;", Cond.fieldLink RX4 49 "MajorityIndex" "slotsNow" "I", Cond.fieldLink RX4 204 "MajorityIndex$Tree" "slotsHere" "I", Cond.fieldLink RX4 57 "MajorityIndex$Row" "length" "I", Cond.methodLink RX4 259 yX2_layRanges, Cond.instanceMethod yX2_layRanges, Cond.selects RX2 yX2_layRanges yX2_layRanges, Cond.initialized RX2, Cond.code yX2_layRanges cX2_layRanges 2 none, Cond.fieldLink RX2 40 "MajorityIndex$Tree" "row" "LMajorityIndex$Row;", Cond.fieldLink RX2 44 "MajorityIndex$Row" "length" "I", Cond.fieldLink RX2 50 "MajorityIndex$Tree" "nodes" "I", Cond.fieldLink RX2 18 "MajorityIndex$Tree" "from" "[I", Cond.fieldLink RX2 22 "MajorityIndex$Tree" "to" "[I", Cond.methodLink RX2 53 yX2_layBelow, Cond.instanceMethod yX2_layBelow, Cond.selects RX2 yX2_layBelow yX2_layBelow, Cond.code yX2_layBelow cX2_layBelow 4 none, Cond.methodLink RX2 57 yX2_rightBelow, Cond.instanceMethod yX2_rightBelow, Cond.selects RX2 yX2_rightBelow yX2_rightBelow, Cond.code yX2_rightBelow cX2_rightBelow 3 (some .int), Cond.methodLink RX4 87 yX2_renew, Cond.instanceMethod yX2_renew]
def wsL_candidate_r3 : List Cond := [Cond.selects RX2 yX2_renew yX2_renew, Cond.code yX2_renew cX2_renew 5 (some .int), Cond.methodLink RX2 61 yX2_putTogether, Cond.instanceMethod yX2_putTogether, Cond.selects RX2 yX2_putTogether yX2_putTogether, Cond.code yX2_putTogether cX2_putTogether 2 none, Cond.fieldLink RX2 12 "MajorityIndex$Tree" "joined" "LMajorityIndex$Votes;", Cond.fieldLink RX2 74 "MajorityIndex$Row" "cell" "[I", Cond.fieldLink RX2 85 "MajorityIndex$Tree" "slotsHere" "I", Cond.methodLink RX2 71 yX3_clear, Cond.instanceMethod yX3_clear, Cond.selects RX3 yX3_clear yX3_clear, Cond.initialized RX3, Cond.code yX3_clear cX3_clear 1 none, Cond.fieldLink RX3 18 "MajorityIndex$Votes" "size" "I", Cond.fieldLink RX3 22 "MajorityIndex$Votes" "lost" "I", Cond.fieldLink RX3 25 "MajorityIndex$Votes" "lessBy" "I", Cond.methodLink RX2 77 yX3_add, Cond.instanceMethod yX3_add, Cond.selects RX3 yX3_add yX3_add, Cond.code yX3_add cX3_add 4 none, Cond.fieldLink RX3 9 "MajorityIndex$Votes" "value" "[I", Cond.fieldLink RX3 15 "MajorityIndex$Votes" "number" "[I", Cond.methodLink RX2 81 yX2_joinNode]
def wsL_candidate_r4 : List Cond := [Cond.instanceMethod yX2_joinNode, Cond.selects RX2 yX2_joinNode yX2_joinNode, Cond.code yX2_joinNode cX2_joinNode 5 none, Cond.fieldLink RX2 25 "MajorityIndex$Tree" "size" "[I", Cond.fieldLink RX2 34 "MajorityIndex$Tree" "value" "[I", Cond.fieldLink RX2 37 "MajorityIndex$Tree" "number" "[I", Cond.fieldLink RX2 91 "MajorityIndex$Votes" "lost" "I", Cond.fieldLink RX2 28 "MajorityIndex$Tree" "lossOf" "[I", Cond.methodLink RX2 88 yX3_cancel, Cond.instanceMethod yX3_cancel, Cond.selects RX3 yX3_cancel yX3_cancel, Cond.code yX3_cancel cX3_cancel 4 none, Cond.methodLink RX3 32 yX3_order, Cond.instanceMethod yX3_order, Cond.selects RX3 yX3_order yX3_order, Cond.code yX3_order cX3_order 3 none, Cond.methodLink RX3 35 yX3_isAhead, Cond.instanceMethod yX3_isAhead, Cond.selects RX3 yX3_isAhead yX3_isAhead, Cond.code yX3_isAhead cX3_isAhead 3 (some .boolean), Cond.methodLink RX3 39 yX3_exchange, Cond.instanceMethod yX3_exchange, Cond.selects RX3 yX3_exchange yX3_exchange, Cond.code yX3_exchange cX3_exchange 5 none]
def wsL_candidate_r5 : List Cond := [Cond.methodLink RX2 64 yX2_isJoined, Cond.instanceMethod yX2_isJoined, Cond.selects RX2 yX2_isJoined yX2_isJoined, Cond.code yX2_isJoined cX2_isJoined 4 (some .boolean), Cond.fieldLink RX2 94 "MajorityIndex$Votes" "size" "I", Cond.fieldLink RX2 96 "MajorityIndex$Votes" "value" "[I", Cond.fieldLink RX2 97 "MajorityIndex$Votes" "number" "[I", Cond.methodLink RX2 68 yX2_keepJoined, Cond.instanceMethod yX2_keepJoined, Cond.selects RX2 yX2_keepJoined yX2_keepJoined, Cond.code yX2_keepJoined cX2_keepJoined 4 none, Cond.methodLink RX2 98 Lib.Math.min.name, Cond.static Lib.Math.min.name, Cond.initialized "java/lang/Math", Cond.code Lib.Math.min.name Lib.Math.min.code 2 (some .int), Cond.fieldLink RX2 31 "MajorityIndex$Tree" "lessBy" "[I", Cond.fieldLink RX2 104 "MajorityIndex$Votes" "lessBy" "I", Cond.methodLink RX4 170 yX2_gather, Cond.instanceMethod yX2_gather, Cond.selects RX2 yX2_gather yX2_gather, Cond.code yX2_gather cX2_gather 6 none, Cond.methodLink RX2 106 yX2_isPart, Cond.instanceMethod yX2_isPart, Cond.selects RX2 yX2_isPart yX2_isPart]
def wsL_candidate_r6 : List Cond := [Cond.code yX2_isPart cX2_isPart 4 (some .boolean), Cond.methodLink RX4 113 yX0_oftenIn, Cond.instanceMethod yX0_oftenIn, Cond.selects RX0 yX0_oftenIn yX0_oftenIn, Cond.code yX0_oftenIn cX0_oftenIn 6 (some .int), Cond.fieldLink RX0 9 "MajorityIndex$Row" "cell" "[I"]
def wsL_candidate : List Cond := .codeWith yL_candidate cL_candidate 7 (some .int) [(0, 14, 17, 13)] :: ((wsL_candidate_r1 ++ (wsL_candidate_r2 ++ (wsL_candidate_r3 ++ (wsL_candidate_r4 ++ (wsL_candidate_r5 ++ wsL_candidate_r6))))) ++ wsX40 ++ wsX30 ++ wsX00 ++ wsX20 ++ (vx_at0 RX4 109 "java/util/NoSuchElementException" ["java/lang/RuntimeException", "java/lang/Exception"]).filter goodWord)
def wsL_heavyAt_r1 : List Cond := [Cond.classLink RL 13 "java/util/NoSuchElementException", Cond.methodLink RL 22 yX4_heavyAt, Cond.instanceMethod yX4_heavyAt, Cond.selects RX4 yX4_heavyAt yX4_heavyAt, Cond.initialized RX4, Cond.code yX4_heavyAt cX4_heavyAt 7 (some .int), Cond.classLink RX4 107 "java/util/NoSuchElementException", Cond.initialized "java/util/NoSuchElementException", Cond.fieldLink RX4 12 "MajorityIndex" "row" "LMajorityIndex$Row;", Cond.fieldLink RX4 35 "MajorityIndex" "votes" "LMajorityIndex$Votes;", Cond.fieldLink RX4 174 "MajorityIndex$Votes" "size" "I", Cond.fieldLink RX4 133 "MajorityIndex$Votes" "value" "[I", Cond.fieldLink RX4 136 "MajorityIndex$Votes" "number" "[I", Cond.methodLink RX4 79 yX0_hasRange, Cond.instanceMethod yX0_hasRange, Cond.selects RX0 yX0_hasRange yX0_hasRange, Cond.initialized RX0, Cond.code yX0_hasRange cX0_hasRange 3 (some .boolean), Cond.fieldLink RX0 15 "MajorityIndex$Row" "length" "I", Cond.methodLink RX4 186 yX4_isShare, Cond.static yX4_isShare, Cond.code yX4_isShare cX4_isShare 2 (some .boolean), Cond.methodLink RX4 189 yX4_isEnough, Cond.instanceMethod yX4_isEnough]
def wsL_heavyAt_r2 : List Cond := [Cond.selects RX4 yX4_isEnough yX4_isEnough, Cond.code yX4_isEnough cX4_isEnough 3 (some .boolean), Cond.fieldLink RX4 49 "MajorityIndex" "slotsNow" "I", Cond.methodLink RX4 71 yX4_laidTree, Cond.instanceMethod yX4_laidTree, Cond.selects RX4 yX4_laidTree yX4_laidTree, Cond.code yX4_laidTree cX4_laidTree 1 (some (.object "MajorityIndex$Tree")), Cond.fieldLink RX4 53 "MajorityIndex" "treeIsOld" "Z", Cond.fieldLink RX4 21 "MajorityIndex" "tree" "LMajorityIndex$Tree;", Cond.fieldLink RX4 204 "MajorityIndex$Tree" "slotsHere" "I", Cond.fieldLink RX4 57 "MajorityIndex$Row" "length" "I", Cond.methodLink RX4 259 yX2_layRanges, Cond.instanceMethod yX2_layRanges, Cond.selects RX2 yX2_layRanges yX2_layRanges, Cond.initialized RX2, Cond.code yX2_layRanges cX2_layRanges 2 none, Cond.fieldLink RX2 40 "MajorityIndex$Tree" "row" "LMajorityIndex$Row;", Cond.fieldLink RX2 44 "MajorityIndex$Row" "length" "I", Cond.fieldLink RX2 50 "MajorityIndex$Tree" "nodes" "I", Cond.fieldLink RX2 18 "MajorityIndex$Tree" "from" "[I", Cond.fieldLink RX2 22 "MajorityIndex$Tree" "to" "[I", Cond.methodLink RX2 53 yX2_layBelow, Cond.instanceMethod yX2_layBelow, Cond.selects RX2 yX2_layBelow yX2_layBelow]
def wsL_heavyAt_r3 : List Cond := [Cond.code yX2_layBelow cX2_layBelow 4 none, Cond.methodLink RX2 57 yX2_rightBelow, Cond.instanceMethod yX2_rightBelow, Cond.selects RX2 yX2_rightBelow yX2_rightBelow, Cond.code yX2_rightBelow cX2_rightBelow 3 (some .int), Cond.methodLink RX4 87 yX2_renew, Cond.instanceMethod yX2_renew, Cond.selects RX2 yX2_renew yX2_renew, Cond.code yX2_renew cX2_renew 5 (some .int), Cond.methodLink RX2 61 yX2_putTogether, Cond.instanceMethod yX2_putTogether, Cond.selects RX2 yX2_putTogether yX2_putTogether, Cond.code yX2_putTogether cX2_putTogether 2 none, Cond.fieldLink RX2 12 "MajorityIndex$Tree" "joined" "LMajorityIndex$Votes;", Cond.fieldLink RX2 74 "MajorityIndex$Row" "cell" "[I", Cond.fieldLink RX2 85 "MajorityIndex$Tree" "slotsHere" "I", Cond.methodLink RX2 71 yX3_clear, Cond.instanceMethod yX3_clear, Cond.selects RX3 yX3_clear yX3_clear, Cond.initialized RX3, Cond.code yX3_clear cX3_clear 1 none, Cond.fieldLink RX3 18 "MajorityIndex$Votes" "size" "I", Cond.fieldLink RX3 22 "MajorityIndex$Votes" "lost" "I", Cond.fieldLink RX3 25 "MajorityIndex$Votes" "lessBy" "I"]
def wsL_heavyAt_r4 : List Cond := [Cond.methodLink RX2 77 yX3_add, Cond.instanceMethod yX3_add, Cond.selects RX3 yX3_add yX3_add, Cond.code yX3_add cX3_add 4 none, Cond.fieldLink RX3 9 "MajorityIndex$Votes" "value" "[I", Cond.fieldLink RX3 15 "MajorityIndex$Votes" "number" "[I", Cond.methodLink RX2 81 yX2_joinNode, Cond.instanceMethod yX2_joinNode, Cond.selects RX2 yX2_joinNode yX2_joinNode, Cond.code yX2_joinNode cX2_joinNode 5 none, Cond.fieldLink RX2 25 "MajorityIndex$Tree" "size" "[I", Cond.fieldLink RX2 34 "MajorityIndex$Tree" "value" "[I", Cond.fieldLink RX2 37 "MajorityIndex$Tree" "number" "[I", Cond.fieldLink RX2 91 "MajorityIndex$Votes" "lost" "I", Cond.fieldLink RX2 28 "MajorityIndex$Tree" "lossOf" "[I", Cond.methodLink RX2 88 yX3_cancel, Cond.instanceMethod yX3_cancel, Cond.selects RX3 yX3_cancel yX3_cancel, Cond.code yX3_cancel cX3_cancel 4 none, Cond.methodLink RX3 32 yX3_order, Cond.instanceMethod yX3_order, Cond.selects RX3 yX3_order yX3_order, Cond.code yX3_order cX3_order 3 none, Cond.methodLink RX3 35 yX3_isAhead]
def wsL_heavyAt_r5 : List Cond := [Cond.instanceMethod yX3_isAhead, Cond.selects RX3 yX3_isAhead yX3_isAhead, Cond.code yX3_isAhead cX3_isAhead 3 (some .boolean), Cond.methodLink RX3 39 yX3_exchange, Cond.instanceMethod yX3_exchange, Cond.selects RX3 yX3_exchange yX3_exchange, Cond.code yX3_exchange cX3_exchange 5 none, Cond.methodLink RX2 64 yX2_isJoined, Cond.instanceMethod yX2_isJoined, Cond.selects RX2 yX2_isJoined yX2_isJoined, Cond.code yX2_isJoined cX2_isJoined 4 (some .boolean), Cond.fieldLink RX2 94 "MajorityIndex$Votes" "size" "I", Cond.fieldLink RX2 96 "MajorityIndex$Votes" "value" "[I", Cond.fieldLink RX2 97 "MajorityIndex$Votes" "number" "[I", Cond.methodLink RX2 68 yX2_keepJoined, Cond.instanceMethod yX2_keepJoined, Cond.selects RX2 yX2_keepJoined yX2_keepJoined, Cond.code yX2_keepJoined cX2_keepJoined 4 none, Cond.methodLink RX2 98 Lib.Math.min.name, Cond.static Lib.Math.min.name, Cond.initialized "java/lang/Math", Cond.code Lib.Math.min.name Lib.Math.min.code 2 (some .int), Cond.fieldLink RX2 31 "MajorityIndex$Tree" "lessBy" "[I", Cond.fieldLink RX2 104 "MajorityIndex$Votes" "lessBy" "I"]
def wsL_heavyAt_r6 : List Cond := [Cond.methodLink RX4 192 yX4_gatherHeavy, Cond.instanceMethod yX4_gatherHeavy, Cond.selects RX4 yX4_gatherHeavy yX4_gatherHeavy, Cond.code yX4_gatherHeavy cX4_gatherHeavy 7 none, Cond.methodLink RX4 170 yX2_gather, Cond.instanceMethod yX2_gather, Cond.selects RX2 yX2_gather yX2_gather, Cond.code yX2_gather cX2_gather 6 none, Cond.methodLink RX2 106 yX2_isPart, Cond.instanceMethod yX2_isPart, Cond.selects RX2 yX2_isPart yX2_isPart, Cond.code yX2_isPart cX2_isPart 4 (some .boolean), Cond.methodLink RX4 113 yX0_oftenIn, Cond.instanceMethod yX0_oftenIn, Cond.selects RX0 yX0_oftenIn yX0_oftenIn, Cond.code yX0_oftenIn cX0_oftenIn 6 (some .int), Cond.fieldLink RX0 9 "MajorityIndex$Row" "cell" "[I", Cond.methodLink RX4 262 yX3_keepHeavy, Cond.instanceMethod yX3_keepHeavy, Cond.selects RX3 yX3_keepHeavy yX3_keepHeavy, Cond.code yX3_keepHeavy cX3_keepHeavy 6 none, Cond.static yX4_isHeavy, Cond.code yX4_isHeavy cX4_isHeavy 4 (some .boolean)]
def wsL_heavyAt : List Cond := .codeWith yL_heavyAt cL_heavyAt 9 (some .int) [(0, 18, 21, 13)] :: ((wsL_heavyAt_r1 ++ (wsL_heavyAt_r2 ++ (wsL_heavyAt_r3 ++ (wsL_heavyAt_r4 ++ (wsL_heavyAt_r5 ++ wsL_heavyAt_r6))))) ++ wsX40 ++ wsX30 ++ wsX00 ++ wsX20 ++ (vx_at0 RX4 109 "java/util/NoSuchElementException" ["java/lang/RuntimeException", "java/lang/Exception"]).filter goodWord)
set_option maxRecDepth 20000 in
theorem ggL_at_X4_at : GoodIn wsL_at wsX4_at := goodIn_ca (goodIn_r _ [6, 7, 8, 9, 10, 11, 12, 13, 14, 15, 16, 17, 18, 19, 20, 21, 22, 23, 24, 25, 26, 27] rfl (by decide +kernel)) (goodIn_sub (fun _ h => List.mem_cons_of_mem _ (List.mem_append_right _ h)) (by decide +kernel))
set_option maxRecDepth 20000 in
theorem gL_at_X4_at : GoodIn wsL_at (wsV RL 7 RX4 yX4_at wsX4_at) := goodIn_app (goodIn_r _ [2, 3, 4, 5] rfl (by decide +kernel)) ggL_at_X4_at
def dt_cL_at_0 : List (Nat × Nat × Nat × Nat) := [(0, 44, 0, 0), (1, 3, 0, 0), (2, 42, 0, 0), (3, 27, 0, 0), (4, 182, 2, 7), (7, 133, 0, 0), (8, 80, 0, 0), (9, 167, 2, 6), (12, 78, 0, 0), (13, 4, 0, 0), (14, 172, 0, 0), (15, 3, 0, 0), (16, 172, 0, 0)]
theorem da_cL_at_0 : fw dt_cL_at_0 0 cL_at.data.toList = true := by decide +kernel
theorem dL_at_0 : decode cL_at 0 = .ok (.aload_n 2, 1) := fo_44 (fw_get da_cL_at_0 0 rfl)
theorem dL_at_1 : decode cL_at 1 = .ok (.iconst 0, 1) := fo_3 (fw_get da_cL_at_0 1 rfl)
theorem dL_at_2 : decode cL_at 2 = .ok (.aload_n 0, 1) := fo_42 (fw_get da_cL_at_0 2 rfl)
theorem dL_at_3 : decode cL_at 3 = .ok (.iload_n 1, 1) := fo_27 (fw_get da_cL_at_0 3 rfl)
theorem dL_at_4 : decode cL_at 4 = .ok (.invokevirtual 7, 3) := fo_182 (fw_get da_cL_at_0 4 rfl)
theorem dL_at_7 : decode cL_at 7 = .ok (.i2l, 1) := fo_133 (fw_get da_cL_at_0 5 rfl)
theorem dL_at_8 : decode cL_at 8 = .ok (.lastore, 1) := fo_80 (fw_get da_cL_at_0 6 rfl)
theorem dL_at_9 : decode cL_at 9 = .ok (.goto 6, 3) := fo_167 (fw_get da_cL_at_0 7 rfl) (by decide +kernel)
theorem dL_at_12 : decode cL_at 12 = .ok (.astore_n 3, 1) := fo_78 (fw_get da_cL_at_0 8 rfl)
theorem dL_at_13 : decode cL_at 13 = .ok (.iconst 1, 1) := fo_4 (fw_get da_cL_at_0 9 rfl)
theorem dL_at_14 : decode cL_at 14 = .ok (.ireturn, 1) := fo_172 (fw_get da_cL_at_0 10 rfl)
theorem dL_at_15 : decode cL_at 15 = .ok (.iconst 0, 1) := fo_3 (fw_get da_cL_at_0 11 rfl)
theorem dL_at_16 : decode cL_at 16 = .ok (.ireturn, 1) := fo_172 (fw_get da_cL_at_0 12 rfl)
set_option maxRecDepth 20000 in
theorem ggL_vote_X4_vote : GoodIn wsL_vote wsX4_vote := goodIn_ca (goodIn_r _ [6, 7, 8, 9, 10, 11, 12, 13, 14, 15, 16, 17, 18, 19, 20, 21, 22, 5, 23, 24, 25, 26, 27, 28, 29, 30, 31, 32, 33, 34, 35, 36, 37, 38, 39, 40, 41, 42, 43, 44, 45, 46, 47, 48, 49, 50, 51, 52, 53, 54, 55, 56, 57, 58, 59, 60, 61, 62, 63, 64, 65, 66, 67, 68, 69, 70, 71, 72, 73, 74, 75, 76, 77, 78, 79, 80, 81, 82, 83, 84, 85, 86, 87, 88, 89, 90, 91, 92, 93, 94, 95, 96, 97, 98, 99, 100, 101, 102, 103, 104, 105, 106, 107, 108, 109, 110, 111, 112, 113, 114, 115, 116, 117, 118, 119, 120, 121, 122, 123, 124, 125, 126, 127, 128, 129, 130, 131, 132, 133, 134, 135, 136, 137, 138, 139, 140, 141, 142, 143, 144, 145, 146, 147, 148] rfl (by decide +kernel)) (goodIn_sub (fun _ h => List.mem_cons_of_mem _ (List.mem_append_right _ h)) (by decide +kernel))
set_option maxRecDepth 20000 in
theorem gL_vote_X4_vote : GoodIn wsL_vote (wsV RL 15 RX4 yX4_vote wsX4_vote) := goodIn_app (goodIn_r _ [2, 3, 4, 5] rfl (by decide +kernel)) ggL_vote_X4_vote
def dt_cL_vote_0 : List (Nat × Nat × Nat × Nat) := [(0, 25, 1, 5), (2, 3, 0, 0), (3, 42, 0, 0), (4, 27, 0, 0), (5, 28, 0, 0), (6, 29, 0, 0), (7, 21, 1, 4), (9, 182, 2, 15), (12, 133, 0, 0), (13, 80, 0, 0), (14, 167, 2, 7), (17, 58, 1, 6), (19, 4, 0, 0), (20, 172, 0, 0), (21, 3, 0, 0), (22, 172, 0, 0)]
theorem da_cL_vote_0 : fw dt_cL_vote_0 0 cL_vote.data.toList = true := by decide +kernel
theorem dL_vote_0 : decode cL_vote 0 = .ok (.aload 5, 2) := fo_25 (fw_get da_cL_vote_0 0 rfl)
theorem dL_vote_2 : decode cL_vote 2 = .ok (.iconst 0, 1) := fo_3 (fw_get da_cL_vote_0 1 rfl)
theorem dL_vote_3 : decode cL_vote 3 = .ok (.aload_n 0, 1) := fo_42 (fw_get da_cL_vote_0 2 rfl)
theorem dL_vote_4 : decode cL_vote 4 = .ok (.iload_n 1, 1) := fo_27 (fw_get da_cL_vote_0 3 rfl)
theorem dL_vote_5 : decode cL_vote 5 = .ok (.iload_n 2, 1) := fo_28 (fw_get da_cL_vote_0 4 rfl)
theorem dL_vote_6 : decode cL_vote 6 = .ok (.iload_n 3, 1) := fo_29 (fw_get da_cL_vote_0 5 rfl)
theorem dL_vote_7 : decode cL_vote 7 = .ok (.iload 4, 2) := fo_21 (fw_get da_cL_vote_0 6 rfl)
theorem dL_vote_9 : decode cL_vote 9 = .ok (.invokevirtual 15, 3) := fo_182 (fw_get da_cL_vote_0 7 rfl)
theorem dL_vote_12 : decode cL_vote 12 = .ok (.i2l, 1) := fo_133 (fw_get da_cL_vote_0 8 rfl)
theorem dL_vote_13 : decode cL_vote 13 = .ok (.lastore, 1) := fo_80 (fw_get da_cL_vote_0 9 rfl)
theorem dL_vote_14 : decode cL_vote 14 = .ok (.goto 7, 3) := fo_167 (fw_get da_cL_vote_0 10 rfl) (by decide +kernel)
theorem dL_vote_17 : decode cL_vote 17 = .ok (.astore 6, 2) := fo_58 (fw_get da_cL_vote_0 11 rfl)
theorem dL_vote_19 : decode cL_vote 19 = .ok (.iconst 1, 1) := fo_4 (fw_get da_cL_vote_0 12 rfl)
theorem dL_vote_20 : decode cL_vote 20 = .ok (.ireturn, 1) := fo_172 (fw_get da_cL_vote_0 13 rfl)
theorem dL_vote_21 : decode cL_vote 21 = .ok (.iconst 0, 1) := fo_3 (fw_get da_cL_vote_0 14 rfl)
theorem dL_vote_22 : decode cL_vote 22 = .ok (.ireturn, 1) := fo_172 (fw_get da_cL_vote_0 15 rfl)
set_option maxRecDepth 20000 in
theorem ggL_candidate_X4_candidate : GoodIn wsL_candidate wsX4_candidate := goodIn_ca (goodIn_r _ [6, 7, 8, 9, 10, 11, 12, 13, 14, 15, 16, 17, 18, 19, 20, 21, 22, 5, 23, 24, 25, 26, 27, 28, 29, 30, 31, 32, 33, 34, 35, 36, 37, 38, 39, 40, 41, 42, 43, 44, 45, 46, 47, 48, 49, 50, 51, 52, 53, 54, 55, 56, 57, 58, 59, 60, 61, 62, 63, 64, 65, 66, 67, 68, 69, 70, 71, 72, 73, 74, 75, 76, 77, 78, 79, 80, 81, 82, 83, 84, 85, 86, 87, 88, 89, 90, 91, 92, 93, 94, 95, 96, 97, 98, 99, 100, 101, 102, 103, 104, 105, 106, 107, 108, 109, 110, 111, 112, 113, 114, 115, 116, 117, 118, 119, 120, 121, 122, 123, 124, 125, 126, 127, 128, 129, 130, 131, 132, 133, 134, 135, 136, 137, 138, 139, 140, 141, 142, 143, 144, 145, 146, 147, 148, 149, 150, 151, 152, 153] rfl (by decide +kernel)) (goodIn_sub (fun _ h => List.mem_cons_of_mem _ (List.mem_append_right _ h)) (by decide +kernel))
set_option maxRecDepth 20000 in
theorem gL_candidate_X4_candidate : GoodIn wsL_candidate (wsV RL 19 RX4 yX4_candidate wsX4_candidate) := goodIn_app (goodIn_r _ [2, 3, 4, 5] rfl (by decide +kernel)) ggL_candidate_X4_candidate
def dt_cL_candidate_0 : List (Nat × Nat × Nat × Nat) := [(0, 25, 1, 5), (2, 3, 0, 0), (3, 42, 0, 0), (4, 27, 0, 0), (5, 28, 0, 0), (6, 29, 0, 0), (7, 21, 1, 4), (9, 182, 2, 19), (12, 133, 0, 0), (13, 80, 0, 0), (14, 167, 2, 7), (17, 58, 1, 6), (19, 4, 0, 0), (20, 172, 0, 0), (21, 3, 0, 0), (22, 172, 0, 0)]
theorem da_cL_candidate_0 : fw dt_cL_candidate_0 0 cL_candidate.data.toList = true := by decide +kernel
theorem dL_candidate_0 : decode cL_candidate 0 = .ok (.aload 5, 2) := fo_25 (fw_get da_cL_candidate_0 0 rfl)
theorem dL_candidate_2 : decode cL_candidate 2 = .ok (.iconst 0, 1) := fo_3 (fw_get da_cL_candidate_0 1 rfl)
theorem dL_candidate_3 : decode cL_candidate 3 = .ok (.aload_n 0, 1) := fo_42 (fw_get da_cL_candidate_0 2 rfl)
theorem dL_candidate_4 : decode cL_candidate 4 = .ok (.iload_n 1, 1) := fo_27 (fw_get da_cL_candidate_0 3 rfl)
theorem dL_candidate_5 : decode cL_candidate 5 = .ok (.iload_n 2, 1) := fo_28 (fw_get da_cL_candidate_0 4 rfl)
theorem dL_candidate_6 : decode cL_candidate 6 = .ok (.iload_n 3, 1) := fo_29 (fw_get da_cL_candidate_0 5 rfl)
theorem dL_candidate_7 : decode cL_candidate 7 = .ok (.iload 4, 2) := fo_21 (fw_get da_cL_candidate_0 6 rfl)
theorem dL_candidate_9 : decode cL_candidate 9 = .ok (.invokevirtual 19, 3) := fo_182 (fw_get da_cL_candidate_0 7 rfl)
theorem dL_candidate_12 : decode cL_candidate 12 = .ok (.i2l, 1) := fo_133 (fw_get da_cL_candidate_0 8 rfl)
theorem dL_candidate_13 : decode cL_candidate 13 = .ok (.lastore, 1) := fo_80 (fw_get da_cL_candidate_0 9 rfl)
theorem dL_candidate_14 : decode cL_candidate 14 = .ok (.goto 7, 3) := fo_167 (fw_get da_cL_candidate_0 10 rfl) (by decide +kernel)
theorem dL_candidate_17 : decode cL_candidate 17 = .ok (.astore 6, 2) := fo_58 (fw_get da_cL_candidate_0 11 rfl)
theorem dL_candidate_19 : decode cL_candidate 19 = .ok (.iconst 1, 1) := fo_4 (fw_get da_cL_candidate_0 12 rfl)
theorem dL_candidate_20 : decode cL_candidate 20 = .ok (.ireturn, 1) := fo_172 (fw_get da_cL_candidate_0 13 rfl)
theorem dL_candidate_21 : decode cL_candidate 21 = .ok (.iconst 0, 1) := fo_3 (fw_get da_cL_candidate_0 14 rfl)
theorem dL_candidate_22 : decode cL_candidate 22 = .ok (.ireturn, 1) := fo_172 (fw_get da_cL_candidate_0 15 rfl)
set_option maxRecDepth 20000 in
theorem ggL_heavyAt_X4_heavyAt : GoodIn wsL_heavyAt wsX4_heavyAt := goodIn_ca (goodIn_r _ [6, 7, 8, 9, 10, 11, 12, 13, 14, 15, 16, 17, 18, 19, 20, 21, 5, 22, 23, 24, 25, 26, 27, 28, 29, 30, 31, 32, 33, 34, 35, 36, 37, 38, 39, 40, 41, 42, 43, 44, 45, 46, 47, 48, 49, 50, 51, 52, 53, 54, 55, 56, 57, 58, 59, 60, 61, 62, 63, 64, 65, 66, 67, 68, 69, 70, 71, 72, 73, 74, 75, 76, 77, 78, 79, 80, 81, 82, 83, 84, 85, 86, 87, 88, 89, 90, 91, 92, 93, 94, 95, 96, 97, 98, 99, 100, 101, 102, 103, 104, 105, 106, 107, 108, 109, 110, 111, 112, 113, 114, 115, 116, 117, 118, 119, 120, 121, 122, 123, 124, 125, 126, 127, 128, 129, 130, 131, 132, 133, 134, 135, 136, 137, 138, 139, 140, 141, 142, 143, 144, 145, 146, 147, 148, 149, 150, 151, 152, 153, 154, 155, 156, 157, 158, 159, 160, 161, 162, 163, 164, 165, 166, 167, 168, 169, 170] rfl (by decide +kernel)) (goodIn_sub (fun _ h => List.mem_cons_of_mem _ (List.mem_append_right _ h)) (by decide +kernel))
set_option maxRecDepth 20000 in
theorem gL_heavyAt_X4_heavyAt : GoodIn wsL_heavyAt (wsV RL 22 RX4 yX4_heavyAt wsX4_heavyAt) := goodIn_app (goodIn_r _ [2, 3, 4, 5] rfl (by decide +kernel)) ggL_heavyAt_X4_heavyAt
def dt_cL_heavyAt_0 : List (Nat × Nat × Nat × Nat) := [(0, 25, 1, 7), (2, 3, 0, 0), (3, 42, 0, 0), (4, 27, 0, 0), (5, 28, 0, 0), (6, 29, 0, 0), (7, 21, 1, 4), (9, 21, 1, 5), (11, 21, 1, 6), (13, 182, 2, 22), (16, 133, 0, 0), (17, 80, 0, 0), (18, 167, 2, 7), (21, 58, 1, 8), (23, 4, 0, 0), (24, 172, 0, 0), (25, 3, 0, 0), (26, 172, 0, 0)]
theorem da_cL_heavyAt_0 : fw dt_cL_heavyAt_0 0 cL_heavyAt.data.toList = true := by decide +kernel
theorem dL_heavyAt_0 : decode cL_heavyAt 0 = .ok (.aload 7, 2) := fo_25 (fw_get da_cL_heavyAt_0 0 rfl)
theorem dL_heavyAt_2 : decode cL_heavyAt 2 = .ok (.iconst 0, 1) := fo_3 (fw_get da_cL_heavyAt_0 1 rfl)
theorem dL_heavyAt_3 : decode cL_heavyAt 3 = .ok (.aload_n 0, 1) := fo_42 (fw_get da_cL_heavyAt_0 2 rfl)
theorem dL_heavyAt_4 : decode cL_heavyAt 4 = .ok (.iload_n 1, 1) := fo_27 (fw_get da_cL_heavyAt_0 3 rfl)
theorem dL_heavyAt_5 : decode cL_heavyAt 5 = .ok (.iload_n 2, 1) := fo_28 (fw_get da_cL_heavyAt_0 4 rfl)
theorem dL_heavyAt_6 : decode cL_heavyAt 6 = .ok (.iload_n 3, 1) := fo_29 (fw_get da_cL_heavyAt_0 5 rfl)
theorem dL_heavyAt_7 : decode cL_heavyAt 7 = .ok (.iload 4, 2) := fo_21 (fw_get da_cL_heavyAt_0 6 rfl)
theorem dL_heavyAt_9 : decode cL_heavyAt 9 = .ok (.iload 5, 2) := fo_21 (fw_get da_cL_heavyAt_0 7 rfl)
theorem dL_heavyAt_11 : decode cL_heavyAt 11 = .ok (.iload 6, 2) := fo_21 (fw_get da_cL_heavyAt_0 8 rfl)
theorem dL_heavyAt_13 : decode cL_heavyAt 13 = .ok (.invokevirtual 22, 3) := fo_182 (fw_get da_cL_heavyAt_0 9 rfl)
theorem dL_heavyAt_16 : decode cL_heavyAt 16 = .ok (.i2l, 1) := fo_133 (fw_get da_cL_heavyAt_0 10 rfl)
theorem dL_heavyAt_17 : decode cL_heavyAt 17 = .ok (.lastore, 1) := fo_80 (fw_get da_cL_heavyAt_0 11 rfl)
theorem dL_heavyAt_18 : decode cL_heavyAt 18 = .ok (.goto 7, 3) := fo_167 (fw_get da_cL_heavyAt_0 12 rfl) (by decide +kernel)
theorem dL_heavyAt_21 : decode cL_heavyAt 21 = .ok (.astore 8, 2) := fo_58 (fw_get da_cL_heavyAt_0 13 rfl)
theorem dL_heavyAt_23 : decode cL_heavyAt 23 = .ok (.iconst 1, 1) := fo_4 (fw_get da_cL_heavyAt_0 14 rfl)
theorem dL_heavyAt_24 : decode cL_heavyAt 24 = .ok (.ireturn, 1) := fo_172 (fw_get da_cL_heavyAt_0 15 rfl)
theorem dL_heavyAt_25 : decode cL_heavyAt 25 = .ok (.iconst 0, 1) := fo_3 (fw_get da_cL_heavyAt_0 16 rfl)
theorem dL_heavyAt_26 : decode cL_heavyAt 26 = .ok (.ireturn, 1) := fo_172 (fw_get da_cL_heavyAt_0 17 rfl)


set_option maxHeartbeats 4000000 in
set_option maxRecDepth 100000 in
theorem c_L_at (l : Launch) (hl0 : l.stackTraces = false) (dC : Nat → ClassId) (dI : Nat → Nat → Nat) (m_ : Nat) (q_row : Nat) (q_t : Nat) (t_ : Nat) (h0 : Nat) (k0 : Nat) (w_ : Nat) (z_ : Nat) (slots : Int32) (old : Int32) (q_cell : Nat) (cyI : ClassId) (len : Int32) (f : Nat → Int32) (p0 : Int32) (cyL : ClassId) (ho : Nat) (ol : Nat → Int64) (sz : Nat) (a0 : 0 ≤ len.toInt) (a1 : len.toInt ≤ 160) : Met l yL_at wsL_at ({ frames := 9, cells := 1, slots := 6, locals := 405 }) (va_Pc [.ref m_, .int p0, .ref ho] (fun U => U.heap.size = sz ∧ va_P (dC, dI) vwCl [kx_4 m_ q_row q_t t_ h0 k0 w_ z_ slots old, kx_0 q_row q_cell len, kx_a q_cell cyI 160 f, (ho, .inl (cyL, 1, .inr (.inl ol)))] U.heap ∧ va_K (dC, dI) vwCl [(cyI, .int), (cyL, .long)] U ∧ va_D (fun _ => True) [kx_4 m_ q_row q_t t_ h0 k0 w_ z_ slots old, kx_0 q_row q_cell len, kx_a q_cell cyI 160 f, (ho, .inl (cyL, 1, .inr (.inl ol)))] ∧ ki_ThA (va_A [kx_4 m_ q_row q_t t_ h0 k0 w_ z_ slots old, kx_0 q_row q_cell len, kx_a q_cell cyI 160 f, (ho, .inl (cyL, 1, .inr (.inl ol)))] sz) U)) (va_Qi (fun (r : Int32) (u : (Nat → Int64) × Int32) => ((r = 0 ∧ (0 ≤ p0.toInt ∧ p0.toInt < len.toInt ∧ u.2 = f p0.toNatClampNeg) ∧ u.1 = vp_updL ol (0 : Int32).toNatClampNeg u.2.toInt64) ∨ (r = 1 ∧ ((p0.toInt < 0 ∨ len.toInt ≤ p0.toInt))))) (fun (u : (Nat → Int64) × Int32) (t : State) => va_P (dC, dI) vwCl [kx_4 m_ q_row q_t t_ h0 k0 w_ z_ slots old, kx_0 q_row q_cell len, kx_a q_cell cyI 160 f, (ho, .inl (cyL, 1, .inr (.inl u.1)))] t.heap ∧ va_K (dC, dI) vwCl [(cyI, .int), (cyL, .long)] t ∧ va_D (va_A [kx_4 m_ q_row q_t t_ h0 k0 w_ z_ slots old, kx_0 q_row q_cell len, kx_a q_cell cyI 160 f, (ho, .inl (cyL, 1, .inr (.inl ol)))] sz) [kx_4 m_ q_row q_t t_ h0 k0 w_ z_ slots old, kx_0 q_row q_cell len, kx_a q_cell cyI 160 f, (ho, .inl (cyL, 1, .inr (.inl u.1)))]) (va_A [kx_4 m_ q_row q_t t_ h0 k0 w_ z_ slots old, kx_0 q_row q_cell len, kx_a q_cell cyI 160 f, (ho, .inl (cyL, 1, .inr (.inl ol)))] sz)) 1 6 (va_A [kx_4 m_ q_row q_t t_ h0 k0 w_ z_ slots old, kx_0 q_row q_cell len, kx_a q_cell cyI 160 f, (ho, .inl (cyL, 1, .inr (.inl ol)))] sz) := by
  refine va_MetW (cc := cL_at) (maxL := 4) (ret := (some .int)) (hh := [(0, 9, 12, 13)]) (by decide) rfl ?_
  intro p e s m args below meth c s₁ B hml hv
  obtain ⟨rfl, hsz, hP, hK, hD0, hth⟩ := hv
  have hx := B.exec
  have hb := B.bytes
  have hr := B.returns
  have hts := atoms_spec (ws := wsL_at) B.pre
  have hown : s.vm.findClass RL = some m.cls := findClass_of_methodNamed B.named
  have hlocks := B.notSynchronized
  have htb : c.exceptionTable.toList = tableOf [(0, 9, 12, 13)] := vx_table (x := yL_at) B (hts (.codeWith yL_at cL_at 4 (some .int) [(0, 9, 12, 13)]) List.mem_cons_self)
  subst hsz
  have hD := hD0.self (sz := s.heap.size)
  generalize hAe : va_A [kx_4 m_ q_row q_t t_ h0 k0 w_ z_ slots old, kx_0 q_row q_cell len, kx_a q_cell cyI 160 f, (ho, .inl (cyL, 1, .inr (.inl ol)))] s.heap.size = A at hD hth ⊢
  have hA : ∀ q : Nat, s.heap.size ≤ q → A q := fun q h => by rw [← hAe]; exact Or.inr h
  have hS : va_S A s.heap s.heap [] := va_S.rf
  have hP : va_P (dC, dI) vwCl [kx_4 m_ q_row q_t t_ h0 k0 w_ z_ slots old, kx_0 q_row q_cell len, kx_a q_cell cyI 160 f, (ho, .inl (cyL, 1, .inr (.inl ol)))] s.heap := hP
  have hl := lv_entry ([.ref m_, .int p0, .ref ho]) (n := 4) (Nat.le_of_ble_eq_true rfl)
  rw [lg_entry_eq]
  generalize (lg_sl ([.ref m_, .int p0, .ref ho]) ++ List.replicate (4 - (lg_sl ([.ref m_, .int p0, .ref ho])).length) Slot.unset).toArray = ls at hl ⊢
  have hl : lv_has ls 4 [(0, .ref m_), (1, .int p0), (2, .ref ho)] := hl
  refine lv_aload_n hx hb dL_at_0 rfl (lv_at hl 2 rfl) ?_
  refine lv_iconst (v := 0) hx hb dL_at_1 (by decide) ?_
  refine lv_aload_n hx hb dL_at_2 rfl (lv_at hl 0 rfl) ?_
  refine lv_iload_n hx hb dL_at_3 rfl (lv_at hl 1 rfl) ?_
  have hPc := hP.sub (ws' := [kx_4 m_ q_row q_t t_ h0 k0 w_ z_ slots old, kx_0 q_row q_cell len, kx_a q_cell cyI 160 f]) [0, 1, 2] rfl
  have hKc := hK.sub (tys' := [(cyI, .int)]) [0] rfl
  have hDc := hD.sub (ws' := [kx_4 m_ q_row q_t t_ h0 k0 w_ z_ slots old, kx_0 q_row q_cell len, kx_a q_cell cyI 160 f]) [0, 1, 2] (by decide) rfl
  have hFc := va_free (wc := [kx_4 m_ q_row q_t t_ h0 k0 w_ z_ slots old, kx_0 q_row q_cell len, kx_a q_cell cyI 160 f]) hD hS hA [0, 1, 2] rfl
  refine vx_calli (vx_runV (As := [.int p0]) (rest := [.int 0, .ref ho]) ⟨hx, hb, hml, hown, hts⟩ (c_X4_at l hl0 dC dI m_ q_row q_t t_ h0 k0 w_ z_ slots old q_cell cyI len f p0 s.heap.size a0 a1) (cwV 1 hts gL_at_X4_at rfl rfl rfl (by decide +kernel) ⟨Nat.le_of_ble_eq_true rfl, Nat.le_of_ble_eq_true rfl⟩) ⟨fun a U g mk q => by obtain ⟨q0, q1, qP, qK, qD, qT⟩ := q; exact ⟨q0, q1, qP, va_K.moved (u := U) (U := U.calling g mk a) (Vm.Alike.refl U.vm) qK, qD, qT.call g mk a⟩, kx_rc4 hKc hPc (q0 := 0) rfl, fun U hU hW => ⟨rfl, by rw [hU], by rw [hU]; exact hPc, va_K.moved hW.alike hKc, hDc.weaken (fun _ _ _ _ => trivial), hth.from hS hU hW hFc⟩⟩ rfl rfl hl.1 rfl (lv_room (Nat.le_of_ble_eq_true rfl)) dL_at_4 ⟨Nat.le_of_ble_eq_true rfl, Nat.le_of_ble_eq_true rfl⟩) hS (fun q _ h => hFc q h) hFc (fun q _ h => hFc q h) (fun E ce q9 u t H1 locs ht hvm w_1 hB hz1 hk1 hS hce hcv hcl => ?_) (fun r_1 u t H1 locs ht hvm w_1 hB hz1 hk1 hS => ?_)
  · obtain ⟨hE, hP1, hK1, hD1⟩ := hB
    subst hE
    rw [ht] at hP1
    have hK1 := va_K.moved hvm.symm hK1
    obtain ⟨hP, hD⟩ := va_join (wr := [(ho, .inl (cyL, 1, .inr (.inl ol)))]) (w1 := [kx_4 m_ q_row q_t t_ h0 k0 w_ z_ slots old, kx_0 q_row q_cell len, kx_a q_cell cyI 160 f]) hP hD [0, 1, 2] [3] rfl rfl (by decide) (by decide) hk1 hFc hP1 hD1
    clear hP1 hD1 hK1 hk1 hz1 hFc hDc hPc hKc
    generalize H1 = H at hP hS hce ⊢
    obtain ⟨hP, hD⟩ := kx_re (w2 := [(ho, .inl (cyL, 1, .inr (.inl ol))), kx_4 m_ q_row q_t t_ h0 k0 w_ z_ slots old, kx_0 q_row q_cell len, kx_a q_cell cyI 160 f]) hP hD rfl
    refine vx_catch hown [] ⟨0, 9, 12, 13⟩ [] htb (fun z hz => by cases hz) (by decide) (by decide) (hts (.classLink RL 13 EXN) (by decide +kernel)) (va_Nw.use rfl hth.1.1) hce hcv hcl ?_
    refine W.eq (g2 := F0 m 12 ls [.ref q9]) rfl ?_
    have w_1 : (p0.toInt < 0 ∨ len.toInt ≤ p0.toInt) := w_1
    refine W.widen (k := 1) (n := 6) (Nat.le_of_ble_eq_true rfl) (Nat.le_of_ble_eq_true rfl) ?_
    refine lv_astore_n (lv' := [(3, .ref q9), (0, .ref m_), (1, .int p0), (2, .ref ho)]) hx hb dL_at_12 rfl hl (by decide) rfl (fun ls hl => ?_)
    refine lv_iconst (v := 1) hx hb dL_at_13 (by decide) ?_
    obtain ⟨hP9, hD9⟩ := kx_sub (w2 := [kx_4 m_ q_row q_t t_ h0 k0 w_ z_ slots old, kx_0 q_row q_cell len, kx_a q_cell cyI 160 f, (ho, .inl (cyL, 1, .inr (.inl ol)))]) hP hD [1, 2, 3, 0] (by decide) rfl
    have hK9 := hK
    exact W.iret (v := 1) hx hb hr (hlocks := hlocks) (fun t ht hW => ⟨⟨1, (ol, (0 : Int32)), rfl, (Or.inr ⟨rfl, w_1⟩), by rw [ht]; exact hP9, va_K.moved hW.alike hK9, hD9⟩, hS.F ht⟩) hS.2.2 dL_at_14
  · obtain ⟨hP1, hK1, hD1⟩ := hB
    rw [ht] at hP1
    have hK1 := va_K.moved hvm.symm hK1
    obtain ⟨hP, hD⟩ := va_join (wr := [(ho, .inl (cyL, 1, .inr (.inl ol)))]) (w1 := [kx_4 m_ q_row q_t t_ h0 k0 w_ z_ slots old, kx_0 q_row q_cell len, kx_a q_cell cyI 160 f]) hP hD [0, 1, 2] [3] rfl rfl (by decide) (by decide) hk1 hFc hP1 hD1
    clear hP1 hD1 hK1 hk1 hz1 hFc hDc hPc hKc
    generalize H1 = H at hP hS ⊢
    obtain ⟨hP, hD⟩ := kx_re (w2 := [(ho, .inl (cyL, 1, .inr (.inl ol))), kx_4 m_ q_row q_t t_ h0 k0 w_ z_ slots old, kx_0 q_row q_cell len, kx_a q_cell cyI 160 f]) hP hD rfl
    have w_1 : 0 ≤ p0.toInt ∧ p0.toInt < len.toInt ∧ r_1 = f p0.toNatClampNeg := w_1
    refine W.widen (k := 1) (n := 6) (Nat.le_of_ble_eq_true rfl) (Nat.le_of_ble_eq_true rfl) ?_
    refine lv_i2l hx hb dL_at_7 rfl ?_
    refine va_last hx hb hK hP hD hS 0 1 rfl rfl (ki_inl (by decide)) dL_at_8 (fun H locs hP hD hS => ?_)
    obtain ⟨hP, hD⟩ := kx_re (w2 := [(ho, .inl (cyL, 1, .inr (.inl (vp_updL ol (0 : Int32).toNatClampNeg r_1.toInt64)))), kx_4 m_ q_row q_t t_ h0 k0 w_ z_ slots old, kx_0 q_row q_cell len, kx_a q_cell cyI 160 f]) hP hD rfl
    refine lv_goto (tgt := 15) hx hb dL_at_9 (by decide) ?_
    refine lv_iconst (v := 0) hx hb dL_at_15 (by decide) ?_
    obtain ⟨hP9, hD9⟩ := kx_sub (w2 := [kx_4 m_ q_row q_t t_ h0 k0 w_ z_ slots old, kx_0 q_row q_cell len, kx_a q_cell cyI 160 f, (ho, .inl (cyL, 1, .inr (.inl (vp_updL ol (0 : Int32).toNatClampNeg r_1.toInt64))))]) hP hD [1, 2, 3, 0] (by decide) rfl
    have hK9 := hK
    exact W.iret (v := 0) hx hb hr (hlocks := hlocks) (fun t ht hW => ⟨⟨0, ((vp_updL ol (0 : Int32).toNatClampNeg r_1.toInt64), r_1), rfl, (Or.inl ⟨rfl, w_1, rfl⟩), by rw [ht]; exact hP9, va_K.moved hW.alike hK9, hD9⟩, hS.F ht⟩) hS.2.2 dL_at_16



theorem cnt_hit1 {f : Nat → Int32} {v : Int32} {l k k2 : Nat} (e : f (l + k) = v) (h : k2 = k + 1) : cnt f v l k2 = cnt f v l k + 1 := by
  subst h
  simp only [cnt]
  rw [if_pos e]
theorem cnt_miss1 {f : Nat → Int32} {v : Int32} {l k k2 : Nat} (e : ¬ f (l + k) = v) (h : k2 = k + 1) : cnt f v l k2 = cnt f v l k := by
  subst h
  simp only [cnt]
  rw [if_neg e]
  omega
def mj_first (P : Nat → Prop) (lo hi : Nat) (none x : Int) : Prop := (∃ m : Nat, lo ≤ m ∧ m < hi ∧ P m ∧ x = (m : Int) ∧ ∀ k : Nat, lo ≤ k → k < m → ¬ P k) ∨ (x = none ∧ ∀ k : Nat, lo ≤ k → k < hi → ¬ P k)


set_option maxHeartbeats 4000000 in
set_option maxRecDepth 100000 in
theorem c_X4_isHeavy_x (l : Launch) (dC : Nat → ClassId) (dI : Nat → Nat → Nat) (p0 : Int32) (p1 : Int32) (p2 : Int32) (p3 : Int32) (b0 : 0 ≤ p0.toInt) (b1 : p0.toInt ≤ 320) (b2 : 0 ≤ p1.toInt) (b3 : p1.toInt ≤ 320) (b4 : 0 ≤ p2.toInt) (b5 : p2.toInt ≤ 999) (b6 : 0 ≤ p3.toInt) (b7 : p3.toInt ≤ 999) : Met l yX4_isHeavy wsX4_isHeavy ({ frames := 0, cells := 0, slots := 0, locals := 0 }) (va_Pc [.int p0, .int p1, .int p2, .int p3] (fun U => va_P (dC, dI) vwCl [] U.heap ∧ va_K (dC, dI) vwCl [] U)) (vp_Si (fun r : Int32 => (r = 1 ∧ p2.toInt * p1.toInt < p0.toInt * p3.toInt) ∨ (r = 0 ∧ p0.toInt * p3.toInt ≤ p2.toInt * p1.toInt))) 0 0 (fun _ => False) := by
  refine kx_stS (ws := wsX4_isHeavy) (cc := cX4_isHeavy) (maxL := 4) (ret := (some .boolean)) (by decide) rfl (Nat.le_of_ble_eq_true rfl) ?_
  intro p e s m below meth c ls hx hb hr hlocks hts hown hml hP hK hl
  have hown : s.vm.findClass RX4 = some m.cls := hown
  have hl : lv_has ls 4 [(0, .int p0), (1, .int p1), (2, .int p2), (3, .int p3)] := hl
  refine lv_iload_n hx hb dX4_isHeavy_0 rfl (lv_at hl 0 rfl) ?_
  refine lv_iload_n hx hb dX4_isHeavy_1 rfl (lv_at hl 3 rfl) ?_
  refine lv_imul hx hb dX4_isHeavy_2 ?_
  refine lv_topi (fun y_1 ey_1 => ?_)
  refine lv_iload_n hx hb dX4_isHeavy_3 rfl (lv_at hl 2 rfl) ?_
  refine lv_iload_n hx hb dX4_isHeavy_4 rfl (lv_at hl 1 rfl) ?_
  refine lv_imul hx hb dX4_isHeavy_5 ?_
  refine lv_topi (fun y_2 ey_2 => ?_)
  have h1 := ki_mulb (a := p0.toInt) (b := p3.toInt) (A := 320) (B := 999) (by omega) (by omega) (by omega) (by omega)
  have h2 := ki_mulb (a := p2.toInt) (b := p1.toInt) (A := 999) (B := 320) (by omega) (by omega) (by omega) (by omega)
  have m1 : y_1.toInt = p0.toInt * p3.toInt := ki_mul ey_1 rfl rfl (by omega) (by omega)
  have m2 : y_2.toInt = p2.toInt * p1.toInt := ki_mul ey_2 rfl rfl (by omega) (by omega)
  refine lv_icmp_le (tgt := 13) hx hb dX4_isHeavy_6 (by decide) (fun c_3 => ?_) (fun c_3 => ?_)
  · have i_3 : y_1.toInt ≤ y_2.toInt := kc_le c_3
    refine lv_iconst (v := 0) hx hb dX4_isHeavy_13 (by decide) ?_
    exact W.zret (v := 0) hx hb hr (by decide) (hlocks := hlocks) (fun t ht hW => ⟨0, rfl, Or.inr (⟨rfl, by omega⟩), ht⟩) (fun q hq => by cases hq) dX4_isHeavy_14
  · have i_3 : y_2.toInt < y_1.toInt := kc_nle c_3
    refine lv_iconst (v := 1) hx hb dX4_isHeavy_9 (by decide) ?_
    refine lv_goto (tgt := 14) hx hb dX4_isHeavy_10 (by decide) ?_
    exact W.zret (v := 1) hx hb hr (by decide) (hlocks := hlocks) (fun t ht hW => ⟨1, rfl, Or.inl ⟨rfl, by omega⟩, ht⟩) (fun q hq => by cases hq) dX4_isHeavy_14



/-! the class's votes -/
theorem mj_lea_sw {V N : Nat → Int32} {i k x y : Nat} : mj_lea (mj_ex V i k) (mj_ex N i k) x y ↔ mj_lea V N (mj_sw i k x) (mj_sw i k y) := by
  unfold mj_lea
  simp only [mj_ex_sw]
/-- in order up to i but for j, which is ahead of all behind it -/
def mj_in (V N : Nat → Int32) (i j : Nat) : Prop := (∀ x y : Nat, x < y → y ≤ i → ¬ x = j → ¬ y = j → mj_lea V N x y) ∧ (∀ y : Nat, j < y → y ≤ i → mj_lea V N j y)
theorem mj_in_new {V N : Nat → Int32} {i j : Nat} (h : mj_srt V N 0 i) (e : j = i) : mj_in V N i j := by
  subst e
  refine ⟨fun x y h1 h2 h3 h4 => ?_, fun y h1 h2 => by omega⟩
  have := h x y h1 (by omega)
  rw [Nat.zero_add, Nat.zero_add] at this
  exact this
theorem mj_in_swap {V N : Nat → Int32} {i j k : Nat} (h : mj_in V N i j) (ek : j = k + 1) (hj : j ≤ i) (hl : mj_lea V N j k) : mj_in (mj_ex V j k) (mj_ex N j k) i k := by
  subst ek
  have sj : mj_sw (k + 1) k (k + 1) = k := by unfold mj_sw; rw [if_pos rfl]
  have sk : mj_sw (k + 1) k k = k + 1 := by unfold mj_sw; rw [if_neg (by omega), if_pos rfl]
  have so : ∀ y : Nat, ¬ y = k + 1 → ¬ y = k → mj_sw (k + 1) k y = y := fun y h1 h2 => by unfold mj_sw; rw [if_neg h1, if_neg h2]
  refine ⟨fun x y h1 h2 h3 h4 => mj_lea_sw.mpr ?_, fun y h1 h2 => mj_lea_sw.mpr ?_⟩
  · by_cases hx : x = k + 1
    · subst hx
      rw [sj, so y (by omega) (by omega)]
      exact h.1 k y (by omega) h2 (by omega) (by omega)
    · by_cases hy : y = k + 1
      · subst hy
        rw [sj, so x (by omega) (by omega)]
        exact h.1 x k (by omega) (by omega) (by omega) (by omega)
      · rw [so x hx h3, so y hy h4]
        exact h.1 x y h1 h2 hx hy
  · rw [sk]
    by_cases hy : y = k + 1
    · subst hy; rw [sj]; exact hl
    · rw [so y hy (by omega)]
      exact h.2 y (by omega) h2
theorem mj_in_end {V N : Nat → Int32} {i j i2 : Nat} (h : mj_in V N i j) (hj : j ≤ i) (hl : j = 0 ∨ mj_lea V N (j - 1) j) (e : i2 = i + 1) : mj_srt V N 0 i2 := by
  subst e
  intro x y hxy hy
  rw [Nat.zero_add, Nat.zero_add]
  by_cases hx : x = j
  · subst hx; exact h.2 y hxy (by omega)
  · by_cases hyj : y = j
    · subst hyj
      rcases hl with hl | hl
      · omega
      · by_cases hx1 : x = y - 1
        · rw [hx1]; exact hl
        · exact mj_lea_trans (h.1 x (y - 1) (by omega) (by omega) hx (by omega)) hl
    · exact h.1 x y hxy (by omega) hx hyj
theorem mj_srt_1 (V N : Nat → Int32) {m : Nat} (h : m ≤ 1) : mj_srt V N 0 m := fun i j hij hj => by omega
/-- cancelled up to k: the first lf are left -/
def mj_wc (K : Nat) (N : Nat → Int32) (c : Int) (lf k : Nat) (wn : Nat → Int32) : Prop := lf ≤ k ∧ lf ≤ K ∧ (∀ j : Nat, j < k → (wn j).toInt = (N j).toInt - c) ∧ (∀ j : Nat, j < lf → c < (N j).toInt) ∧ (∀ j : Nat, lf ≤ j → j < k → (N j).toInt ≤ c) ∧ (∀ j : Nat, k ≤ j → wn j = N j)
theorem mj_wc_0 (K : Nat) (N : Nat → Int32) (c : Int) {lf k : Nat} (h1 : lf = 0) (h2 : k = 0) : mj_wc K N c lf k N := by
  subst h1; subst h2
  exact ⟨Nat.le_refl 0, Nat.zero_le K, fun j h => absurd h (Nat.not_lt_zero j), fun j h => absurd h (Nat.not_lt_zero j), fun j _ h => absurd h (Nat.not_lt_zero j), fun j _ => rfl⟩
theorem mj_wc_step {K : Nat} {V N wn : Nat → Int32} {c : Int} {lf k k2 lf2 m : Nat} {x : Int32} (h : mj_wc K N c lf k wn) (hs : mj_srt V N 0 m) (hkm : k < m) (ex : x.toInt = (N k).toInt - c) (hK : K < m → c = (N K).toInt) (e2 : k2 = k + 1) (hl : (c < (N k).toInt ∧ lf2 = lf + 1) ∨ ((N k).toInt ≤ c ∧ lf2 = lf)) : mj_wc K N c lf2 k2 (upd wn k x) := by
  obtain ⟨h1, h2, h3, h4, h5, h6⟩ := h
  subst e2
  have w1 : ∀ j : Nat, j < k + 1 → (upd wn k x j).toInt = (N j).toInt - c := fun j hj => by
    by_cases e : j = k
    · subst e; rw [upd_at]; exact ex
    · rw [upd_ne e]; exact h3 j (by omega)
  have w2 : ∀ j : Nat, k + 1 ≤ j → upd wn k x j = N j := fun j hj => by rw [upd_ne (by omega)]; exact h6 j (by omega)
  rcases hl with ⟨hc, rfl⟩ | ⟨hc, rfl⟩
  · have hlk : lf = k := by
      rcases Nat.lt_or_eq_of_le h1 with h9 | h9
      · have a := h5 lf (Nat.le_refl lf) h9
        have b := hs lf k h9 hkm
        unfold mj_lea at b
        simp only [Nat.zero_add] at b
        omega
      · exact h9
    have hkK : k < K := by
      rcases Nat.lt_or_ge k K with h9 | h9
      · exact h9
      · rcases Nat.lt_or_ge K m with h8 | h8
        · have a := hK h8
          rcases Nat.lt_or_eq_of_le h9 with h7 | h7
          · have b := hs K k h7 hkm
            unfold mj_lea at b
            simp only [Nat.zero_add] at b
            omega
          · subst h7; omega
        · omega
    subst hlk
    refine ⟨Nat.le_refl _, hkK, w1, fun j hj => ?_, fun j ha hb => by omega, w2⟩
    rcases Nat.lt_or_eq_of_le (Nat.le_of_lt_succ hj) with h9 | h9
    · exact h4 j h9
    · subst h9; exact hc
  · refine ⟨by omega, h2, w1, h4, fun j ha hb => ?_, w2⟩
    rcases Nat.lt_or_eq_of_le (Nat.le_of_lt_succ hb) with h9 | h9
    · exact h5 j ha h9
    · subst h9; exact hc
theorem mj_wc_end {K : Nat} {V N wn : Nat → Int32} {c : Int} {lf k m : Nat} {μ : Int32 → Int} (h : mj_wc K N c lf k wn) (hk : k = m) (hv : mj_vs V N 0 m μ) (hs : mj_srt V N 0 m) (hc : 0 ≤ c) : mj_vs V wn 0 lf (fun v => if c < μ v then μ v - c else 0) ∧ mj_srt V wn 0 lf := by
  obtain ⟨h1, h2, h3, h4, h5, h6⟩ := h
  refine mj_wr_end (K := K) (vv := V) (vn := wn) ⟨h1, h2, fun j hj => ?_, h5, fun q _ => ⟨rfl, rfl⟩⟩ hk hv hs hc
  rw [Nat.zero_add]
  exact ⟨rfl, h3 j (by omega), h4 j hj⟩
/-- one summary cancelled by slots K -/
def mj_can (K : Nat) (ν μ : Int32 → Int) (c : Int32) : Prop := ∃ (V N : Nat → Int32) (m : Nat), mj_vs V N 0 m ν ∧ mj_srt V N 0 m ∧ ((m ≤ K ∧ c.toInt = 0) ∨ (K < m ∧ c = N K)) ∧ ∀ v, μ v = if c.toInt < ν v then ν v - c.toInt else 0
theorem mj_can_tog {K : Nat} {ν μa μb μ : Int32 → Int} {c : Int32} (h : mj_can K ν μ c) (e : ∀ v, ν v = μa v + μb v) : mj_tog K μa μb μ c := by
  obtain ⟨V, N, m, h1, h2, h3, h4⟩ := h
  exact ⟨V, N, m, mj_vs_congr h1 e, h2, h3, fun v => by rw [h4 v, e v]⟩
/-! uniqueness -/
theorem mj_vs_uni {V N V2 N2 : Nat → Int32} {o o2 m m2 : Nat} {μ : Int32 → Int} (h : mj_vs V N o m μ) (hs : mj_srt V N o m) (h2 : mj_vs V2 N2 o2 m2 μ) (hs2 : mj_srt V2 N2 o2 m2) : ∀ j : Nat, j < m → j < m2 ∧ V (o + j) = V2 (o2 + j) := by
  intro j
  induction j using Nat.strongRecOn with
  | _ j ih =>
    intro hj
    have hp := h.1 j hj
    obtain ⟨i, hi, ei⟩ := h2.2.2 (V (o + j)) (by omega)
    have hij : j ≤ i := by
      rcases Nat.lt_or_ge i j with h9 | h9
      · have := (ih i h9 (by omega)).2
        have := h.2.1 i j (by omega) hj (this.trans ei)
        omega
      · exact h9
    rcases Nat.lt_or_eq_of_le hij with h9 | h9
    · exfalso
      have hj2 : j < m2 := by omega
      have hp2 := h2.1 j hj2
      obtain ⟨k, hk, ek⟩ := h.2.2 (V2 (o2 + j)) (by omega)
      have hjk : j < k := by
        rcases Nat.lt_trichotomy k j with h8 | h8 | h8
        · have := (ih k h8 hk).2
          have := h2.2.1 k j (by omega) hj2 (this.symm.trans ek)
          omega
        · subst h8
          have := h2.2.1 k i (by omega) hi (ek.symm.trans ei.symm)
          omega
        · exact h8
      have a := hs j k hjk hk
      have b := hs2 j i h9 hi
      have pk := h.1 k hk
      have pi := h2.1 i hi
      unfold mj_lea at a b
      rw [ek] at a pk
      rw [ei] at b pi
      rcases a with a | ⟨a1, a2⟩
      · rcases b with b | ⟨b1, b2⟩
        · omega
        · omega
      · rcases b with b | ⟨b1, b2⟩
        · omega
        · have e9 : V (o + j) = V2 (o2 + j) := Int32.toInt_inj.mp (by omega)
          have := h2.2.1 j i hj2 hi (e9.symm.trans ei.symm)
          omega
    · subst h9
      exact ⟨hi, ei.symm⟩
theorem mj_vs_size {V N V2 N2 : Nat → Int32} {o o2 m m2 : Nat} {μ : Int32 → Int} (h : mj_vs V N o m μ) (hs : mj_srt V N o m) (h2 : mj_vs V2 N2 o2 m2 μ) (hs2 : mj_srt V2 N2 o2 m2) : m = m2 ∧ ∀ j : Nat, j < m → V (o + j) = V2 (o2 + j) ∧ N (o + j) = N2 (o2 + j) := by
  have a := mj_vs_uni h hs h2 hs2
  have b := mj_vs_uni h2 hs2 h hs
  have e : m = m2 := by
    rcases Nat.lt_trichotomy m m2 with h9 | h9 | h9
    · have := (b m h9).1; omega
    · exact h9
    · have := (a m2 h9).1; omega
  refine ⟨e, fun j hj => ?_⟩
  have x := a j hj
  refine ⟨x.2, Int32.toInt_inj.mp ?_⟩
  rw [(h.1 j hj).1, (h2.1 j x.1).1, x.2]
/-! the class's tree -/
def mj_ok (K : Nat) (f ff ft fs fo fe uv un : Nat → Int32) (k : Nat) : Prop := ∃ (d : Nat) (μ : Int32 → Int) (L c : Int32), mj_T K f ff ft fs fo fe uv un d k (ff k).toNatClampNeg (ft k).toNatClampNeg μ L c
def mj_mid (ff ft : Nat → Int32) (k : Nat) : Nat := ((ff k).toNatClampNeg + (ft k).toNatClampNeg) / 2
def mj_ch (K : Nat) (f ff ft fs fo fe uv un : Nat → Int32) (k : Nat) : Prop := (ft k).toInt - (ff k).toInt = 1 ∨ (2 ≤ (ft k).toInt - (ff k).toInt ∧ ∃ (d : Nat) (μa : Int32 → Int) (La ca : Int32) (μb : Int32 → Int) (Lb cb : Int32), mj_T K f ff ft fs fo fe uv un d (k + 1) (ff k).toNatClampNeg (mj_mid ff ft k) μa La ca ∧ mj_T K f ff ft fs fo fe uv un d (k + 2 * (mj_mid ff ft k - (ff k).toNatClampNeg)) (mj_mid ff ft k) (ft k).toNatClampNeg μb Lb cb)
def mj_jn (K : Nat) (f ff ft fs fo fe uv un : Nat → Int32) (k : Nat) (μ : Int32 → Int) (L c : Int32) : Prop := ((ft k).toInt - (ff k).toInt = 1 ∧ μ = mj_one (f (ff k).toNatClampNeg) ∧ L = 0 ∧ c = 0) ∨ (2 ≤ (ft k).toInt - (ff k).toInt ∧ ∃ (d : Nat) (μa : Int32 → Int) (La ca : Int32) (μb : Int32 → Int) (Lb cb : Int32), mj_T K f ff ft fs fo fe uv un d (k + 1) (ff k).toNatClampNeg (mj_mid ff ft k) μa La ca ∧ mj_T K f ff ft fs fo fe uv un d (k + 2 * (mj_mid ff ft k - (ff k).toNatClampNeg)) (mj_mid ff ft k) (ft k).toNatClampNeg μb Lb cb ∧ mj_tog K μa μb μ c ∧ L = La + Lb + c)
theorem mj_T_mono {K : Nat} {f nl nr fm fl fe vv vn : Nat → Int32} : ∀ (d a l r : Nat) (μ : Int32 → Int) (L c : Int32), mj_T K f nl nr fm fl fe vv vn d a l r μ L c → mj_T K f nl nr fm fl fe vv vn (d + 1) a l r μ L c
  | 0, a, l, r, μ, L, c, h => Or.inl h
  | d + 1, a, l, r, μ, L, c, h => by
    rcases h with h | ⟨h1, h2, μa, La, ca, μb, Lb, cb, ta, tb, h3, h4⟩
    · exact Or.inl h
    · exact Or.inr ⟨h1, h2, μa, La, ca, μb, Lb, cb, mj_T_mono d _ _ _ _ _ _ ta, mj_T_mono d _ _ _ _ _ _ tb, h3, h4⟩
theorem mj_T_up {K : Nat} {f nl nr fm fl fe vv vn : Nat → Int32} {a l r : Nat} {μ : Int32 → Int} {L c : Int32} {d : Nat} (h : mj_T K f nl nr fm fl fe vv vn d a l r μ L c) : ∀ n : Nat, mj_T K f nl nr fm fl fe vv vn (d + n) a l r μ L c
  | 0 => h
  | n + 1 => mj_T_mono _ _ _ _ _ _ _ (mj_T_up h n)
theorem mj_T_max {K : Nat} {f nl nr fm fl fe vv vn : Nat → Int32} {a l r : Nat} {μ : Int32 → Int} {L c : Int32} {d e : Nat} (h : mj_T K f nl nr fm fl fe vv vn d a l r μ L c) (hde : d ≤ e) : mj_T K f nl nr fm fl fe vv vn e a l r μ L c := by
  obtain ⟨n, rfl⟩ := Nat.le.dest hde
  exact mj_T_up h n
/-- the ranges below a node -/
def mj_cr (ff ft : Nat → Int32) (nd : Int) : Prop := ∀ k : Nat, (k : Int) < nd → 2 ≤ (ft k).toInt - (ff k).toInt → (ff (k + 1)).toNatClampNeg = (ff k).toNatClampNeg ∧ (ft (k + 1)).toNatClampNeg = mj_mid ff ft k ∧ (ff (k + 2 * (mj_mid ff ft k - (ff k).toNatClampNeg))).toNatClampNeg = mj_mid ff ft k ∧ (ft (k + 2 * (mj_mid ff ft k - (ff k).toNatClampNeg))).toNatClampNeg = (ft k).toNatClampNeg
theorem mj_ch_of {K : Nat} {f ff ft fs fo fe uv un : Nat → Int32} {nd n : Int} {k : Nat} (ht : treeOk ff ft nd n) (hc : mj_cr ff ft nd) (hk : (k : Int) < nd) (h : ∀ j : Nat, k < j → (j : Int) < nd → mj_ok K f ff ft fs fo fe uv un j) : mj_ch K f ff ft fs fo fe uv un k := by
  obtain ⟨a1, a2, a3, a4⟩ := ht k hk
  have n1 := ki_nat (ff k) rfl a1
  have n2 := ki_nat (ft k) rfl (by omega)
  by_cases hw : (ft k).toInt - (ff k).toInt = 1
  · exact Or.inl hw
  · obtain ⟨c1, c2, c3, c4⟩ := hc k hk (by omega)
    have hm : mj_mid ff ft k = ((ff k).toNatClampNeg + (ft k).toNatClampNeg) / 2 := rfl
    obtain ⟨d1, μa, La, ca, ta⟩ := h (k + 1) (by omega) (by omega)
    obtain ⟨d2, μb, Lb, cb, tb⟩ := h (k + 2 * (mj_mid ff ft k - (ff k).toNatClampNeg)) (by omega) (by omega)
    rw [c1, c2] at ta
    rw [c3, c4] at tb
    exact Or.inr ⟨by omega, d1 + d2, μa, La, ca, μb, Lb, cb, mj_T_max ta (by omega), mj_T_max tb (by omega)⟩
/-- a node's summary written -/
theorem mj_jn_ok {K : Nat} {f ff ft fs fo fe uv un fs2 fo2 fe2 uv2 un2 : Nat → Int32} {k : Nat} {μ : Int32 → Int} {js jl je : Int32} {jv jn : Nat → Int32} (h : mj_jn K f ff ft fs fo fe uv un k μ jl je) (h0 : 0 ≤ (ff k).toInt) (hw : (ff k).toInt < (ft k).toInt) (hv : mj_vs jv jn 0 js.toNatClampNeg μ) (hs : mj_srt jv jn 0 js.toNatClampNeg) (b0 : 0 ≤ js.toInt) (bK : js.toInt ≤ (K : Int)) (hK : K ≤ 6)
    (e1 : fs2 = upd fs k js) (e2 : fo2 = upd fo k jl) (e3 : fe2 = upd fe k je) (w1 : ∀ i : Nat, i < js.toNatClampNeg → uv2 (6 * k + i) = jv i ∧ un2 (6 * k + i) = jn i) (w2 : ∀ q : Nat, (q < 6 * k ∨ 6 * k + 6 ≤ q) → uv2 q = uv q ∧ un2 q = un q) : mj_ok K f ff ft fs2 fo2 fe2 uv2 un2 k := by
  subst e1; subst e2; subst e3
  have n1 := ki_nat (ff k) rfl h0
  have n2 := ki_nat (ft k) rfl (by omega)
  have n3 := ki_nat js rfl b0
  have nd : mj_nd K ff ft (upd fs k js) (upd fo k jl) (upd fe k je) uv2 un2 k (ff k).toNatClampNeg (ft k).toNatClampNeg μ jl je := by
    unfold mj_nd
    rw [upd_at, upd_at, upd_at]
    refine ⟨by omega, by omega, b0, by omega, bK, rfl, rfl, ?_, ?_⟩
    · refine ⟨fun j hj => ?_, fun i j hi hj q => ?_, fun v hv2 => ?_⟩
      · rw [(w1 j hj).1, (w1 j hj).2]
        have := hv.1 j hj
        rw [Nat.zero_add] at this
        exact this
      · rw [(w1 i hi).1, (w1 j hj).1] at q
        exact hv.2.1 i j hi hj (by rw [Nat.zero_add, Nat.zero_add]; exact q)
      · obtain ⟨j, hj, q⟩ := hv.2.2 v hv2
        rw [Nat.zero_add] at q
        exact ⟨j, hj, by rw [(w1 j hj).1]; exact q⟩
    · intro i j hij hj
      have := hs i j hij hj
      unfold mj_lea at this ⊢
      rw [Nat.zero_add, Nat.zero_add] at this
      rw [(w1 i (by omega)).1, (w1 i (by omega)).2, (w1 j hj).1, (w1 j hj).2]
      exact this
  have ag : ∀ a b : Nat, k < a → mj_ag a b ff ft fs fo fe uv un ff ft (upd fs k js) (upd fo k jl) (upd fe k je) uv2 un2 := fun a b hab =>
    ⟨fun q x y => by
      have : ¬ q = k := by omega
      rw [upd_ne this, upd_ne this, upd_ne this]
      exact ⟨rfl, rfl, rfl, rfl, rfl⟩, fun q x y => w2 q (by omega)⟩
  rcases h with ⟨q1, q2, q3, q4⟩ | ⟨q1, d, μa, La, ca, μb, Lb, cb, ta, tb, tg, q2⟩
  · exact ⟨0, μ, jl, je, by omega, q2, q3, q4, nd⟩
  · refine ⟨d + 1, μ, jl, je, Or.inr ⟨by omega, nd, μa, La, ca, μb, Lb, cb, ?_, ?_, tg, q2⟩⟩
    · exact mj_T_ag d _ _ _ _ _ _ _ ta (Nat.le_refl _) (ag _ _ (by omega))
    · have hm : mj_mid ff ft k = ((ff k).toNatClampNeg + (ft k).toNatClampNeg) / 2 := rfl
      exact mj_T_ag d _ _ _ _ _ _ _ tb (Nat.le_refl _) (ag _ _ (by omega))
theorem mj_ok_ag {K : Nat} {f ff ft fs fo fe uv un fs2 fo2 fe2 uv2 un2 : Nat → Int32} {k : Nat} (h : mj_ok K f ff ft fs fo fe uv un k) (ag : ∀ b : Nat, b ≤ k + 2 * ((ft k).toNatClampNeg - (ff k).toNatClampNeg) - 1 → mj_ag k b ff ft fs fo fe uv un ff ft fs2 fo2 fe2 uv2 un2) : mj_ok K f ff ft fs2 fo2 fe2 uv2 un2 k := by
  obtain ⟨d, μ, L, c, t⟩ := h
  exact ⟨d, μ, L, c, mj_T_ag d _ _ _ _ _ _ _ t (Nat.le_refl _) (ag _ (Nat.le_refl _))⟩
/-- the row changed elsewhere -/
theorem mj_T_row {K : Nat} {f f2 nl nr fm fl fe vv vn : Nat → Int32} : ∀ (d a l r : Nat) (μ : Int32 → Int) (L c : Int32), mj_T K f nl nr fm fl fe vv vn d a l r μ L c → (∀ p : Nat, l ≤ p → p < r → f2 p = f p) → mj_T K f2 nl nr fm fl fe vv vn d a l r μ L c
  | 0, a, l, r, μ, L, c, h, e => by
    obtain ⟨h1, h2, h3, h4, h5⟩ := h
    exact ⟨h1, by rw [e l (Nat.le_refl l) (by omega)]; exact h2, h3, h4, h5⟩
  | d + 1, a, l, r, μ, L, c, h, e => by
    rcases h with ⟨h1, h2, h3, h4, h5⟩ | ⟨h1, h2, μa, La, ca, μb, Lb, cb, ta, tb, h3, h4⟩
    · exact Or.inl ⟨h1, by rw [e l (Nat.le_refl l) (by omega)]; exact h2, h3, h4, h5⟩
    · exact Or.inr ⟨h1, h2, μa, La, ca, μb, Lb, cb, mj_T_row d _ _ _ _ _ _ ta (fun p a b => e p a (by omega)), mj_T_row d _ _ _ _ _ _ tb (fun p a b => e p (by omega) b), h3, h4⟩
def mj_kp (jv jn uv un wv wn : Nat → Int32) (k n : Nat) : Prop := (∀ i : Nat, i < n → wv (6 * k + i) = jv i ∧ wn (6 * k + i) = jn i) ∧ (∀ q : Nat, (q < 6 * k ∨ 6 * k + 6 ≤ q) → wv q = uv q ∧ wn q = un q)
theorem mj_kp_0 (jv jn uv un : Nat → Int32) (k : Nat) {n : Nat} (h : n = 0) : mj_kp jv jn uv un uv un k n := ⟨fun i hi => absurd hi (by omega), fun q _ => ⟨rfl, rfl⟩⟩
theorem mj_kp_step {jv jn uv un wv wn : Nat → Int32} {k n n2 q1 q2 : Nat} {x y : Int32} (h : mj_kp jv jn uv un wv wn k n) (hn : n < 6) (e1 : q1 = 6 * k + n) (e2 : q2 = 6 * k + n) (ex : x = jv n) (ey : y = jn n) (e : n2 = n + 1) : mj_kp jv jn uv un (upd wv q1 x) (upd wn q2 y) k n2 := by
  subst e1; subst e2; subst ex; subst ey; subst e
  refine ⟨fun i hi => ?_, fun q hq => ?_⟩
  · by_cases e : i = n
    · subst e
      rw [upd_at, upd_at]
      exact ⟨rfl, rfl⟩
    · rw [upd_ne (by omega), upd_ne (by omega)]
      exact h.1 i (by omega)
  · rw [upd_ne (by omega), upd_ne (by omega)]
    exact h.2 q hq
def mj_sj (fs fo uv un : Nat → Int32) (k : Nat) (js jl : Int32) (jv jn : Nat → Int32) : Prop := fs k = js ∧ fo k = jl ∧ ∀ i : Nat, i < js.toNatClampNeg → uv (6 * k + i) = jv i ∧ un (6 * k + i) = jn i
def mj_hit (ff ft : Nat → Int32) (l r : Int) (k : Nat) : Prop := (ff k).toInt < r ∧ l < (ft k).toInt
def mj_e1 (fs fo fe uv un fs2 fo2 fe2 uv2 un2 : Nat → Int32) (k : Nat) : Prop := fs2 k = fs k ∧ fo2 k = fo k ∧ fe2 k = fe k ∧ ∀ q : Nat, 6 * k ≤ q → q < 6 * k + 6 → uv2 q = uv q ∧ un2 q = un q
/-- the nodes from b on are right, those before b and those not met are as they were -/
def mj_rn (K : Nat) (f ff ft fs fo fe uv un fs2 fo2 fe2 uv2 un2 : Nat → Int32) (l r nd : Int) (b : Nat) : Prop :=
  (∀ k : Nat, b ≤ k → (k : Int) < nd → mj_ok K f ff ft fs2 fo2 fe2 uv2 un2 k) ∧ (∀ k : Nat, (k : Int) < nd → (k < b ∨ ¬ mj_hit ff ft l r k) → mj_e1 fs fo fe uv un fs2 fo2 fe2 uv2 un2 k)
theorem mj_rn_0 (K : Nat) (f ff ft fs fo fe uv un : Nat → Int32) (l r : Int) {nd : Int} {b : Nat} (h : nd ≤ (b : Int)) : mj_rn K f ff ft fs fo fe uv un fs fo fe uv un l r nd b :=
  ⟨fun k h1 h2 => absurd h1 (by omega), fun k _ _ => ⟨rfl, rfl, rfl, fun q _ _ => ⟨rfl, rfl⟩⟩⟩
theorem mj_rn_skip {K : Nat} {f ff ft fs fo fe uv un fs2 fo2 fe2 uv2 un2 : Nat → Int32} {l r nd n : Int} {b k : Nat} (h : mj_rn K f ff ft fs fo fe uv un fs2 fo2 fe2 uv2 un2 l r nd b) (ht : treeOk ff ft nd n) (hOld : ∀ k : Nat, (k : Int) < nd → ¬ mj_hit ff ft l r k → mj_ok K f ff ft fs fo fe uv un k) (hb : b = k + 1) (hk : (k : Int) < nd) (hn : ¬ mj_hit ff ft l r k) : mj_rn K f ff ft fs fo fe uv un fs2 fo2 fe2 uv2 un2 l r nd k := by
  subst hb
  refine ⟨fun j h1 h2 => ?_, fun j h1 h2 => h.2 j h1 (h2.imp Nat.lt_succ_of_lt id)⟩
  rcases Nat.lt_or_eq_of_le h1 with h9 | h9
  · exact h.1 j h9 h2
  · subst h9
    have old := hOld k hk hn
    obtain ⟨a1, a2, a3, a4⟩ := ht k hk
    have n1 := ki_nat (ff k) rfl a1
    have n2 := ki_nat (ft k) rfl (by omega)
    obtain ⟨d, μ, L, c, t⟩ := id old
    refine mj_ok_ag old (fun b2 hb2 => ?_)
    have e : ∀ j : Nat, k ≤ j → j < b2 → mj_e1 fs fo fe uv un fs2 fo2 fe2 uv2 un2 j := fun j x y => by
      obtain ⟨d2, l2, r2, μ2, L2, c2, y1, y2, y3, y4⟩ := mj_T_all d _ _ _ _ _ _ t j x (by omega)
      have nd2 := mj_T_nd y4
      have m1 := nd2.1
      have m2 := nd2.2.1
      refine h.2 j (by omega) (Or.inr (fun hh => hn ⟨?_, ?_⟩))
      · have := hh.1; omega
      · have := hh.2; omega
    refine ⟨fun j x y => ?_, fun q x y => ?_⟩
    · obtain ⟨e1, e2, e3, -⟩ := e j x y
      exact ⟨rfl, rfl, e1, e2, e3⟩
    · exact (e (q / 6) (by omega) (by omega)).2.2.2 q (by omega) (by omega)
theorem mj_rn_put {K : Nat} {f ff ft fs fo fe uv un fs2 fo2 fe2 uv2 un2 fs3 fo3 fe3 uv3 un3 : Nat → Int32} {l r nd : Int} {b k : Nat} {js jl je : Int32} (h : mj_rn K f ff ft fs fo fe uv un fs2 fo2 fe2 uv2 un2 l r nd b) (hb : b = k + 1) (hh : mj_hit ff ft l r k) (ok : mj_ok K f ff ft fs3 fo3 fe3 uv3 un3 k) (e1 : fs3 = upd fs2 k js) (e2 : fo3 = upd fo2 k jl) (e3 : fe3 = upd fe2 k je) (w2 : ∀ q : Nat, (q < 6 * k ∨ 6 * k + 6 ≤ q) → uv3 q = uv2 q ∧ un3 q = un2 q) : mj_rn K f ff ft fs fo fe uv un fs3 fo3 fe3 uv3 un3 l r nd k := by
  subst hb
  refine ⟨fun j h1 h2 => ?_, fun j h1 h2 => ?_⟩
  · rcases Nat.lt_or_eq_of_le h1 with h9 | h9
    · refine mj_ok_ag (h.1 j h9 h2) (fun b2 _ => ⟨fun q x y => ?_, fun q x y => w2 q (by omega)⟩)
      have : ¬ q = k := by omega
      rw [e1, e2, e3, upd_ne this, upd_ne this, upd_ne this]
      exact ⟨rfl, rfl, rfl, rfl, rfl⟩
    · subst h9; exact ok
  · have hne : ¬ j = k := fun e => by
      subst e
      rcases h2 with h2 | h2
      · omega
      · exact h2 hh
    obtain ⟨x1, x2, x3, x4⟩ := h.2 j h1 (h2.imp Nat.lt_succ_of_lt id)
    refine ⟨?_, ?_, ?_, fun q y1 y2 => ?_⟩
    · rw [e1, upd_ne hne]; exact x1
    · rw [e2, upd_ne hne]; exact x2
    · rw [e3, upd_ne hne]; exact x3
    · have z := w2 q (by omega)
      have z2 := x4 q y1 y2
      exact ⟨z.1.trans z2.1, z.2.trans z2.2⟩
/-! the ranges as they are laid -/
def mj_l1 (ff ft : Nat → Int32) (k : Nat) : (Nat → Int32) × (Nat → Int32) :=
  if 1 < (ft k).toInt - (ff k).toInt then (upd (upd ff (k + 1) (ff k)) (k + 2 * (((ff k).toInt + (ft k).toInt) / 2 - (ff k).toInt).toNat) (Int32.ofInt (((ff k).toInt + (ft k).toInt) / 2)), upd (upd ft (k + 1) (Int32.ofInt (((ff k).toInt + (ft k).toInt) / 2))) (k + 2 * (((ff k).toInt + (ft k).toInt) / 2 - (ff k).toInt).toNat) (ft k)) else (ff, ft)
def mj_lit (ff ft : Nat → Int32) (a : Nat) : Nat → (Nat → Int32) × (Nat → Int32)
  | 0 => (ff, ft)
  | n + 1 => mj_l1 (mj_lit ff ft a n).1 (mj_lit ff ft a n).2 (a + n)
def mj_R (ff ft : Nat → Int32) : Nat → Nat → Nat → Nat → Prop
  | 0, a, l, r => (ff a).toInt = (l : Int) ∧ (ft a).toInt = (r : Int) ∧ r = l + 1
  | d + 1, a, l, r => (ff a).toInt = (l : Int) ∧ (ft a).toInt = (r : Int) ∧ (r = l + 1 ∨ (l + 2 ≤ r ∧ mj_R ff ft d (a + 1) l ((l + r) / 2) ∧ mj_R ff ft d (a + 2 * ((l + r) / 2 - l)) ((l + r) / 2) r))
theorem mj_lit_add (ff ft : Nat → Int32) (a n : Nat) : ∀ m : Nat, mj_lit ff ft a (n + m) = mj_lit (mj_lit ff ft a n).1 (mj_lit ff ft a n).2 (a + n) m
  | 0 => rfl
  | m + 1 => by
    have ih := mj_lit_add ff ft a n m
    show mj_l1 (mj_lit ff ft a (n + m)).1 (mj_lit ff ft a (n + m)).2 (a + (n + m)) = mj_l1 _ _ (a + n + m)
    rw [ih, Nat.add_assoc]
theorem mj_R_ag {ff ft ff2 ft2 : Nat → Int32} : ∀ (d a l r : Nat), mj_R ff ft d a l r → (∀ k : Nat, a ≤ k → k < a + 2 * (r - l) - 1 → ff2 k = ff k ∧ ft2 k = ft k) → l < r → mj_R ff2 ft2 d a l r
  | 0, a, l, r, h, g, hlr => by
    obtain ⟨h1, h2, h3⟩ := h
    have e := g a (Nat.le_refl a) (by omega)
    exact ⟨by rw [e.1]; exact h1, by rw [e.2]; exact h2, h3⟩
  | d + 1, a, l, r, h, g, hlr => by
    obtain ⟨h1, h2, h3⟩ := h
    have e := g a (Nat.le_refl a) (by omega)
    refine ⟨by rw [e.1]; exact h1, by rw [e.2]; exact h2, ?_⟩
    rcases h3 with h3 | ⟨h3, h4, h5⟩
    · exact Or.inl h3
    · exact Or.inr ⟨h3, mj_R_ag d _ _ _ h4 (fun k x y => g k (by omega) (by omega)) (by omega), mj_R_ag d _ _ _ h5 (fun k x y => g k (by omega) (by omega)) (by omega)⟩
theorem ki_ofInt {x : Int} (h1 : 0 ≤ x) (h2 : x ≤ 1000) : (Int32.ofInt x).toInt = x := Int32.toInt_ofInt_of_le (by omega) (by omega)
theorem mj_lit_R : ∀ (d a l r : Nat) (ff ft : Nat → Int32), (ff a).toInt = (l : Int) → (ft a).toInt = (r : Int) → l < r → r ≤ 160 → r - l ≤ 2 ^ d → mj_R (mj_lit ff ft a (2 * (r - l) - 1)).1 (mj_lit ff ft a (2 * (r - l) - 1)).2 d a l r ∧ ∀ k : Nat, (k < a ∨ a + 2 * (r - l) - 1 ≤ k ∨ k = a) → (mj_lit ff ft a (2 * (r - l) - 1)).1 k = ff k ∧ (mj_lit ff ft a (2 * (r - l) - 1)).2 k = ft k
  | 0, a, l, r, ff, ft, h1, h2, h3, h4, h5 => by
    have e : r = l + 1 := by
      have : (2 : Nat) ^ 0 = 1 := rfl
      omega
    subst e
    have e2 : 2 * (l + 1 - l) - 1 = 0 + 1 := by omega
    rw [e2]
    have hs : mj_lit ff ft a (0 + 1) = (ff, ft) := by
      show mj_l1 ff ft (a + 0) = (ff, ft)
      unfold mj_l1
      rw [Nat.add_zero, if_neg (by omega)]
    rw [hs]
    exact ⟨⟨h1, h2, rfl⟩, fun k _ => ⟨rfl, rfl⟩⟩
  | d + 1, a, l, r, ff, ft, h1, h2, h3, h4, h5 => by
    by_cases e : r = l + 1
    · subst e
      have e2 : 2 * (l + 1 - l) - 1 = 0 + 1 := by omega
      rw [e2]
      have hs : mj_lit ff ft a (0 + 1) = (ff, ft) := by
        show mj_l1 ff ft (a + 0) = (ff, ft)
        unfold mj_l1
        rw [Nat.add_zero, if_neg (by omega)]
      rw [hs]
      exact ⟨⟨h1, h2, Or.inl rfl⟩, fun k _ => ⟨rfl, rfl⟩⟩
    · have hp : (2 : Nat) ^ (d + 1) = 2 * 2 ^ d := by rw [Nat.pow_succ, Nat.mul_comm]
      have hm : ((l : Int) + (r : Int)) / 2 = (((l + r) / 2 : Nat) : Int) := by omega
      have hrt : a + 2 * (((l : Int) + (r : Int)) / 2 - (l : Int)).toNat = a + 2 * ((l + r) / 2 - l) := by omega
      -- the first step
      have s1 : mj_lit ff ft a 1 = (upd (upd ff (a + 1) (ff a)) (a + 2 * ((l + r) / 2 - l)) (Int32.ofInt (((l + r) / 2 : Nat) : Int)), upd (upd ft (a + 1) (Int32.ofInt (((l + r) / 2 : Nat) : Int))) (a + 2 * ((l + r) / 2 - l)) (ft a)) := by
        show mj_l1 ff ft (a + 0) = _
        unfold mj_l1
        rw [Nat.add_zero, if_pos (by omega), h1, h2, hm]
        have : (a + 2 * ((((l + r) / 2 : Nat) : Int) - (l : Int)).toNat) = a + 2 * ((l + r) / 2 - l) := by omega
        rw [this]
      generalize hA : upd (upd ff (a + 1) (ff a)) (a + 2 * ((l + r) / 2 - l)) (Int32.ofInt (((l + r) / 2 : Nat) : Int)) = fA at s1
      generalize hB : upd (upd ft (a + 1) (Int32.ofInt (((l + r) / 2 : Nat) : Int))) (a + 2 * ((l + r) / 2 - l)) (ft a) = tA at s1
      have mi := ki_ofInt (x := (((l + r) / 2 : Nat) : Int)) (by omega) (by omega)
      have fA1 : (fA (a + 1)).toInt = (l : Int) := by rw [← hA, upd_ne (by omega), upd_at]; exact h1
      have tA1 : (tA (a + 1)).toInt = (((l + r) / 2 : Nat) : Int) := by rw [← hB, upd_ne (by omega), upd_at]; exact mi
      have fAr : (fA (a + 2 * ((l + r) / 2 - l))).toInt = (((l + r) / 2 : Nat) : Int) := by rw [← hA, upd_at]; exact mi
      have tAr : (tA (a + 2 * ((l + r) / 2 - l))).toInt = (r : Int) := by rw [← hB, upd_at]; exact h2
      have oth : ∀ k : Nat, ¬ k = a + 1 → ¬ k = a + 2 * ((l + r) / 2 - l) → fA k = ff k ∧ tA k = ft k := fun k x y => ⟨by rw [← hA, upd_ne y, upd_ne x], by rw [← hB, upd_ne y, upd_ne x]⟩
      -- the left one
      obtain ⟨R1, O1⟩ := mj_lit_R d (a + 1) l ((l + r) / 2) fA tA fA1 tA1 (by omega) (by omega) (by omega)
      generalize hC : mj_lit fA tA (a + 1) (2 * ((l + r) / 2 - l) - 1) = q at R1 O1
      have o1 := O1 (a + 2 * ((l + r) / 2 - l)) (by omega)
      obtain ⟨R2, O2⟩ := mj_lit_R d (a + 2 * ((l + r) / 2 - l)) ((l + r) / 2) r q.1 q.2 (by rw [o1.1]; exact fAr) (by rw [o1.2]; exact tAr) (by omega) h4 (by omega)
      have tot : mj_lit ff ft a (2 * (r - l) - 1) = mj_lit q.1 q.2 (a + 2 * ((l + r) / 2 - l)) (2 * (r - (l + r) / 2) - 1) := by
        have e3 : 2 * (r - l) - 1 = 1 + ((2 * ((l + r) / 2 - l) - 1) + (2 * (r - (l + r) / 2) - 1)) := by omega
        rw [e3, mj_lit_add, s1, mj_lit_add]
        dsimp only
        rw [hC]
        have e4 : a + 1 + (2 * ((l + r) / 2 - l) - 1) = a + 2 * ((l + r) / 2 - l) := by omega
        rw [e4]
      rw [tot]
      refine ⟨⟨?_, ?_, Or.inr ⟨by omega, ?_, R2⟩⟩, fun k hk => ?_⟩
      · rw [(O2 a (by omega)).1, (O1 a (by omega)).1, (oth a (by omega) (by omega)).1]; exact h1
      · rw [(O2 a (by omega)).2, (O1 a (by omega)).2, (oth a (by omega) (by omega)).2]; exact h2
      · exact mj_R_ag d _ _ _ R1 (fun k x y => O2 k (by omega)) (by omega)
      · have x := O2 k (by omega)
        have y := O1 k (by omega)
        have z := oth k (by omega) (by omega)
        exact ⟨x.1.trans (y.1.trans z.1), x.2.trans (y.2.trans z.2)⟩
theorem mj_R_all {ff ft : Nat → Int32} : ∀ (d a l r : Nat), mj_R ff ft d a l r → l < r → ∀ k : Nat, a ≤ k → k < a + 2 * (r - l) - 1 → ∃ e l2 r2 : Nat, mj_R ff ft e k l2 r2 ∧ l2 < r2
  | 0, a, l, r, h, hl, k, h1, h2 => by
    have e : k = a := by have := h.2.2; omega
    subst e
    exact ⟨0, l, r, h, hl⟩
  | d + 1, a, l, r, h, hl, k, h1, h2 => by
    by_cases hk : k = a
    · subst hk; exact ⟨d + 1, l, r, h, hl⟩
    · rcases h.2.2 with h3 | ⟨h3, h4, h5⟩
      · omega
      · rcases Nat.lt_or_ge k (a + 2 * ((l + r) / 2 - l)) with h9 | h9
        · exact mj_R_all d _ _ _ h4 (by omega) k (by omega) (by omega)
        · exact mj_R_all d _ _ _ h5 (by omega) k (by omega) (by omega)
theorem mj_R_cr {ff ft : Nat → Int32} {d n : Nat} {nd : Int} (h : mj_R ff ft d 0 0 n) (hn : 0 < n) (e : nd = 2 * (n : Int) - 1) : mj_cr ff ft nd := by
  intro k hk hw
  obtain ⟨e2, l2, r2, hr, hlt⟩ := mj_R_all d 0 0 n h hn k (by omega) (by omega)
  have top : ∀ (d a l r : Nat), mj_R ff ft d a l r → (ff a).toNatClampNeg = l ∧ (ft a).toNatClampNeg = r := fun d a l r h => by
    have h1 : (ff a).toInt = (l : Int) := by cases d <;> exact h.1
    have h2 : (ft a).toInt = (r : Int) := by cases d <;> exact h.2.1
    have n1 := ki_nat (ff a) rfl (by omega)
    have n2 := ki_nat (ft a) rfl (by omega)
    omega
  obtain ⟨q1, q2⟩ := top _ _ _ _ hr
  have h1 : (ff k).toInt = (l2 : Int) := by cases e2 <;> exact hr.1
  have h2 : (ft k).toInt = (r2 : Int) := by cases e2 <;> exact hr.2.1
  cases e2 with
  | zero => have := hr.2.2; omega
  | succ e2 =>
    rcases hr.2.2 with h3 | ⟨h3, h4, h5⟩
    · omega
    · have m : mj_mid ff ft k = (l2 + r2) / 2 := by unfold mj_mid; rw [q1, q2]
      rw [m, q1, q2]
      obtain ⟨a1, a2⟩ := top _ _ _ _ h4
      obtain ⟨b1, b2⟩ := top _ _ _ _ h5
      exact ⟨a1, a2, b1, b2⟩

def mj_rt (ff ft : Nat → Int32) (n : Int) : Prop := 0 < n → (ff 0).toInt = 0 ∧ (ft 0).toInt = n
/-- the class's tree is the document's -/
def mj_C (K : Nat) (f ff ft fs fo fe uv un : Nat → Int32) (nd n : Int) : Prop := 0 ≤ nd ∧ nd ≤ 319 ∧ ((n = 0 ∧ nd = 0) ∨ (0 < n ∧ nd = 2 * n - 1)) ∧ treeOk ff ft nd n ∧ mj_cr ff ft nd ∧ mj_rt ff ft n ∧ ∀ k : Nat, (k : Int) < nd → mj_ok K f ff ft fs fo fe uv un k
def laidX (old slots here : Int32) (f ff ft fs fo fe uv un : Nat → Int32) (nodes len : Int32) : Prop := old.toInt = 0 → here = slots ∧ mj_C slots.toNatClampNeg f ff ft fs fo fe uv un nodes.toInt len.toInt
/-- what is asked of the node that is a range -/
def mj_ask (ff ft g : Nat → Int32) (nd l r : Int) (x : Int32) : Prop := (∃ k : Nat, (k : Int) < nd ∧ (ff k).toInt = l ∧ (ft k).toInt = r ∧ (∀ j : Nat, j < k → ¬ ((ff j).toInt = l ∧ (ft j).toInt = r)) ∧ x = g k) ∨ ((∀ j : Nat, (j : Int) < nd → ¬ ((ff j).toInt = l ∧ (ft j).toInt = r)) ∧ x = -2)


set_option maxHeartbeats 4000000 in
set_option maxRecDepth 100000 in
theorem c_X3_add_x (l : Launch) (dC : Nat → ClassId) (dI : Nat → Nat → Nat) (h0 : Nat) (a_v : Nat) (a_n : Nat) (cyI : ClassId) (vs : Int32) (lo : Int32) (le : Int32) (fv : Nat → Int32) (fn : Nat → Int32) (p0 : Int32) (p1 : Int32) (sz : Nat) (a0 : 0 ≤ vs.toInt) (a1 : vs.toInt < 12) : kx_MQ l (dC, dI) yX3_add wsX3_add ({ frames := 0, cells := 0, slots := 0, locals := 0 }) [.ref h0, .int p0, .int p1] [kx_3 h0 a_v a_n vs lo le, kx_a a_v cyI 12 fv, kx_a a_n cyI 12 fn] [(cyI, .int)] sz (fun A => va_Qv (fun u : Int32 × (Nat → Int32) × (Nat → Int32) => mj_addR fv fn vs.toNatClampNeg p0 p1 u.2.1 u.2.2 u.1.toNatClampNeg ∧ vs.toInt ≤ u.1.toInt ∧ u.1.toInt ≤ vs.toInt + 1) (fun (u : Int32 × (Nat → Int32) × (Nat → Int32)) (t : State) => va_P (dC, dI) vwCl [kx_3 h0 a_v a_n u.1 lo le, kx_a a_v cyI 12 u.2.1, kx_a a_n cyI 12 u.2.2] t.heap ∧ va_K (dC, dI) vwCl [(cyI, .int)] t ∧ va_D A [kx_3 h0 a_v a_n u.1 lo le, kx_a a_v cyI 12 u.2.1, kx_a a_n cyI 12 u.2.2]) A) := by
  refine kx_stQ (ws := wsX3_add) (cc := cX3_add) (maxL := 4) (ret := none) (by decide) rfl (Nat.le_of_ble_eq_true rfl) ?_
  intro p e s m below meth c A ls hx hb hr hlocks hts hown hml hA hS hP hK hD hl
  have hown : s.vm.findClass RX3 = some m.cls := hown
  have hl : lv_has ls 4 [(0, .ref h0), (1, .int p0), (2, .int p1)] := hl
  have hf_18 := hts (.fieldLink RX3 18 "MajorityIndex$Votes" "size" "I") (List.mem_of_getElem? (i := 1) rfl)
  have hi_3 : ∀ w ∈ u_ws RX3 TX3 5, w ∈ wsX3_add := fun w h => List.mem_cons_of_mem _ (List.mem_append_right _ h)
  have hf_9 := hts (.fieldLink RX3 9 "MajorityIndex$Votes" "value" "[I") (List.mem_of_getElem? (i := 2) rfl)
  have hf_15 := hts (.fieldLink RX3 15 "MajorityIndex$Votes" "number" "[I") (List.mem_of_getElem? (i := 3) rfl)
  refine lv_iconst (v := 0) hx hb dX3_add_0 (by decide) ?_
  refine lv_istore_n (lv' := [(3, .int 0), (0, .ref h0), (1, .int p0), (2, .int p1)]) hx hb dX3_add_1 rfl hl (by decide) rfl (fun ls hl => ?_)
  have LP1 : ∀ (n : Nat) (i : Int32), (0 ≤ i.toInt) → (∀ k : Nat, k < i.toNatClampNeg → ¬ fv k = p0) → (vs.toInt - i.toInt).toNat < n → ∀ (H : Heap) (locs : List Loc), va_P (dC, dI) vwCl [kx_3 h0 a_v a_n vs lo le, kx_a a_v cyI 12 fv, kx_a a_n cyI 12 fn] H → va_D A [kx_3 h0 a_v a_n vs lo le, kx_a a_v cyI 12 fv, kx_a a_n cyI 12 fn] → va_S A s.heap H locs → ∀ (ls : Array Slot), lv_has ls 4 [(3, .int i), (0, .ref h0), (1, .int p0), (2, .int p1)] → W p l e (headSpec wsX3_add ({ frames := 0, cells := 0, slots := 0, locals := 0 })).room s m ([.ref h0, .int p0, .int p1] : List Value).toArray below meth c H locs 0 0 (MQ below (va_Qv (fun u : Int32 × (Nat → Int32) × (Nat → Int32) => mj_addR fv fn vs.toNatClampNeg p0 p1 u.2.1 u.2.2 u.1.toNatClampNeg ∧ vs.toInt ≤ u.1.toInt ∧ u.1.toInt ≤ vs.toInt + 1) (fun (u : Int32 × (Nat → Int32) × (Nat → Int32)) (t : State) => va_P (dC, dI) vwCl [kx_3 h0 a_v a_n u.1 lo le, kx_a a_v cyI 12 u.2.1, kx_a a_n cyI 12 u.2.2] t.heap ∧ va_K (dC, dI) vwCl [(cyI, .int)] t ∧ va_D A [kx_3 h0 a_v a_n u.1 lo le, kx_a a_v cyI 12 u.2.1, kx_a a_n cyI 12 u.2.2]) A) ([.ref h0, .int p0, .int p1] : List Value).toArray s 0 0 A) (F0 m 2 ls []) := by
    intro n
    induction n with
    | zero => intro i LP1_h0 LP1_h1 hn; exact absurd hn (Nat.not_lt_zero _)
    | succ n ih1 =>
      intro i LP1_h0 LP1_h1 hn1 H locs hP hD hS ls hl
      have n_i := ki_nat i rfl (om_10 LP1_h0)
      refine lv_iload_n hx hb dX3_add_2 rfl (lv_at hl 0 rfl) ?_
      refine lv_aload_n hx hb dX3_add_3 rfl (lv_at hl 1 rfl) ?_
      refine va_get (D := (dC, dI)) (ci := 3) (v := .int vs) (C := RX3) (T := TX3) (N := 5) hx hb hts hi_3 hown hK hP 0 rfl rfl 2 (by decide) hf_18 (fun _ h9 => h9) rfl dX3_add_4 ?_
      refine lv_icmp_ge (tgt := 37) hx hb dX3_add_7 (by decide) (fun c_1 => ?_) (fun c_1 => ?_)
      · have i_1 : vs.toInt ≤ i.toInt := kc_le c_1
        refine lv_aload_n hx hb dX3_add_37 rfl (lv_at hl 1 rfl) ?_
        refine va_get (D := (dC, dI)) (ci := 3) (v := .int vs) (C := RX3) (T := TX3) (N := 5) hx hb hts hi_3 hown hK hP 0 rfl rfl 2 (by decide) hf_18 (fun _ h9 => h9) rfl dX3_add_38 ?_
        refine lv_aload_n hx hb dX3_add_41 rfl (lv_at hl 1 rfl) ?_
        refine va_get (D := (dC, dI)) (ci := 3) (v := .ref a_v) (C := RX3) (T := TX3) (N := 5) hx hb hts hi_3 hown hK hP 0 rfl rfl 0 (by decide) hf_9 (fun _ h9 => h9) rfl dX3_add_42 ?_
        refine va_alen (v := 12) hx hb hK hP 1 0 rfl rfl rfl dX3_add_45 ?_
        refine lv_icmp_ge (tgt := 79) hx hb dX3_add_46 (by decide) (fun c_2 => ?_) (fun c_2 => ?_)
        · have i_2 : 12 ≤ vs.toInt := kc_le c_2
          exfalso; omega
        · have i_2 : vs.toInt < 12 := kc_nle c_2
          refine lv_aload_n hx hb dX3_add_49 rfl (lv_at hl 1 rfl) ?_
          refine va_get (D := (dC, dI)) (ci := 3) (v := .ref a_v) (C := RX3) (T := TX3) (N := 5) hx hb hts hi_3 hown hK hP 0 rfl rfl 0 (by decide) hf_9 (fun _ h9 => h9) rfl dX3_add_50 ?_
          refine lv_aload_n hx hb dX3_add_53 rfl (lv_at hl 1 rfl) ?_
          refine va_get (D := (dC, dI)) (ci := 3) (v := .int vs) (C := RX3) (T := TX3) (N := 5) hx hb hts hi_3 hown hK hP 0 rfl rfl 2 (by decide) hf_18 (fun _ h9 => h9) rfl dX3_add_54 ?_
          refine lv_iload_n hx hb dX3_add_57 rfl (lv_at hl 2 rfl) ?_
          refine va_iast hx hb hK hP hD hS 1 0 rfl rfl (ki_in (om_10 a0) (om_30 a1)) dX3_add_58 (fun H locs hP hD hS => ?_)
          obtain ⟨hP, hD⟩ := kx_re (w2 := [kx_3 h0 a_v a_n vs lo le, kx_a a_v cyI 12 (upd fv vs.toNatClampNeg p0), kx_a a_n cyI 12 fn]) hP hD rfl
          refine lv_aload_n hx hb dX3_add_59 rfl (lv_at hl 1 rfl) ?_
          refine va_get (D := (dC, dI)) (ci := 3) (v := .ref a_n) (C := RX3) (T := TX3) (N := 5) hx hb hts hi_3 hown hK hP 0 rfl rfl 1 (by decide) hf_15 (fun _ h9 => h9) rfl dX3_add_60 ?_
          refine lv_aload_n hx hb dX3_add_63 rfl (lv_at hl 1 rfl) ?_
          refine va_get (D := (dC, dI)) (ci := 3) (v := .int vs) (C := RX3) (T := TX3) (N := 5) hx hb hts hi_3 hown hK hP 0 rfl rfl 2 (by decide) hf_18 (fun _ h9 => h9) rfl dX3_add_64 ?_
          refine lv_iload_n hx hb dX3_add_67 rfl (lv_at hl 3 rfl) ?_
          refine va_iast hx hb hK hP hD hS 2 0 rfl rfl (ki_in (om_10 a0) (om_30 a1)) dX3_add_68 (fun H locs hP hD hS => ?_)
          obtain ⟨hP, hD⟩ := kx_re (w2 := [kx_3 h0 a_v a_n vs lo le, kx_a a_v cyI 12 (upd fv vs.toNatClampNeg p0), kx_a a_n cyI 12 (upd fn vs.toNatClampNeg p1)]) hP hD rfl
          refine lv_aload_n hx hb dX3_add_69 rfl (lv_at hl 1 rfl) ?_
          refine lv_dup hx hb dX3_add_70 rfl ?_
          refine va_get (D := (dC, dI)) (ci := 3) (v := .int vs) (C := RX3) (T := TX3) (N := 5) hx hb hts hi_3 hown hK hP 0 rfl rfl 2 (by decide) hf_18 (fun _ h9 => h9) rfl dX3_add_71 ?_
          refine lv_iconst (v := 1) hx hb dX3_add_74 (by decide) ?_
          refine lv_iadd hx hb dX3_add_75 ?_
          refine lv_topi (fun y_3 ey_3 => ?_)
          have i_3 : y_3.toInt = vs.toInt + 1 := ki_add ey_3 rfl rfl (om_13 a0) (om_242 a1)
          refine va_put (D := (dC, dI)) (ci := 3) (v := .int y_3) (ty := .int) (C := RX3) (T := TX3) (N := 5) hx hb hts hi_3 tyX3 tyX3_ok nmX3 hown hK hP hD hS 0 rfl rfl 2 (by decide) hf_18 (fun _ h9 => h9) rfl (by decide +kernel) rfl rfl (Nat.le_of_ble_eq_true rfl) dX3_add_76 (fun H locs hP hD hS => ?_)
          obtain ⟨hP, hD⟩ := kx_re (w2 := [kx_3 h0 a_v a_n y_3 lo le, kx_a a_v cyI 12 (upd fv vs.toNatClampNeg p0), kx_a a_n cyI 12 (upd fn vs.toNatClampNeg p1)]) hP hD rfl
          have hP9 := hP
          have hD9 := hD
          have hK9 := hK
          have n_vs := ki_nat vs rfl (om_10 a0)
          have n_4 := ki_nat y_3 rfl (om_34 a0 i_3)
          exact W.vret hx hb hr (hlocks := hlocks) (fun t ht hW => ⟨⟨(y_3, (upd fv vs.toNatClampNeg p0), (upd fn vs.toNatClampNeg p1)), rfl, ⟨Or.inr ⟨(fun k hk => LP1_h1 k (by omega)), rfl, rfl, (by (try dsimp only); omega)⟩, (by (try dsimp only); omega), (by (try dsimp only); omega)⟩, by rw [ht]; exact hP9, va_K.moved hW.alike hK9, hD9⟩, hS.F ht⟩) hS.2.2 dX3_add_79
      · have i_1 : i.toInt < vs.toInt := kc_nle c_1
        refine lv_aload_n hx hb dX3_add_10 rfl (lv_at hl 1 rfl) ?_
        refine va_get (D := (dC, dI)) (ci := 3) (v := .ref a_v) (C := RX3) (T := TX3) (N := 5) hx hb hts hi_3 hown hK hP 0 rfl rfl 0 (by decide) hf_9 (fun _ h9 => h9) rfl dX3_add_11 ?_
        refine lv_iload_n hx hb dX3_add_14 rfl (lv_at hl 0 rfl) ?_
        refine va_iald hx hb hK hP 1 0 rfl rfl (ki_in (om_10 LP1_h0) (om_243 a1 i_1)) dX3_add_15 ?_
        refine lv_topi (fun y_5 ey_5 => ?_)
        have j_5 : y_5.toInt = (fv i.toNatClampNeg).toInt := congrArg Int32.toInt ey_5
        refine lv_iload_n hx hb dX3_add_16 rfl (lv_at hl 2 rfl) ?_
        refine lv_icmp_ne (tgt := 31) hx hb dX3_add_17 (by decide) (fun c_6 => ?_) (fun c_6 => ?_)
        · have i_6 : ¬ y_5.toInt = p0.toInt := kc_ne c_6
          obtain ⟨x_7, ex_7⟩ : ∃ y : Int32, y = i + 1 := ⟨_, rfl⟩
          have i_7 : x_7.toInt = i.toInt + 1 := ki_add ex_7 rfl rfl (om_13 LP1_h0) (om_244 a1 i_1)
          refine lv_iinc (v := x_7) (lv' := [(3, .int x_7), (0, .ref h0), (1, .int p0), (2, .int p1)]) hx hb dX3_add_31 hl (k := 0) rfl (by rw [ex_7]; rfl) (by decide) rfl (fun ls hl => ?_)
          refine lv_goto (tgt := 2) hx hb dX3_add_34 (by decide) ?_
          have n_8 := ki_nat x_7 rfl (om_34 LP1_h0 i_7)
          exact ih1 x_7 (om_34 LP1_h0 i_7) (fun k hk => if h9 : k < i.toNatClampNeg then LP1_h1 k h9 else (by rw [show k = i.toNatClampNeg by omega]; exact fun h => c_6 (ey_5.trans h))) (om_mu hn1 (om_5 i_7) (om_6 i_1)) _ _ hP hD hS ls (lv_sub hl [0, 1, 2, 3] rfl)
        · have i_6 : y_5.toInt = p0.toInt := kc_eq c_6
          refine lv_aload_n hx hb dX3_add_20 rfl (lv_at hl 1 rfl) ?_
          refine va_get (D := (dC, dI)) (ci := 3) (v := .ref a_n) (C := RX3) (T := TX3) (N := 5) hx hb hts hi_3 hown hK hP 0 rfl rfl 1 (by decide) hf_15 (fun _ h9 => h9) rfl dX3_add_21 ?_
          refine lv_iload_n hx hb dX3_add_24 rfl (lv_at hl 0 rfl) ?_
          refine lv_dup2_11 hx hb dX3_add_25 rfl rfl ?_
          refine va_iald hx hb hK hP 2 0 rfl rfl (ki_in (om_10 LP1_h0) (om_243 a1 i_1)) dX3_add_26 ?_
          refine lv_topi (fun y_9 ey_9 => ?_)
          have j_9 : y_9.toInt = (fn i.toNatClampNeg).toInt := congrArg Int32.toInt ey_9
          refine lv_iload_n hx hb dX3_add_27 rfl (lv_at hl 3 rfl) ?_
          refine lv_iadd hx hb dX3_add_28 ?_
          refine lv_topi (fun y_10 ey_10 => ?_)
          refine va_iast hx hb hK hP hD hS 2 0 rfl rfl (ki_in (om_10 LP1_h0) (om_243 a1 i_1)) dX3_add_29 (fun H locs hP hD hS => ?_)
          obtain ⟨hP, hD⟩ := kx_re (w2 := [kx_3 h0 a_v a_n vs lo le, kx_a a_v cyI 12 fv, kx_a a_n cyI 12 (upd fn i.toNatClampNeg y_10)]) hP hD rfl
          have hP9 := hP
          have hD9 := hD
          have hK9 := hK
          have n_vs := ki_nat vs rfl (om_10 a0)
          exact W.vret hx hb hr (hlocks := hlocks) (fun t ht hW => ⟨⟨(vs, fv, (upd fn i.toNatClampNeg y_10)), rfl, ⟨Or.inl ⟨i.toNatClampNeg, (by (try dsimp only); omega), (ey_5.symm.trans c_6), rfl, (by (try dsimp only); rw [ey_10, ey_9]), rfl⟩, (by (try dsimp only); omega), (by (try dsimp only); omega)⟩, by rw [ht]; exact hP9, va_K.moved hW.alike hK9, hD9⟩, hS.F ht⟩) hS.2.2 dX3_add_30
  have k_11 : (0 : Int32).toInt = 0 := rfl
  exact LP1 ((vs.toInt - 0 : Int).toNat + 1) 0 om_35 (fun k hk => absurd hk (Nat.not_lt_zero k)) (Nat.lt_succ_self _) _ _ hP hD hS ls (lv_sub hl [0, 1, 2, 3] rfl)

set_option maxHeartbeats 4000000 in
set_option maxRecDepth 100000 in
theorem c_X3_order_x (l : Launch) (dC : Nat → ClassId) (dI : Nat → Nat → Nat) (h0 : Nat) (a_v : Nat) (a_n : Nat) (cyI : ClassId) (vs : Int32) (lo : Int32) (le : Int32) (fv : Nat → Int32) (fn : Nat → Int32) (sz : Nat) (a0 : 0 ≤ vs.toInt) (a1 : vs.toInt ≤ 12) : kx_MQ l (dC, dI) yX3_order wsX3_order ({ frames := 1, cells := 0, slots := 0, locals := 45 }) [.ref h0] [kx_3 h0 a_v a_n vs lo le, kx_a a_v cyI 12 fv, kx_a a_n cyI 12 fn] [(cyI, .int)] sz (fun A => va_Qv (fun u : (Nat → Int32) × (Nat → Int32) => mj_srt u.1 u.2 0 vs.toNatClampNeg ∧ ∀ mu : Int32 → Int, mj_vs fv fn 0 vs.toNatClampNeg mu → mj_vs u.1 u.2 0 vs.toNatClampNeg mu) (fun (u : (Nat → Int32) × (Nat → Int32)) (t : State) => va_P (dC, dI) vwCl [kx_3 h0 a_v a_n vs lo le, kx_a a_v cyI 12 u.1, kx_a a_n cyI 12 u.2] t.heap ∧ va_K (dC, dI) vwCl [(cyI, .int)] t ∧ va_D A [kx_3 h0 a_v a_n vs lo le, kx_a a_v cyI 12 u.1, kx_a a_n cyI 12 u.2]) A) := by
  refine kx_stQ (ws := wsX3_order) (cc := cX3_order) (maxL := 3) (ret := none) (by decide) rfl (Nat.le_of_ble_eq_true rfl) ?_
  intro p e s m below meth c A ls hx hb hr hlocks hts hown hml hA hS hP hK hD hl
  have hown : s.vm.findClass RX3 = some m.cls := hown
  have hl : lv_has ls 3 [(0, .ref h0)] := hl
  have hf_18 := hts (.fieldLink RX3 18 "MajorityIndex$Votes" "size" "I") (List.mem_of_getElem? (i := 1) rfl)
  have hi_3 : ∀ w ∈ u_ws RX3 TX3 5, w ∈ wsX3_order := fun w h => List.mem_cons_of_mem _ (List.mem_append_right _ h)
  have n_vs := ki_nat vs rfl (om_10 a0)
  refine lv_iconst (v := 1) hx hb dX3_order_0 (by decide) ?_
  refine lv_istore_n (lv' := [(1, .int 1), (0, .ref h0)]) hx hb dX3_order_1 rfl hl (by decide) rfl (fun ls hl => ?_)
  have LP1 : ∀ (n : Nat) (i : Int32) (gv : Nat → Int32) (gn : Nat → Int32), (1 ≤ i.toInt) → (i.toInt ≤ 13) → (mj_srt gv gn 0 i.toNatClampNeg) → (∀ mu : Int32 → Int, mj_vs fv fn 0 vs.toNatClampNeg mu → mj_vs gv gn 0 vs.toNatClampNeg mu) → (vs.toInt - i.toInt).toNat < n → ∀ (H : Heap) (locs : List Loc), va_P (dC, dI) vwCl [kx_3 h0 a_v a_n vs lo le, kx_a a_v cyI 12 gv, kx_a a_n cyI 12 gn] H → va_D A [kx_3 h0 a_v a_n vs lo le, kx_a a_v cyI 12 gv, kx_a a_n cyI 12 gn] → va_S A s.heap H locs → ∀ (ls : Array Slot), lv_has ls 3 [(1, .int i), (0, .ref h0)] → W p l e (headSpec wsX3_order ({ frames := 1, cells := 0, slots := 0, locals := 45 })).room s m ([.ref h0] : List Value).toArray below meth c H locs 0 0 (MQ below (va_Qv (fun u : (Nat → Int32) × (Nat → Int32) => mj_srt u.1 u.2 0 vs.toNatClampNeg ∧ ∀ mu : Int32 → Int, mj_vs fv fn 0 vs.toNatClampNeg mu → mj_vs u.1 u.2 0 vs.toNatClampNeg mu) (fun (u : (Nat → Int32) × (Nat → Int32)) (t : State) => va_P (dC, dI) vwCl [kx_3 h0 a_v a_n vs lo le, kx_a a_v cyI 12 u.1, kx_a a_n cyI 12 u.2] t.heap ∧ va_K (dC, dI) vwCl [(cyI, .int)] t ∧ va_D A [kx_3 h0 a_v a_n vs lo le, kx_a a_v cyI 12 u.1, kx_a a_n cyI 12 u.2]) A) ([.ref h0] : List Value).toArray s 0 0 A) (F0 m 2 ls []) := by
    intro n
    induction n with
    | zero => intro i gv gn LP1_h0 LP1_h1 LP1_h2 LP1_h3 hn; exact absurd hn (Nat.not_lt_zero _)
    | succ n ih1 =>
      intro i gv gn LP1_h0 LP1_h1 LP1_h2 LP1_h3 hn1 H locs hP hD hS ls hl
      have n_i := ki_nat i rfl (om_51 LP1_h0)
      refine lv_iload_n hx hb dX3_order_2 rfl (lv_at hl 0 rfl) ?_
      refine lv_aload_n hx hb dX3_order_3 rfl (lv_at hl 1 rfl) ?_
      refine va_get (D := (dC, dI)) (ci := 3) (v := .int vs) (C := RX3) (T := TX3) (N := 5) hx hb hts hi_3 hown hK hP 0 rfl rfl 2 (by decide) hf_18 (fun _ h9 => h9) rfl dX3_order_4 ?_
      refine lv_icmp_ge (tgt := 47) hx hb dX3_order_7 (by decide) (fun c_1 => ?_) (fun c_1 => ?_)
      · have i_1 : vs.toInt ≤ i.toInt := kc_le c_1
        have hP9 := hP
        have hD9 := hD
        have hK9 := hK
        exact W.vret hx hb hr (hlocks := hlocks) (fun t ht hW => ⟨⟨(gv, gn), rfl, ⟨(fun x y h1 h2 => LP1_h2 x y h1 (by (try dsimp only); omega)), LP1_h3⟩, by rw [ht]; exact hP9, va_K.moved hW.alike hK9, hD9⟩, hS.F ht⟩) hS.2.2 dX3_order_47
      · have i_1 : i.toInt < vs.toInt := kc_nle c_1
        refine lv_iload_n hx hb dX3_order_10 rfl (lv_at hl 0 rfl) ?_
        refine lv_istore_n (lv' := [(2, .int i), (1, .int i), (0, .ref h0)]) hx hb dX3_order_11 rfl hl (by decide) rfl (fun ls hl => ?_)
        have LP2 : ∀ (n : Nat) (j : Int32) (kv : Nat → Int32) (kn : Nat → Int32), (0 ≤ j.toInt) → (j.toInt ≤ i.toInt) → (mj_in kv kn i.toNatClampNeg j.toNatClampNeg) → (∀ mu : Int32 → Int, mj_vs fv fn 0 vs.toNatClampNeg mu → mj_vs kv kn 0 vs.toNatClampNeg mu) → (j.toInt).toNat < n → ∀ (H : Heap) (locs : List Loc), va_P (dC, dI) vwCl [kx_3 h0 a_v a_n vs lo le, kx_a a_v cyI 12 kv, kx_a a_n cyI 12 kn] H → va_D A [kx_3 h0 a_v a_n vs lo le, kx_a a_v cyI 12 kv, kx_a a_n cyI 12 kn] → va_S A s.heap H locs → ∀ (ls : Array Slot), lv_has ls 3 [(2, .int j), (1, .int i), (0, .ref h0)] → W p l e (headSpec wsX3_order ({ frames := 1, cells := 0, slots := 0, locals := 45 })).room s m ([.ref h0] : List Value).toArray below meth c H locs 0 0 (MQ below (va_Qv (fun u : (Nat → Int32) × (Nat → Int32) => mj_srt u.1 u.2 0 vs.toNatClampNeg ∧ ∀ mu : Int32 → Int, mj_vs fv fn 0 vs.toNatClampNeg mu → mj_vs u.1 u.2 0 vs.toNatClampNeg mu) (fun (u : (Nat → Int32) × (Nat → Int32)) (t : State) => va_P (dC, dI) vwCl [kx_3 h0 a_v a_n vs lo le, kx_a a_v cyI 12 u.1, kx_a a_n cyI 12 u.2] t.heap ∧ va_K (dC, dI) vwCl [(cyI, .int)] t ∧ va_D A [kx_3 h0 a_v a_n vs lo le, kx_a a_v cyI 12 u.1, kx_a a_n cyI 12 u.2]) A) ([.ref h0] : List Value).toArray s 0 0 A) (F0 m 12 ls []) := by
          intro n
          induction n with
          | zero => intro j kv kn LP2_h0 LP2_h1 LP2_h2 LP2_h3 hn; exact absurd hn (Nat.not_lt_zero _)
          | succ n ih2 =>
            intro j kv kn LP2_h0 LP2_h1 LP2_h2 LP2_h3 hn2 H locs hP hD hS ls hl
            have n_j := ki_nat j rfl (om_10 LP2_h0)
            refine lv_iload_n hx hb dX3_order_12 rfl (lv_at hl 0 rfl) ?_
            refine lv_if_le (tgt := 41) hx hb dX3_order_13 (by decide) (fun c_2 => ?_) (fun c_2 => ?_)
            · have i_2 : j.toInt ≤ 0 := kc_le c_2
              obtain ⟨x_3, ex_3⟩ : ∃ y : Int32, y = i + 1 := ⟨_, rfl⟩
              have i_3 : x_3.toInt = i.toInt + 1 := ki_add ex_3 rfl rfl (om_40 LP1_h0) (om_297 LP1_h1)
              refine lv_iinc (v := x_3) (lv' := [(1, .int x_3), (2, .int j), (0, .ref h0)]) hx hb dX3_order_41 hl (k := 1) rfl (by rw [ex_3]; rfl) (by decide) rfl (fun ls hl => ?_)
              refine lv_goto (tgt := 2) hx hb dX3_order_44 (by decide) ?_
              have n_4 := ki_nat x_3 rfl (om_377 LP1_h0 i_3)
              exact ih1 x_3 kv kn (om_41 LP1_h0 i_3) (om_299 a1 LP1_h1 i_1 i_3) (mj_in_end LP2_h2 (by omega) (Or.inl (by omega)) (by omega)) LP2_h3 (om_mu hn1 (om_5 i_3) (om_6 i_1)) _ _ hP hD hS ls (lv_sub hl [0, 2] rfl)
            · have i_2 : 0 < j.toInt := kc_nle c_2
              refine lv_aload_n hx hb dX3_order_16 rfl (lv_at hl 2 rfl) ?_
              refine lv_iload_n hx hb dX3_order_17 rfl (lv_at hl 0 rfl) ?_
              refine lv_iload_n hx hb dX3_order_18 rfl (lv_at hl 0 rfl) ?_
              refine lv_iconst (v := 1) hx hb dX3_order_19 (by decide) ?_
              refine lv_isub hx hb dX3_order_20 ?_
              refine lv_topi (fun y_5 ey_5 => ?_)
              have i_5 : y_5.toInt = j.toInt - 1 := ki_sub ey_5 rfl rfl (om_42 i_2) (om_496 LP1_h1 LP2_h1)
              have hPc := hP
              have hKc := hK
              refine vp_callSi (W.runV (As := [.int j, .int y_5]) (rest := []) ⟨hx, hb, hml, hown, hts⟩ (c_X3_isAhead l dC dI h0 a_v a_n cyI vs lo le kv kn j y_5 LP2_h0 (om_44 a1 i_1 LP2_h1) (om_45 i_2 i_5) (om_497 a1 LP1_h1 i_1 LP2_h1 i_5)) (cwV 2 hts gX3_order_X3_isAhead rfl rfl rfl (by decide +kernel) ⟨Nat.le_of_ble_eq_true rfl, Nat.le_of_ble_eq_true rfl⟩) ⟨fun a U g mk q => by obtain ⟨q0, qP, qK⟩ := q; exact ⟨q0, qP, va_K.moved (u := U) (U := U.calling g mk a) (Vm.Alike.refl U.vm) qK⟩, kx_rc3 hKc hPc (q0 := 0) rfl, fun U hU hW => ⟨rfl, by rw [hU]; exact hPc, va_K.moved hW.alike hKc⟩⟩ rfl rfl hl.1 rfl (lv_room (Nat.le_of_ble_eq_true rfl)) dX3_order_21 ⟨Nat.le_of_ble_eq_true rfl, Nat.le_of_ble_eq_true rfl⟩) (fun r_6 w_6 => ?_)
              rcases w_6 with ⟨rfl, w_6⟩ | ⟨rfl, w_6⟩
              · have w_6 : ((kn y_5.toNatClampNeg).toInt < (kn j.toNatClampNeg).toInt ∨ ((kn j.toNatClampNeg).toInt = (kn y_5.toNatClampNeg).toInt ∧ (kv j.toNatClampNeg).toInt < (kv y_5.toNatClampNeg).toInt)) := w_6
                refine lv_if_eq (tgt := 41) hx hb dX3_order_24 (by decide) (fun c_7 => ?_) (fun c_7 => ?_)
                · exact absurd c_7 (by decide)
                · refine lv_aload_n hx hb dX3_order_27 rfl (lv_at hl 2 rfl) ?_
                  refine lv_iload_n hx hb dX3_order_28 rfl (lv_at hl 0 rfl) ?_
                  refine lv_iload_n hx hb dX3_order_29 rfl (lv_at hl 0 rfl) ?_
                  refine lv_iconst (v := 1) hx hb dX3_order_30 (by decide) ?_
                  refine lv_isub hx hb dX3_order_31 ?_
                  refine lv_topi (fun y_8 ey_8 => ?_)
                  have i_8 : y_8.toInt = j.toInt - 1 := ki_sub ey_8 rfl rfl (om_42 i_2) (om_496 LP1_h1 LP2_h1)
                  have hPc := hP
                  have hKc := hK
                  have hDc := hD
                  have hFc := kx_free hD hS hA
                  refine va_callv (va_runV (As := [.int j, .int y_8]) (rest := []) ⟨hx, hb, hml, hown, hts⟩ (kx_un (c_X3_exchange l dC dI h0 a_v a_n cyI vs lo le kv kn j y_8 H.size LP2_h0 (om_44 a1 i_1 LP2_h1) (om_45 i_2 i_8) (om_497 a1 LP1_h1 i_1 LP2_h1 i_8))) (cwV 2 hts gX3_order_X3_exchange rfl rfl rfl (by decide +kernel) ⟨Nat.le_of_ble_eq_true rfl, Nat.le_of_ble_eq_true rfl⟩) ⟨fun a U g mk q => by obtain ⟨q0, q1, qP, qK, qD⟩ := q; exact ⟨q0, q1, qP, va_K.moved (u := U) (U := U.calling g mk a) (Vm.Alike.refl U.vm) qK, qD⟩, kx_rc3 hKc hPc (q0 := 0) rfl, fun U hU hW => ⟨rfl, by rw [hU], by rw [hU]; exact hPc, va_K.moved hW.alike hKc, hDc.weaken (fun _ _ _ _ => trivial)⟩⟩ rfl rfl hl.1 rfl (lv_room (Nat.le_of_ble_eq_true rfl)) dX3_order_32 ⟨Nat.le_of_ble_eq_true rfl, Nat.le_of_ble_eq_true rfl⟩) hS (fun q _ h => hFc q h) hFc (fun u t H1 locs ht hvm w_9 hB hz1 hk1 hS => ?_)
                  obtain ⟨o_10, o_11⟩ := u
                  dsimp only at w_9 hB
                  obtain ⟨hP1, hK1, hD1⟩ := hB
                  rw [ht] at hP1
                  have hK1 := va_K.moved hvm.symm hK1
                  have hD := hD1.weaken (fun _ q _ h => hFc q.1 h)
                  have hP := hP1
                  clear hP1 hD1 hK1 hk1 hz1 hFc hDc hPc hKc
                  generalize H1 = H at hP hS ⊢
                  have w_9 : o_10 = upd (upd kv j.toNatClampNeg (kv y_8.toNatClampNeg)) y_8.toNatClampNeg (kv j.toNatClampNeg) ∧ o_11 = upd (upd kn j.toNatClampNeg (kn y_8.toNatClampNeg)) y_8.toNatClampNeg (kn j.toNatClampNeg) := w_9
                  obtain ⟨x_12, ex_12⟩ : ∃ y : Int32, y = j + (-1) := ⟨_, rfl⟩
                  have i_12 : x_12.toInt = j.toInt + (-1) := ki_add ex_12 rfl rfl (om_47 i_2) (om_498 LP1_h1 LP2_h1)
                  refine lv_iinc (v := x_12) (lv' := [(2, .int x_12), (1, .int i), (0, .ref h0)]) hx hb dX3_order_35 hl (k := 0) rfl (by rw [ex_12]; rfl) (by decide) rfl (fun ls hl => ?_)
                  refine lv_goto (tgt := 12) hx hb dX3_order_38 (by decide) ?_
                  have n_13 := ki_nat x_12 rfl (om_49 i_2 i_12)
                  have n_14 := ki_nat y_5 rfl (om_45 i_2 i_5)
                  have n_15 := ki_nat y_8 rfl (om_45 i_2 i_8)
                  have q_1 : y_8.toNatClampNeg = x_12.toNatClampNeg := by omega
                  have q_2 : y_5.toNatClampNeg = x_12.toNatClampNeg := by omega
                  have l_1 : mj_lea kv kn j.toNatClampNeg x_12.toNatClampNeg := by rw [← q_2]; unfold mj_lea; omega
                  exact ih2 x_12 o_10 o_11 (om_49 i_2 i_12) (om_26 LP2_h1 i_12) (by rw [w_9.1, w_9.2, q_1]; exact (show mj_in (mj_ex kv j.toNatClampNeg x_12.toNatClampNeg) (mj_ex kn j.toNatClampNeg x_12.toNatClampNeg) i.toNatClampNeg x_12.toNatClampNeg from mj_in_swap LP2_h2 (by omega) (by omega) l_1)) (fun mu h => (by rw [w_9.1, w_9.2, q_1]; exact (show mj_vs (mj_ex kv j.toNatClampNeg x_12.toNatClampNeg) (mj_ex kn j.toNatClampNeg x_12.toNatClampNeg) 0 vs.toNatClampNeg mu from mj_vs_ex (by omega) (by omega) (LP2_h3 mu h)))) (om_mu hn2 (om_27 i_12) (om_50 i_2)) _ _ hP hD hS ls (lv_sub hl [0, 1, 2] rfl)
              · have w_6 : ((kn j.toNatClampNeg).toInt < (kn y_5.toNatClampNeg).toInt ∨ ((kn j.toNatClampNeg).toInt = (kn y_5.toNatClampNeg).toInt ∧ (kv y_5.toNatClampNeg).toInt ≤ (kv j.toNatClampNeg).toInt)) := w_6
                refine lv_if_eq (tgt := 41) hx hb dX3_order_24 (by decide) (fun c_16 => ?_) (fun c_16 => ?_)
                · obtain ⟨x_17, ex_17⟩ : ∃ y : Int32, y = i + 1 := ⟨_, rfl⟩
                  have i_17 : x_17.toInt = i.toInt + 1 := ki_add ex_17 rfl rfl (om_40 LP1_h0) (om_297 LP1_h1)
                  refine lv_iinc (v := x_17) (lv' := [(1, .int x_17), (2, .int j), (0, .ref h0)]) hx hb dX3_order_41 hl (k := 1) rfl (by rw [ex_17]; rfl) (by decide) rfl (fun ls hl => ?_)
                  refine lv_goto (tgt := 2) hx hb dX3_order_44 (by decide) ?_
                  have n_18 := ki_nat x_17 rfl (om_377 LP1_h0 i_17)
                  have n_19 := ki_nat y_5 rfl (om_45 i_2 i_5)
                  exact ih1 x_17 kv kn (om_41 LP1_h0 i_17) (om_299 a1 LP1_h1 i_1 i_17) (mj_in_end LP2_h2 (by omega) (Or.inr (by rw [show j.toNatClampNeg - 1 = y_5.toNatClampNeg by omega]; unfold mj_lea; omega)) (by omega)) LP2_h3 (om_mu hn1 (om_5 i_17) (om_6 i_1)) _ _ hP hD hS ls (lv_sub hl [0, 2] rfl)
                · exact absurd c_16 (by decide)
        exact LP2 ((i.toInt : Int).toNat + 1) i gv gn (om_51 LP1_h0) om_7 (mj_in_new LP1_h2 rfl) LP1_h3 (Nat.lt_succ_self _) _ _ hP hD hS ls (lv_sub hl [0, 1, 2] rfl)
  have k_20 : (1 : Int32).toInt = 1 := rfl
  exact LP1 ((vs.toInt - 1 : Int).toNat + 1) 1 fv fn om_52 om_499 (mj_srt_1 _ _ (by decide)) (fun mu h => h) (Nat.lt_succ_self _) _ _ hP hD hS ls (lv_sub hl [0, 1] rfl)

set_option maxHeartbeats 4000000 in
set_option maxRecDepth 100000 in
theorem c_X3_cancel_x (l : Launch) (dC : Nat → ClassId) (dI : Nat → Nat → Nat) (h0 : Nat) (a_v : Nat) (a_n : Nat) (cyI : ClassId) (vs : Int32) (lo : Int32) (le : Int32) (fv : Nat → Int32) (fn : Nat → Int32) (mu : Int32 → Int) (p0 : Int32) (sz : Nat) (a0 : 0 ≤ vs.toInt) (a1 : vs.toInt ≤ 12) (b0 : 0 ≤ p0.toInt) (b1 : p0.toInt ≤ 6) (va : mj_vs fv fn 0 vs.toNatClampNeg mu) (bd : ∀ v : Int32, mu v ≤ 1000000) : kx_MQ l (dC, dI) yX3_cancel wsX3_cancel ({ frames := 2, cells := 0, slots := 0, locals := 90 }) [.ref h0, .int p0] [kx_3 h0 a_v a_n vs lo le, kx_a a_v cyI 12 fv, kx_a a_n cyI 12 fn] [(cyI, .int)] sz (fun A => va_Qv (fun u : Int32 × Int32 × Int32 × (Nat → Int32) × (Nat → Int32) × (Int32 → Int) => mj_can p0.toNatClampNeg mu u.2.2.2.2.2 u.2.2.1 ∧ u.2.1 = lo + u.2.2.1 ∧ 0 ≤ u.1.toInt ∧ u.1.toInt ≤ p0.toInt ∧ mj_vs u.2.2.2.1 u.2.2.2.2.1 0 u.1.toNatClampNeg u.2.2.2.2.2 ∧ mj_srt u.2.2.2.1 u.2.2.2.2.1 0 u.1.toNatClampNeg ∧ 0 ≤ u.2.2.1.toInt) (fun (u : Int32 × Int32 × Int32 × (Nat → Int32) × (Nat → Int32) × (Int32 → Int)) (t : State) => va_P (dC, dI) vwCl [kx_3 h0 a_v a_n u.1 u.2.1 u.2.2.1, kx_a a_v cyI 12 u.2.2.2.1, kx_a a_n cyI 12 u.2.2.2.2.1] t.heap ∧ va_K (dC, dI) vwCl [(cyI, .int)] t ∧ va_D A [kx_3 h0 a_v a_n u.1 u.2.1 u.2.2.1, kx_a a_v cyI 12 u.2.2.2.1, kx_a a_n cyI 12 u.2.2.2.2.1]) A) := by
  refine kx_stQ (ws := wsX3_cancel) (cc := cX3_cancel) (maxL := 4) (ret := none) (by decide) rfl (Nat.le_of_ble_eq_true rfl) ?_
  intro p e s m below meth c A ls hx hb hr hlocks hts hown hml hA hS hP hK hD hl
  have hown : s.vm.findClass RX3 = some m.cls := hown
  have hl : lv_has ls 4 [(0, .ref h0), (1, .int p0)] := hl
  have hf_18 := hts (.fieldLink RX3 18 "MajorityIndex$Votes" "size" "I") (List.mem_of_getElem? (i := 1) rfl)
  have hi_3 : ∀ w ∈ u_ws RX3 TX3 5, w ∈ wsX3_cancel := fun w h => List.mem_cons_of_mem _ (List.mem_append_right _ h)
  have hf_25 := hts (.fieldLink RX3 25 "MajorityIndex$Votes" "lessBy" "I") (List.mem_of_getElem? (i := 3) rfl)
  have hf_22 := hts (.fieldLink RX3 22 "MajorityIndex$Votes" "lost" "I") (List.mem_of_getElem? (i := 4) rfl)
  have hf_15 := hts (.fieldLink RX3 15 "MajorityIndex$Votes" "number" "[I") (List.mem_of_getElem? (i := 2) rfl)
  refine lv_aload_n hx hb dX3_cancel_0 rfl (lv_at hl 0 rfl) ?_
  have hPc := hP
  have hKc := hK
  have hDc := hD
  have hFc := kx_free hD hS hA
  refine va_callv (va_runV (As := []) (rest := []) ⟨hx, hb, hml, hown, hts⟩ (kx_un (c_X3_order_x l dC dI h0 a_v a_n cyI vs lo le fv fn s.heap.size a0 a1)) (cwV 0 hts gX3_cancel_X3_order rfl rfl rfl (by decide +kernel) ⟨Nat.le_of_ble_eq_true rfl, Nat.le_of_ble_eq_true rfl⟩) ⟨fun a U g mk q => by obtain ⟨q0, q1, qP, qK, qD⟩ := q; exact ⟨q0, q1, qP, va_K.moved (u := U) (U := U.calling g mk a) (Vm.Alike.refl U.vm) qK, qD⟩, kx_rc3 hKc hPc (q0 := 0) rfl, fun U hU hW => ⟨rfl, by rw [hU], by rw [hU]; exact hPc, va_K.moved hW.alike hKc, hDc.weaken (fun _ _ _ _ => trivial)⟩⟩ rfl rfl hl.1 rfl (lv_room (Nat.le_of_ble_eq_true rfl)) dX3_cancel_1 ⟨Nat.le_of_ble_eq_true rfl, Nat.le_of_ble_eq_true rfl⟩) hS (fun q _ h => hFc q h) hFc (fun u t H1 locs ht hvm w_1 hB hz1 hk1 hS => ?_)
  obtain ⟨o_2, o_3⟩ := u
  dsimp only at w_1 hB
  obtain ⟨hP1, hK1, hD1⟩ := hB
  rw [ht] at hP1
  have hK1 := va_K.moved hvm.symm hK1
  have hD := hD1.weaken (fun _ q _ h => hFc q.1 h)
  have hP := hP1
  clear hP1 hD1 hK1 hk1 hz1 hFc hDc hPc hKc
  generalize H1 = H at hP hS ⊢
  have w_1 : mj_srt o_2 o_3 0 vs.toNatClampNeg ∧ ∀ mu : Int32 → Int, mj_vs fv fn 0 vs.toNatClampNeg mu → mj_vs o_2 o_3 0 vs.toNatClampNeg mu := w_1
  have n_vs := ki_nat vs rfl (om_10 a0)
  have n_p0 := ki_nat p0 rfl (om_10 b0)
  have hsum : mj_vs o_2 o_3 0 vs.toNatClampNeg mu := w_1.2 _ va
  have hbd := mj_bd hsum bd
  refine lv_aload_n hx hb dX3_cancel_4 rfl (lv_at hl 0 rfl) ?_
  refine lv_iload_n hx hb dX3_cancel_5 rfl (lv_at hl 1 rfl) ?_
  refine lv_if_lt (tgt := 26) hx hb dX3_cancel_6 (by decide) (fun c_4 => ?_) (fun c_4 => ?_)
  · have i_4 : p0.toInt < 0 := kc_lt c_4
    exfalso; omega
  · have i_4 : 0 ≤ p0.toInt := kc_nlt c_4
    refine lv_iload_n hx hb dX3_cancel_9 rfl (lv_at hl 1 rfl) ?_
    refine lv_aload_n hx hb dX3_cancel_10 rfl (lv_at hl 0 rfl) ?_
    refine va_get (D := (dC, dI)) (ci := 3) (v := .int vs) (C := RX3) (T := TX3) (N := 5) hx hb hts hi_3 hown hK hP 0 rfl rfl 2 (by decide) hf_18 (fun _ h9 => h9) rfl dX3_cancel_11 ?_
    refine lv_icmp_ge (tgt := 26) hx hb dX3_cancel_14 (by decide) (fun c_5 => ?_) (fun c_5 => ?_)
    · have i_5 : vs.toInt ≤ p0.toInt := kc_le c_5
      refine lv_iconst (v := 0) hx hb dX3_cancel_26 (by decide) ?_
      refine va_put (D := (dC, dI)) (ci := 3) (v := .int 0) (ty := .int) (C := RX3) (T := TX3) (N := 5) hx hb hts hi_3 tyX3 tyX3_ok nmX3 hown hK hP hD hS 0 rfl rfl 4 (by decide) hf_25 (fun _ h9 => h9) rfl (by decide +kernel) rfl rfl (Nat.le_of_ble_eq_true rfl) dX3_cancel_27 (fun H locs hP hD hS => ?_)
      obtain ⟨hP, hD⟩ := kx_re (w2 := [kx_3 h0 a_v a_n vs lo 0, kx_a a_v cyI 12 o_2, kx_a a_n cyI 12 o_3]) hP hD rfl
      refine lv_aload_n hx hb dX3_cancel_30 rfl (lv_at hl 0 rfl) ?_
      refine lv_dup hx hb dX3_cancel_31 rfl ?_
      refine va_get (D := (dC, dI)) (ci := 3) (v := .int lo) (C := RX3) (T := TX3) (N := 5) hx hb hts hi_3 hown hK hP 0 rfl rfl 3 (by decide) hf_22 (fun _ h9 => h9) rfl dX3_cancel_32 ?_
      refine lv_aload_n hx hb dX3_cancel_35 rfl (lv_at hl 0 rfl) ?_
      refine va_get (D := (dC, dI)) (ci := 3) (v := .int 0) (C := RX3) (T := TX3) (N := 5) hx hb hts hi_3 hown hK hP 0 rfl rfl 4 (by decide) hf_25 (fun _ h9 => h9) rfl dX3_cancel_36 ?_
      refine lv_iadd hx hb dX3_cancel_39 ?_
      refine lv_topi (fun y_6 ey_6 => ?_)
      refine va_put (D := (dC, dI)) (ci := 3) (v := .int y_6) (ty := .int) (C := RX3) (T := TX3) (N := 5) hx hb hts hi_3 tyX3 tyX3_ok nmX3 hown hK hP hD hS 0 rfl rfl 3 (by decide) hf_22 (fun _ h9 => h9) rfl (by decide +kernel) rfl rfl (Nat.le_of_ble_eq_true rfl) dX3_cancel_40 (fun H locs hP hD hS => ?_)
      obtain ⟨hP, hD⟩ := kx_re (w2 := [kx_3 h0 a_v a_n vs y_6 0, kx_a a_v cyI 12 o_2, kx_a a_n cyI 12 o_3]) hP hD rfl
      refine lv_iconst (v := 0) hx hb dX3_cancel_43 (by decide) ?_
      refine lv_istore_n (lv' := [(2, .int 0), (0, .ref h0), (1, .int p0)]) hx hb dX3_cancel_44 rfl hl (by decide) rfl (fun ls hl => ?_)
      refine lv_iconst (v := 0) hx hb dX3_cancel_45 (by decide) ?_
      refine lv_istore_n (lv' := [(3, .int 0), (2, .int 0), (0, .ref h0), (1, .int p0)]) hx hb dX3_cancel_46 rfl hl (by decide) rfl (fun ls hl => ?_)
      have LP1 : ∀ (n : Nat) (lf : Int32) (k : Int32) (wn : Nat → Int32), (0 ≤ lf.toInt) → (0 ≤ k.toInt) → (k.toInt ≤ vs.toInt) → (mj_wc p0.toNatClampNeg o_3 0 lf.toNatClampNeg k.toNatClampNeg wn) → (vs.toInt - k.toInt).toNat < n → ∀ (H : Heap) (locs : List Loc), va_P (dC, dI) vwCl [kx_3 h0 a_v a_n vs y_6 0, kx_a a_v cyI 12 o_2, kx_a a_n cyI 12 wn] H → va_D A [kx_3 h0 a_v a_n vs y_6 0, kx_a a_v cyI 12 o_2, kx_a a_n cyI 12 wn] → va_S A s.heap H locs → ∀ (ls : Array Slot), lv_has ls 4 [(3, .int k), (2, .int lf), (0, .ref h0), (1, .int p0)] → W p l e (headSpec wsX3_cancel ({ frames := 2, cells := 0, slots := 0, locals := 90 })).room s m ([.ref h0, .int p0] : List Value).toArray below meth c H locs 0 0 (MQ below (va_Qv (fun u : Int32 × Int32 × Int32 × (Nat → Int32) × (Nat → Int32) × (Int32 → Int) => mj_can p0.toNatClampNeg mu u.2.2.2.2.2 u.2.2.1 ∧ u.2.1 = lo + u.2.2.1 ∧ 0 ≤ u.1.toInt ∧ u.1.toInt ≤ p0.toInt ∧ mj_vs u.2.2.2.1 u.2.2.2.2.1 0 u.1.toNatClampNeg u.2.2.2.2.2 ∧ mj_srt u.2.2.2.1 u.2.2.2.2.1 0 u.1.toNatClampNeg ∧ 0 ≤ u.2.2.1.toInt) (fun (u : Int32 × Int32 × Int32 × (Nat → Int32) × (Nat → Int32) × (Int32 → Int)) (t : State) => va_P (dC, dI) vwCl [kx_3 h0 a_v a_n u.1 u.2.1 u.2.2.1, kx_a a_v cyI 12 u.2.2.2.1, kx_a a_n cyI 12 u.2.2.2.2.1] t.heap ∧ va_K (dC, dI) vwCl [(cyI, .int)] t ∧ va_D A [kx_3 h0 a_v a_n u.1 u.2.1 u.2.2.1, kx_a a_v cyI 12 u.2.2.2.1, kx_a a_n cyI 12 u.2.2.2.2.1]) A) ([.ref h0, .int p0] : List Value).toArray s 0 0 A) (F0 m 47 ls []) := by
        intro n
        induction n with
        | zero => intro lf k wn LP1_h0 LP1_h1 LP1_h2 LP1_h3 hn; exact absurd hn (Nat.not_lt_zero _)
        | succ n ih1 =>
          intro lf k wn LP1_h0 LP1_h1 LP1_h2 LP1_h3 hn1 H locs hP hD hS ls hl
          have n_lf := ki_nat lf rfl (om_10 LP1_h0)
          have n_k := ki_nat k rfl (om_10 LP1_h1)
          have h_lf := LP1_h3.2.1
          have h_lk := LP1_h3.1
          refine lv_iload_n hx hb dX3_cancel_47 rfl (lv_at hl 0 rfl) ?_
          refine lv_aload_n hx hb dX3_cancel_48 rfl (lv_at hl 2 rfl) ?_
          refine va_get (D := (dC, dI)) (ci := 3) (v := .int vs) (C := RX3) (T := TX3) (N := 5) hx hb hts hi_3 hown hK hP 0 rfl rfl 2 (by decide) hf_18 (fun _ h9 => h9) rfl dX3_cancel_49 ?_
          refine lv_icmp_ge (tgt := 86) hx hb dX3_cancel_52 (by decide) (fun c_7 => ?_) (fun c_7 => ?_)
          · have i_7 : vs.toInt ≤ k.toInt := kc_le c_7
            refine lv_aload_n hx hb dX3_cancel_86 rfl (lv_at hl 2 rfl) ?_
            refine lv_iload_n hx hb dX3_cancel_87 rfl (lv_at hl 1 rfl) ?_
            refine va_put (D := (dC, dI)) (ci := 3) (v := .int lf) (ty := .int) (C := RX3) (T := TX3) (N := 5) hx hb hts hi_3 tyX3 tyX3_ok nmX3 hown hK hP hD hS 0 rfl rfl 2 (by decide) hf_18 (fun _ h9 => h9) rfl (by decide +kernel) rfl rfl (Nat.le_of_ble_eq_true rfl) dX3_cancel_88 (fun H locs hP hD hS => ?_)
            obtain ⟨hP, hD⟩ := kx_re (w2 := [kx_3 h0 a_v a_n lf y_6 0, kx_a a_v cyI 12 o_2, kx_a a_n cyI 12 wn]) hP hD rfl
            have hP9 := hP
            have hD9 := hD
            have hK9 := hK
            have hen := mj_wc_end LP1_h3 (m := vs.toNatClampNeg) (by omega) hsum w_1.1 (by omega)
            exact W.vret hx hb hr (hlocks := hlocks) (fun t ht hW => ⟨⟨(lf, y_6, 0, o_2, wn, (fun v => if (0 : Int) < mu v then mu v - 0 else 0)), rfl, ⟨⟨o_2, o_3, vs.toNatClampNeg, hsum, w_1.1, Or.inl ⟨(by omega), rfl⟩, (fun v => rfl)⟩, (by (try dsimp only); rw [ey_6]), (by (try dsimp only); omega), (by (try dsimp only); omega), hen.1, hen.2, (by (try dsimp only); decide)⟩, by rw [ht]; exact hP9, va_K.moved hW.alike hK9, hD9⟩, hS.F ht⟩) hS.2.2 dX3_cancel_91
          · have i_7 : k.toInt < vs.toInt := kc_nle c_7
            refine lv_aload_n hx hb dX3_cancel_55 rfl (lv_at hl 2 rfl) ?_
            refine va_get (D := (dC, dI)) (ci := 3) (v := .ref a_n) (C := RX3) (T := TX3) (N := 5) hx hb hts hi_3 hown hK hP 0 rfl rfl 1 (by decide) hf_15 (fun _ h9 => h9) rfl dX3_cancel_56 ?_
            refine lv_iload_n hx hb dX3_cancel_59 rfl (lv_at hl 0 rfl) ?_
            refine lv_dup2_11 hx hb dX3_cancel_60 rfl rfl ?_
            refine va_iald hx hb hK hP 2 0 rfl rfl (ki_in (om_10 LP1_h1) (om_32 a1 i_7)) dX3_cancel_61 ?_
            refine lv_topi (fun y_8 ey_8 => ?_)
            have j_8 : y_8.toInt = (wn k.toNatClampNeg).toInt := congrArg Int32.toInt ey_8
            have q_w : wn k.toNatClampNeg = o_3 k.toNatClampNeg := LP1_h3.2.2.2.2.2 _ (Nat.le_refl _)
            have g_9 : 0 < y_8.toInt ∧ y_8.toInt ≤ 1000000 := by rw [ey_8, q_w]; exact hbd k.toNatClampNeg (by omega)
            have q_k : y_8.toInt = (o_3 k.toNatClampNeg).toInt := by rw [ey_8, q_w]
            refine lv_aload_n hx hb dX3_cancel_62 rfl (lv_at hl 2 rfl) ?_
            refine va_get (D := (dC, dI)) (ci := 3) (v := .int 0) (C := RX3) (T := TX3) (N := 5) hx hb hts hi_3 hown hK hP 0 rfl rfl 4 (by decide) hf_25 (fun _ h9 => h9) rfl dX3_cancel_63 ?_
            refine lv_isub hx hb dX3_cancel_66 ?_
            refine lv_topi (fun y_10 ey_10 => ?_)
            have i_10 : y_10.toInt = y_8.toInt - 0 := ki_sub ey_10 rfl rfl (by omega) (by omega)
            refine va_iast hx hb hK hP hD hS 2 0 rfl rfl (ki_in (om_10 LP1_h1) (om_32 a1 i_7)) dX3_cancel_67 (fun H locs hP hD hS => ?_)
            obtain ⟨hP, hD⟩ := kx_re (w2 := [kx_3 h0 a_v a_n vs y_6 0, kx_a a_v cyI 12 o_2, kx_a a_n cyI 12 (upd wn k.toNatClampNeg y_10)]) hP hD rfl
            refine lv_aload_n hx hb dX3_cancel_68 rfl (lv_at hl 2 rfl) ?_
            refine va_get (D := (dC, dI)) (ci := 3) (v := .ref a_n) (C := RX3) (T := TX3) (N := 5) hx hb hts hi_3 hown hK hP 0 rfl rfl 1 (by decide) hf_15 (fun _ h9 => h9) rfl dX3_cancel_69 ?_
            refine lv_iload_n hx hb dX3_cancel_72 rfl (lv_at hl 0 rfl) ?_
            refine va_iald hx hb hK hP 2 0 rfl rfl (ki_in (om_10 LP1_h1) (om_32 a1 i_7)) dX3_cancel_73 ?_
            refine lv_topi (fun y_11 ey_11 => ?_)
            have j_11 : y_11.toInt = ((upd wn k.toNatClampNeg y_10) k.toNatClampNeg).toInt := congrArg Int32.toInt ey_11
            have q_t : y_11.toInt = y_10.toInt := by rw [ey_11, upd_at]
            refine lv_if_le (tgt := 80) hx hb dX3_cancel_74 (by decide) (fun c_12 => ?_) (fun c_12 => ?_)
            · have i_12 : y_11.toInt ≤ 0 := kc_le c_12
              obtain ⟨x_13, ex_13⟩ : ∃ y : Int32, y = k + 1 := ⟨_, rfl⟩
              have i_13 : x_13.toInt = k.toInt + 1 := ki_add ex_13 rfl rfl (om_13 LP1_h1) (om_33 a1 i_7)
              refine lv_iinc (v := x_13) (lv' := [(3, .int x_13), (2, .int lf), (0, .ref h0), (1, .int p0)]) hx hb dX3_cancel_80 hl (k := 0) rfl (by rw [ex_13]; rfl) (by decide) rfl (fun ls hl => ?_)
              refine lv_goto (tgt := 47) hx hb dX3_cancel_83 (by decide) ?_
              have n_14 := ki_nat x_13 rfl (om_34 LP1_h1 i_13)
              exact ih1 lf x_13 (upd wn k.toNatClampNeg y_10) (om_10 LP1_h0) (om_34 LP1_h1 i_13) (om_54 i_7 i_13) (mj_wc_step LP1_h3 w_1.1 (by omega) (by omega) (fun h => absurd h (by omega)) (by omega) (by omega)) (om_mu hn1 (om_5 i_13) (om_6 i_7)) _ _ hP hD hS ls (lv_sub hl [0, 1, 2, 3] rfl)
            · have i_12 : 0 < y_11.toInt := kc_nle c_12
              obtain ⟨x_15, ex_15⟩ : ∃ y : Int32, y = lf + 1 := ⟨_, rfl⟩
              have i_15 : x_15.toInt = lf.toInt + 1 := ki_add ex_15 rfl rfl (om_13 LP1_h0) (by omega)
              refine lv_iinc (v := x_15) (lv' := [(2, .int x_15), (3, .int k), (0, .ref h0), (1, .int p0)]) hx hb dX3_cancel_77 hl (k := 1) rfl (by rw [ex_15]; rfl) (by decide) rfl (fun ls hl => ?_)
              obtain ⟨x_16, ex_16⟩ : ∃ y : Int32, y = k + 1 := ⟨_, rfl⟩
              have i_16 : x_16.toInt = k.toInt + 1 := ki_add ex_16 rfl rfl (om_13 LP1_h1) (om_33 a1 i_7)
              refine lv_iinc (v := x_16) (lv' := [(3, .int x_16), (2, .int x_15), (0, .ref h0), (1, .int p0)]) hx hb dX3_cancel_80 hl (k := 1) rfl (by rw [ex_16]; rfl) (by decide) rfl (fun ls hl => ?_)
              refine lv_goto (tgt := 47) hx hb dX3_cancel_83 (by decide) ?_
              have n_17 := ki_nat x_16 rfl (om_34 LP1_h1 i_16)
              have n_18 := ki_nat x_15 rfl (om_34 LP1_h0 i_15)
              exact ih1 x_15 x_16 (upd wn k.toNatClampNeg y_10) (om_34 LP1_h0 i_15) (om_34 LP1_h1 i_16) (om_54 i_7 i_16) (mj_wc_step LP1_h3 w_1.1 (by omega) (by omega) (fun h => absurd h (by omega)) (by omega) (by omega)) (om_mu hn1 (om_5 i_16) (om_6 i_7)) _ _ hP hD hS ls (lv_sub hl [0, 1, 2, 3] rfl)
      have k_19 : (0 : Int32).toInt = 0 := rfl
      have k_20 : (0 : Int32).toInt = 0 := rfl
      exact LP1 ((vs.toInt - 0 : Int).toNat + 1) 0 0 o_3 om_35 om_35 (om_10 a0) (mj_wc_0 _ _ _ rfl rfl) (Nat.lt_succ_self _) _ _ hP hD hS ls (lv_sub hl [0, 1, 2, 3] rfl)
    · have i_5 : p0.toInt < vs.toInt := kc_nle c_5
      refine lv_aload_n hx hb dX3_cancel_17 rfl (lv_at hl 0 rfl) ?_
      refine va_get (D := (dC, dI)) (ci := 3) (v := .ref a_n) (C := RX3) (T := TX3) (N := 5) hx hb hts hi_3 hown hK hP 0 rfl rfl 1 (by decide) hf_15 (fun _ h9 => h9) rfl dX3_cancel_18 ?_
      refine lv_iload_n hx hb dX3_cancel_21 rfl (lv_at hl 1 rfl) ?_
      refine va_iald hx hb hK hP 2 0 rfl rfl (ki_in (om_10 b0) (om_309 b1)) dX3_cancel_22 ?_
      refine lv_topi (fun y_21 ey_21 => ?_)
      have j_21 : y_21.toInt = (o_3 p0.toNatClampNeg).toInt := congrArg Int32.toInt ey_21
      have g_22 : 0 < y_21.toInt ∧ y_21.toInt ≤ 1000000 := by rw [ey_21]; exact hbd p0.toNatClampNeg (by omega)
      refine lv_goto (tgt := 27) hx hb dX3_cancel_23 (by decide) ?_
      refine va_put (D := (dC, dI)) (ci := 3) (v := .int y_21) (ty := .int) (C := RX3) (T := TX3) (N := 5) hx hb hts hi_3 tyX3 tyX3_ok nmX3 hown hK hP hD hS 0 rfl rfl 4 (by decide) hf_25 (fun _ h9 => h9) rfl (by decide +kernel) rfl rfl (Nat.le_of_ble_eq_true rfl) dX3_cancel_27 (fun H locs hP hD hS => ?_)
      obtain ⟨hP, hD⟩ := kx_re (w2 := [kx_3 h0 a_v a_n vs lo y_21, kx_a a_v cyI 12 o_2, kx_a a_n cyI 12 o_3]) hP hD rfl
      refine lv_aload_n hx hb dX3_cancel_30 rfl (lv_at hl 0 rfl) ?_
      refine lv_dup hx hb dX3_cancel_31 rfl ?_
      refine va_get (D := (dC, dI)) (ci := 3) (v := .int lo) (C := RX3) (T := TX3) (N := 5) hx hb hts hi_3 hown hK hP 0 rfl rfl 3 (by decide) hf_22 (fun _ h9 => h9) rfl dX3_cancel_32 ?_
      refine lv_aload_n hx hb dX3_cancel_35 rfl (lv_at hl 0 rfl) ?_
      refine va_get (D := (dC, dI)) (ci := 3) (v := .int y_21) (C := RX3) (T := TX3) (N := 5) hx hb hts hi_3 hown hK hP 0 rfl rfl 4 (by decide) hf_25 (fun _ h9 => h9) rfl dX3_cancel_36 ?_
      refine lv_iadd hx hb dX3_cancel_39 ?_
      refine lv_topi (fun y_23 ey_23 => ?_)
      refine va_put (D := (dC, dI)) (ci := 3) (v := .int y_23) (ty := .int) (C := RX3) (T := TX3) (N := 5) hx hb hts hi_3 tyX3 tyX3_ok nmX3 hown hK hP hD hS 0 rfl rfl 3 (by decide) hf_22 (fun _ h9 => h9) rfl (by decide +kernel) rfl rfl (Nat.le_of_ble_eq_true rfl) dX3_cancel_40 (fun H locs hP hD hS => ?_)
      obtain ⟨hP, hD⟩ := kx_re (w2 := [kx_3 h0 a_v a_n vs y_23 y_21, kx_a a_v cyI 12 o_2, kx_a a_n cyI 12 o_3]) hP hD rfl
      refine lv_iconst (v := 0) hx hb dX3_cancel_43 (by decide) ?_
      refine lv_istore_n (lv' := [(2, .int 0), (0, .ref h0), (1, .int p0)]) hx hb dX3_cancel_44 rfl hl (by decide) rfl (fun ls hl => ?_)
      refine lv_iconst (v := 0) hx hb dX3_cancel_45 (by decide) ?_
      refine lv_istore_n (lv' := [(3, .int 0), (2, .int 0), (0, .ref h0), (1, .int p0)]) hx hb dX3_cancel_46 rfl hl (by decide) rfl (fun ls hl => ?_)
      have LP2 : ∀ (n : Nat) (lf : Int32) (k : Int32) (wn : Nat → Int32), (0 ≤ lf.toInt) → (0 ≤ k.toInt) → (k.toInt ≤ vs.toInt) → (mj_wc p0.toNatClampNeg o_3 y_21.toInt lf.toNatClampNeg k.toNatClampNeg wn) → (vs.toInt - k.toInt).toNat < n → ∀ (H : Heap) (locs : List Loc), va_P (dC, dI) vwCl [kx_3 h0 a_v a_n vs y_23 y_21, kx_a a_v cyI 12 o_2, kx_a a_n cyI 12 wn] H → va_D A [kx_3 h0 a_v a_n vs y_23 y_21, kx_a a_v cyI 12 o_2, kx_a a_n cyI 12 wn] → va_S A s.heap H locs → ∀ (ls : Array Slot), lv_has ls 4 [(3, .int k), (2, .int lf), (0, .ref h0), (1, .int p0)] → W p l e (headSpec wsX3_cancel ({ frames := 2, cells := 0, slots := 0, locals := 90 })).room s m ([.ref h0, .int p0] : List Value).toArray below meth c H locs 0 0 (MQ below (va_Qv (fun u : Int32 × Int32 × Int32 × (Nat → Int32) × (Nat → Int32) × (Int32 → Int) => mj_can p0.toNatClampNeg mu u.2.2.2.2.2 u.2.2.1 ∧ u.2.1 = lo + u.2.2.1 ∧ 0 ≤ u.1.toInt ∧ u.1.toInt ≤ p0.toInt ∧ mj_vs u.2.2.2.1 u.2.2.2.2.1 0 u.1.toNatClampNeg u.2.2.2.2.2 ∧ mj_srt u.2.2.2.1 u.2.2.2.2.1 0 u.1.toNatClampNeg ∧ 0 ≤ u.2.2.1.toInt) (fun (u : Int32 × Int32 × Int32 × (Nat → Int32) × (Nat → Int32) × (Int32 → Int)) (t : State) => va_P (dC, dI) vwCl [kx_3 h0 a_v a_n u.1 u.2.1 u.2.2.1, kx_a a_v cyI 12 u.2.2.2.1, kx_a a_n cyI 12 u.2.2.2.2.1] t.heap ∧ va_K (dC, dI) vwCl [(cyI, .int)] t ∧ va_D A [kx_3 h0 a_v a_n u.1 u.2.1 u.2.2.1, kx_a a_v cyI 12 u.2.2.2.1, kx_a a_n cyI 12 u.2.2.2.2.1]) A) ([.ref h0, .int p0] : List Value).toArray s 0 0 A) (F0 m 47 ls []) := by
        intro n
        induction n with
        | zero => intro lf k wn LP2_h0 LP2_h1 LP2_h2 LP2_h3 hn; exact absurd hn (Nat.not_lt_zero _)
        | succ n ih2 =>
          intro lf k wn LP2_h0 LP2_h1 LP2_h2 LP2_h3 hn2 H locs hP hD hS ls hl
          have n_lf := ki_nat lf rfl (om_10 LP2_h0)
          have n_k := ki_nat k rfl (om_10 LP2_h1)
          have h_lf := LP2_h3.2.1
          have h_lk := LP2_h3.1
          refine lv_iload_n hx hb dX3_cancel_47 rfl (lv_at hl 0 rfl) ?_
          refine lv_aload_n hx hb dX3_cancel_48 rfl (lv_at hl 2 rfl) ?_
          refine va_get (D := (dC, dI)) (ci := 3) (v := .int vs) (C := RX3) (T := TX3) (N := 5) hx hb hts hi_3 hown hK hP 0 rfl rfl 2 (by decide) hf_18 (fun _ h9 => h9) rfl dX3_cancel_49 ?_
          refine lv_icmp_ge (tgt := 86) hx hb dX3_cancel_52 (by decide) (fun c_24 => ?_) (fun c_24 => ?_)
          · have i_24 : vs.toInt ≤ k.toInt := kc_le c_24
            refine lv_aload_n hx hb dX3_cancel_86 rfl (lv_at hl 2 rfl) ?_
            refine lv_iload_n hx hb dX3_cancel_87 rfl (lv_at hl 1 rfl) ?_
            refine va_put (D := (dC, dI)) (ci := 3) (v := .int lf) (ty := .int) (C := RX3) (T := TX3) (N := 5) hx hb hts hi_3 tyX3 tyX3_ok nmX3 hown hK hP hD hS 0 rfl rfl 2 (by decide) hf_18 (fun _ h9 => h9) rfl (by decide +kernel) rfl rfl (Nat.le_of_ble_eq_true rfl) dX3_cancel_88 (fun H locs hP hD hS => ?_)
            obtain ⟨hP, hD⟩ := kx_re (w2 := [kx_3 h0 a_v a_n lf y_23 y_21, kx_a a_v cyI 12 o_2, kx_a a_n cyI 12 wn]) hP hD rfl
            have hP9 := hP
            have hD9 := hD
            have hK9 := hK
            have hen := mj_wc_end LP2_h3 (m := vs.toNatClampNeg) (by omega) hsum w_1.1 (by omega)
            exact W.vret hx hb hr (hlocks := hlocks) (fun t ht hW => ⟨⟨(lf, y_23, y_21, o_2, wn, (fun v => if (y_21.toInt : Int) < mu v then mu v - y_21.toInt else 0)), rfl, ⟨⟨o_2, o_3, vs.toNatClampNeg, hsum, w_1.1, Or.inr ⟨(by omega), ey_21⟩, (fun v => rfl)⟩, (by (try dsimp only); rw [ey_23]), (by (try dsimp only); omega), (by (try dsimp only); omega), hen.1, hen.2, (by (try dsimp only); omega)⟩, by rw [ht]; exact hP9, va_K.moved hW.alike hK9, hD9⟩, hS.F ht⟩) hS.2.2 dX3_cancel_91
          · have i_24 : k.toInt < vs.toInt := kc_nle c_24
            refine lv_aload_n hx hb dX3_cancel_55 rfl (lv_at hl 2 rfl) ?_
            refine va_get (D := (dC, dI)) (ci := 3) (v := .ref a_n) (C := RX3) (T := TX3) (N := 5) hx hb hts hi_3 hown hK hP 0 rfl rfl 1 (by decide) hf_15 (fun _ h9 => h9) rfl dX3_cancel_56 ?_
            refine lv_iload_n hx hb dX3_cancel_59 rfl (lv_at hl 0 rfl) ?_
            refine lv_dup2_11 hx hb dX3_cancel_60 rfl rfl ?_
            refine va_iald hx hb hK hP 2 0 rfl rfl (ki_in (om_10 LP2_h1) (om_32 a1 i_24)) dX3_cancel_61 ?_
            refine lv_topi (fun y_25 ey_25 => ?_)
            have j_25 : y_25.toInt = (wn k.toNatClampNeg).toInt := congrArg Int32.toInt ey_25
            have q_w : wn k.toNatClampNeg = o_3 k.toNatClampNeg := LP2_h3.2.2.2.2.2 _ (Nat.le_refl _)
            have g_26 : 0 < y_25.toInt ∧ y_25.toInt ≤ 1000000 := by rw [ey_25, q_w]; exact hbd k.toNatClampNeg (by omega)
            have q_k : y_25.toInt = (o_3 k.toNatClampNeg).toInt := by rw [ey_25, q_w]
            refine lv_aload_n hx hb dX3_cancel_62 rfl (lv_at hl 2 rfl) ?_
            refine va_get (D := (dC, dI)) (ci := 3) (v := .int y_21) (C := RX3) (T := TX3) (N := 5) hx hb hts hi_3 hown hK hP 0 rfl rfl 4 (by decide) hf_25 (fun _ h9 => h9) rfl dX3_cancel_63 ?_
            refine lv_isub hx hb dX3_cancel_66 ?_
            refine lv_topi (fun y_27 ey_27 => ?_)
            have i_27 : y_27.toInt = y_25.toInt - y_21.toInt := ki_sub ey_27 rfl rfl (by omega) (by omega)
            refine va_iast hx hb hK hP hD hS 2 0 rfl rfl (ki_in (om_10 LP2_h1) (om_32 a1 i_24)) dX3_cancel_67 (fun H locs hP hD hS => ?_)
            obtain ⟨hP, hD⟩ := kx_re (w2 := [kx_3 h0 a_v a_n vs y_23 y_21, kx_a a_v cyI 12 o_2, kx_a a_n cyI 12 (upd wn k.toNatClampNeg y_27)]) hP hD rfl
            refine lv_aload_n hx hb dX3_cancel_68 rfl (lv_at hl 2 rfl) ?_
            refine va_get (D := (dC, dI)) (ci := 3) (v := .ref a_n) (C := RX3) (T := TX3) (N := 5) hx hb hts hi_3 hown hK hP 0 rfl rfl 1 (by decide) hf_15 (fun _ h9 => h9) rfl dX3_cancel_69 ?_
            refine lv_iload_n hx hb dX3_cancel_72 rfl (lv_at hl 0 rfl) ?_
            refine va_iald hx hb hK hP 2 0 rfl rfl (ki_in (om_10 LP2_h1) (om_32 a1 i_24)) dX3_cancel_73 ?_
            refine lv_topi (fun y_28 ey_28 => ?_)
            have j_28 : y_28.toInt = ((upd wn k.toNatClampNeg y_27) k.toNatClampNeg).toInt := congrArg Int32.toInt ey_28
            have q_t : y_28.toInt = y_27.toInt := by rw [ey_28, upd_at]
            refine lv_if_le (tgt := 80) hx hb dX3_cancel_74 (by decide) (fun c_29 => ?_) (fun c_29 => ?_)
            · have i_29 : y_28.toInt ≤ 0 := kc_le c_29
              obtain ⟨x_30, ex_30⟩ : ∃ y : Int32, y = k + 1 := ⟨_, rfl⟩
              have i_30 : x_30.toInt = k.toInt + 1 := ki_add ex_30 rfl rfl (om_13 LP2_h1) (om_53 a1 LP2_h2)
              refine lv_iinc (v := x_30) (lv' := [(3, .int x_30), (2, .int lf), (0, .ref h0), (1, .int p0)]) hx hb dX3_cancel_80 hl (k := 0) rfl (by rw [ex_30]; rfl) (by decide) rfl (fun ls hl => ?_)
              refine lv_goto (tgt := 47) hx hb dX3_cancel_83 (by decide) ?_
              have n_31 := ki_nat x_30 rfl (om_34 LP2_h1 i_30)
              exact ih2 lf x_30 (upd wn k.toNatClampNeg y_27) (om_10 LP2_h0) (om_34 LP2_h1 i_30) (om_54 i_24 i_30) (mj_wc_step LP2_h3 w_1.1 (by omega) (by omega) (fun _ => j_21) (by omega) (by omega)) (om_mu hn2 (om_5 i_30) (om_6 i_24)) _ _ hP hD hS ls (lv_sub hl [0, 1, 2, 3] rfl)
            · have i_29 : 0 < y_28.toInt := kc_nle c_29
              obtain ⟨x_32, ex_32⟩ : ∃ y : Int32, y = lf + 1 := ⟨_, rfl⟩
              have i_32 : x_32.toInt = lf.toInt + 1 := ki_add ex_32 rfl rfl (om_13 LP2_h0) (by omega)
              refine lv_iinc (v := x_32) (lv' := [(2, .int x_32), (3, .int k), (0, .ref h0), (1, .int p0)]) hx hb dX3_cancel_77 hl (k := 1) rfl (by rw [ex_32]; rfl) (by decide) rfl (fun ls hl => ?_)
              obtain ⟨x_33, ex_33⟩ : ∃ y : Int32, y = k + 1 := ⟨_, rfl⟩
              have i_33 : x_33.toInt = k.toInt + 1 := ki_add ex_33 rfl rfl (om_13 LP2_h1) (om_53 a1 LP2_h2)
              refine lv_iinc (v := x_33) (lv' := [(3, .int x_33), (2, .int x_32), (0, .ref h0), (1, .int p0)]) hx hb dX3_cancel_80 hl (k := 1) rfl (by rw [ex_33]; rfl) (by decide) rfl (fun ls hl => ?_)
              refine lv_goto (tgt := 47) hx hb dX3_cancel_83 (by decide) ?_
              have n_34 := ki_nat x_33 rfl (om_34 LP2_h1 i_33)
              have n_35 := ki_nat x_32 rfl (om_34 LP2_h0 i_32)
              exact ih2 x_32 x_33 (upd wn k.toNatClampNeg y_27) (om_34 LP2_h0 i_32) (om_34 LP2_h1 i_33) (om_54 i_24 i_33) (mj_wc_step LP2_h3 w_1.1 (by omega) (by omega) (fun _ => j_21) (by omega) (by omega)) (om_mu hn2 (om_5 i_33) (om_6 i_24)) _ _ hP hD hS ls (lv_sub hl [0, 1, 2, 3] rfl)
      have k_36 : (0 : Int32).toInt = 0 := rfl
      have k_37 : (0 : Int32).toInt = 0 := rfl
      exact LP2 ((vs.toInt - 0 : Int).toNat + 1) 0 0 o_3 om_35 om_35 (om_10 a0) (mj_wc_0 _ _ _ rfl rfl) (Nat.lt_succ_self _) _ _ hP hD hS ls (lv_sub hl [0, 1, 2, 3] rfl)

set_option maxHeartbeats 4000000 in
set_option maxRecDepth 100000 in
theorem c_X2_joinNode_x (l : Launch) (dC : Nat → ClassId) (dI : Nat → Nat → Nat) (q_t : Nat) (q_row : Nat) (q_joined : Nat) (q_from : Nat) (q_to : Nat) (q_size : Nat) (q_lossOf : Nat) (q_lessBy : Nat) (q_value : Nat) (q_number : Nat) (nodes : Int32) (here : Int32) (h0 : Nat) (a_v : Nat) (a_n : Nat) (cyI : ClassId) (vs : Int32) (lo : Int32) (le : Int32) (fv : Nat → Int32) (fn : Nat → Int32) (fs : Nat → Int32) (fo : Nat → Int32) (uv : Nat → Int32) (un : Nat → Int32) (mua : Int32 → Int) (mub : Int32 → Int) (p0 : Int32) (sz : Nat) (b0 : 0 ≤ p0.toInt) (b1 : p0.toInt < 319) (n0 : 0 ≤ vs.toInt) (n1 : vs.toInt ≤ 6) (n2 : 0 ≤ (fs p0.toNatClampNeg).toInt) (n3 : (fs p0.toNatClampNeg).toInt ≤ 6) (va : mj_vs fv fn 0 vs.toNatClampNeg mua) (vb : mj_vs uv un (6 * p0.toNatClampNeg) (fs p0.toNatClampNeg).toNatClampNeg mub) (bd : ∀ v : Int32, mua v + mub v ≤ 1000000) : kx_MQ l (dC, dI) yX2_joinNode wsX2_joinNode ({ frames := 1, cells := 0, slots := 0, locals := 45 }) [.ref q_t, .ref h0, .int p0] [kx_2 q_t q_row q_joined q_from q_to q_size q_lossOf q_lessBy q_value q_number nodes here, kx_a q_size cyI 319 fs, kx_a q_lossOf cyI 319 fo, kx_a q_value cyI 1914 uv, kx_a q_number cyI 1914 un, kx_3 h0 a_v a_n vs lo le, kx_a a_v cyI 12 fv, kx_a a_n cyI 12 fn] [(cyI, .int)] sz (fun A => va_Qv (fun u : Int32 × Int32 × (Nat → Int32) × (Nat → Int32) => mj_vs u.2.2.1 u.2.2.2 0 u.1.toNatClampNeg (fun w => mua w + mub w) ∧ u.2.1 = lo + fo p0.toNatClampNeg ∧ 0 ≤ u.1.toInt ∧ u.1.toInt ≤ vs.toInt + (fs p0.toNatClampNeg).toInt) (fun (u : Int32 × Int32 × (Nat → Int32) × (Nat → Int32)) (t : State) => va_P (dC, dI) vwCl [kx_2 q_t q_row q_joined q_from q_to q_size q_lossOf q_lessBy q_value q_number nodes here, kx_a q_size cyI 319 fs, kx_a q_lossOf cyI 319 fo, kx_a q_value cyI 1914 uv, kx_a q_number cyI 1914 un, kx_3 h0 a_v a_n u.1 u.2.1 le, kx_a a_v cyI 12 u.2.2.1, kx_a a_n cyI 12 u.2.2.2] t.heap ∧ va_K (dC, dI) vwCl [(cyI, .int)] t ∧ va_D A [kx_2 q_t q_row q_joined q_from q_to q_size q_lossOf q_lessBy q_value q_number nodes here, kx_a q_size cyI 319 fs, kx_a q_lossOf cyI 319 fo, kx_a q_value cyI 1914 uv, kx_a q_number cyI 1914 un, kx_3 h0 a_v a_n u.1 u.2.1 le, kx_a a_v cyI 12 u.2.2.1, kx_a a_n cyI 12 u.2.2.2]) A) := by
  refine kx_stQ (ws := wsX2_joinNode) (cc := cX2_joinNode) (maxL := 5) (ret := none) (by decide) rfl (Nat.le_of_ble_eq_true rfl) ?_
  intro p e s m below meth c A ls hx hb hr hlocks hts hown hml hA hS hP hK hD hl
  have hown : s.vm.findClass RX2 = some m.cls := hown
  have hl : lv_has ls 5 [(0, .ref q_t), (1, .ref h0), (2, .int p0)] := hl
  have hf_25 := hts (.fieldLink RX2 25 "MajorityIndex$Tree" "size" "[I") (List.mem_of_getElem? (i := 1) rfl)
  have hi_2 : ∀ w ∈ u_ws RX2 TX2 11, w ∈ wsX2_joinNode := fun w h => List.mem_cons_of_mem _ (List.mem_append_left _ (List.mem_append_right _ h))
  have hf_91 := hts (.fieldLink RX2 91 "MajorityIndex$Votes" "lost" "I") (List.mem_of_getElem? (i := 4) rfl)
  have hi_3 : ∀ w ∈ u_ws RX3 TX3 5, w ∈ wsX2_joinNode := fun w h => List.mem_cons_of_mem _ (List.mem_append_right _ h)
  have hf_28 := hts (.fieldLink RX2 28 "MajorityIndex$Tree" "lossOf" "[I") (List.mem_of_getElem? (i := 5) rfl)
  have hf_34 := hts (.fieldLink RX2 34 "MajorityIndex$Tree" "value" "[I") (List.mem_of_getElem? (i := 2) rfl)
  have hf_37 := hts (.fieldLink RX2 37 "MajorityIndex$Tree" "number" "[I") (List.mem_of_getElem? (i := 3) rfl)
  have n_p0 := ki_nat p0 rfl (om_10 b0)
  have n_fs := ki_nat (fs p0.toNatClampNeg) rfl (om_10 n2)
  refine lv_iload_n hx hb dX2_joinNode_0 rfl (lv_at hl 2 rfl) ?_
  refine lv_bipush (v := 6) hx hb dX2_joinNode_1 (by decide) ?_
  refine lv_imul hx hb dX2_joinNode_3 ?_
  refine lv_topi (fun y_1 ey_1 => ?_)
  have i_1 : y_1.toInt = p0.toInt * 6 := ki_mul ey_1 rfl rfl (om_95 b0) (om_96 b1)
  refine lv_istore_n (lv' := [(3, .int y_1), (0, .ref q_t), (1, .ref h0), (2, .int p0)]) hx hb dX2_joinNode_4 rfl hl (by decide) rfl (fun ls hl => ?_)
  refine lv_iconst (v := 0) hx hb dX2_joinNode_5 (by decide) ?_
  refine lv_istore (lv' := [(4, .int 0), (3, .int y_1), (0, .ref q_t), (1, .ref h0), (2, .int p0)]) hx hb dX2_joinNode_6 hl (by decide) rfl (fun ls hl => ?_)
  have LP1 : ∀ (n : Nat) (i : Int32) (zz : Int32) (yv : Nat → Int32) (yn : Nat → Int32), (0 ≤ i.toInt) → (i.toInt ≤ (fs p0.toNatClampNeg).toInt) → (0 ≤ zz.toInt) → (zz.toInt ≤ vs.toInt + i.toInt) → (mj_vs yv yn 0 zz.toNatClampNeg (fun w => mua w + mj_pm uv un (6 * p0.toNatClampNeg) i.toNatClampNeg w)) → ((fs p0.toNatClampNeg).toInt - i.toInt).toNat < n → ∀ (H : Heap) (locs : List Loc), va_P (dC, dI) vwCl [kx_2 q_t q_row q_joined q_from q_to q_size q_lossOf q_lessBy q_value q_number nodes here, kx_a q_size cyI 319 fs, kx_a q_lossOf cyI 319 fo, kx_a q_value cyI 1914 uv, kx_a q_number cyI 1914 un, kx_3 h0 a_v a_n zz lo le, kx_a a_v cyI 12 yv, kx_a a_n cyI 12 yn] H → va_D A [kx_2 q_t q_row q_joined q_from q_to q_size q_lossOf q_lessBy q_value q_number nodes here, kx_a q_size cyI 319 fs, kx_a q_lossOf cyI 319 fo, kx_a q_value cyI 1914 uv, kx_a q_number cyI 1914 un, kx_3 h0 a_v a_n zz lo le, kx_a a_v cyI 12 yv, kx_a a_n cyI 12 yn] → va_S A s.heap H locs → ∀ (ls : Array Slot), lv_has ls 5 [(4, .int i), (3, .int y_1), (0, .ref q_t), (1, .ref h0), (2, .int p0)] → W p l e (headSpec wsX2_joinNode ({ frames := 1, cells := 0, slots := 0, locals := 45 })).room s m ([.ref q_t, .ref h0, .int p0] : List Value).toArray below meth c H locs 0 0 (MQ below (va_Qv (fun u : Int32 × Int32 × (Nat → Int32) × (Nat → Int32) => mj_vs u.2.2.1 u.2.2.2 0 u.1.toNatClampNeg (fun w => mua w + mub w) ∧ u.2.1 = lo + fo p0.toNatClampNeg ∧ 0 ≤ u.1.toInt ∧ u.1.toInt ≤ vs.toInt + (fs p0.toNatClampNeg).toInt) (fun (u : Int32 × Int32 × (Nat → Int32) × (Nat → Int32)) (t : State) => va_P (dC, dI) vwCl [kx_2 q_t q_row q_joined q_from q_to q_size q_lossOf q_lessBy q_value q_number nodes here, kx_a q_size cyI 319 fs, kx_a q_lossOf cyI 319 fo, kx_a q_value cyI 1914 uv, kx_a q_number cyI 1914 un, kx_3 h0 a_v a_n u.1 u.2.1 le, kx_a a_v cyI 12 u.2.2.1, kx_a a_n cyI 12 u.2.2.2] t.heap ∧ va_K (dC, dI) vwCl [(cyI, .int)] t ∧ va_D A [kx_2 q_t q_row q_joined q_from q_to q_size q_lossOf q_lessBy q_value q_number nodes here, kx_a q_size cyI 319 fs, kx_a q_lossOf cyI 319 fo, kx_a q_value cyI 1914 uv, kx_a q_number cyI 1914 un, kx_3 h0 a_v a_n u.1 u.2.1 le, kx_a a_v cyI 12 u.2.2.1, kx_a a_n cyI 12 u.2.2.2]) A) ([.ref q_t, .ref h0, .int p0] : List Value).toArray s 0 0 A) (F0 m 8 ls []) := by
    intro n
    induction n with
    | zero => intro i zz yv yn LP1_h0 LP1_h1 LP1_h2 LP1_h3 LP1_h4 hn; exact absurd hn (Nat.not_lt_zero _)
    | succ n ih1 =>
      intro i zz yv yn LP1_h0 LP1_h1 LP1_h2 LP1_h3 LP1_h4 hn1 H locs hP hD hS ls hl
      have n_i := ki_nat i rfl (om_10 LP1_h0)
      refine lv_iload hx hb dX2_joinNode_8 (lv_at hl 0 rfl) ?_
      refine lv_aload_n hx hb dX2_joinNode_10 rfl (lv_at hl 2 rfl) ?_
      refine va_get (D := (dC, dI)) (ci := 2) (v := .ref q_size) (C := RX2) (T := TX2) (N := 11) hx hb hts hi_2 hown hK hP 0 rfl rfl 4 (by decide) hf_25 (fun _ h9 => h9) rfl dX2_joinNode_11 ?_
      refine lv_iload_n hx hb dX2_joinNode_14 rfl (lv_at hl 4 rfl) ?_
      refine va_iald hx hb hK hP 1 0 rfl rfl (ki_in (om_10 b0) (om_61 b1)) dX2_joinNode_15 ?_
      refine lv_topi (fun y_2 ey_2 => ?_)
      have j_2 : y_2.toInt = (fs p0.toNatClampNeg).toInt := congrArg Int32.toInt ey_2
      refine lv_icmp_ge (tgt := 47) hx hb dX2_joinNode_16 (by decide) (fun c_3 => ?_) (fun c_3 => ?_)
      · have i_3 : y_2.toInt ≤ i.toInt := kc_le c_3
        refine lv_aload_n hx hb dX2_joinNode_47 rfl (lv_at hl 3 rfl) ?_
        refine lv_dup hx hb dX2_joinNode_48 rfl ?_
        refine va_get (D := (dC, dI)) (ci := 3) (v := .int lo) (C := RX3) (T := TX3) (N := 5) hx hb hts hi_3 hown hK hP 5 rfl rfl 3 (by decide) hf_91 (fun _ h9 => h9) rfl dX2_joinNode_49 ?_
        refine lv_aload_n hx hb dX2_joinNode_52 rfl (lv_at hl 2 rfl) ?_
        refine va_get (D := (dC, dI)) (ci := 2) (v := .ref q_lossOf) (C := RX2) (T := TX2) (N := 11) hx hb hts hi_2 hown hK hP 0 rfl rfl 5 (by decide) hf_28 (fun _ h9 => h9) rfl dX2_joinNode_53 ?_
        refine lv_iload_n hx hb dX2_joinNode_56 rfl (lv_at hl 4 rfl) ?_
        refine va_iald hx hb hK hP 2 0 rfl rfl (ki_in (om_10 b0) (om_61 b1)) dX2_joinNode_57 ?_
        refine lv_topi (fun y_4 ey_4 => ?_)
        have j_4 : y_4.toInt = (fo p0.toNatClampNeg).toInt := congrArg Int32.toInt ey_4
        refine lv_iadd hx hb dX2_joinNode_58 ?_
        refine lv_topi (fun y_5 ey_5 => ?_)
        refine va_put (D := (dC, dI)) (ci := 3) (v := .int y_5) (ty := .int) (C := RX3) (T := TX3) (N := 5) hx hb hts hi_3 tyX3 tyX3_ok nmX3 hown hK hP hD hS 5 rfl rfl 3 (by decide) hf_91 (fun _ h9 => h9) rfl (by decide +kernel) rfl rfl (Nat.le_of_ble_eq_true rfl) dX2_joinNode_59 (fun H locs hP hD hS => ?_)
        obtain ⟨hP, hD⟩ := kx_re (w2 := [kx_2 q_t q_row q_joined q_from q_to q_size q_lossOf q_lessBy q_value q_number nodes here, kx_a q_size cyI 319 fs, kx_a q_lossOf cyI 319 fo, kx_a q_value cyI 1914 uv, kx_a q_number cyI 1914 un, kx_3 h0 a_v a_n zz y_5 le, kx_a a_v cyI 12 yv, kx_a a_n cyI 12 yn]) hP hD rfl
        have hP9 := hP
        have hD9 := hD
        have hK9 := hK
        exact W.vret hx hb hr (hlocks := hlocks) (fun t ht hW => ⟨⟨(zz, y_5, yv, yn), rfl, ⟨mj_done LP1_h4 vb (by omega), (by (try dsimp only); rw [ey_5, ey_4]), (by (try dsimp only); omega), (by (try dsimp only); omega)⟩, by rw [ht]; exact hP9, va_K.moved hW.alike hK9, hD9⟩, hS.F ht⟩) hS.2.2 dX2_joinNode_62
      · have i_3 : i.toInt < y_2.toInt := kc_nle c_3
        refine lv_aload_n hx hb dX2_joinNode_19 rfl (lv_at hl 3 rfl) ?_
        refine lv_aload_n hx hb dX2_joinNode_20 rfl (lv_at hl 2 rfl) ?_
        refine va_get (D := (dC, dI)) (ci := 2) (v := .ref q_value) (C := RX2) (T := TX2) (N := 11) hx hb hts hi_2 hown hK hP 0 rfl rfl 7 (by decide) hf_34 (fun _ h9 => h9) rfl dX2_joinNode_21 ?_
        refine lv_iload_n hx hb dX2_joinNode_24 rfl (lv_at hl 1 rfl) ?_
        refine lv_iload hx hb dX2_joinNode_25 (lv_at hl 0 rfl) ?_
        refine lv_iadd hx hb dX2_joinNode_27 ?_
        refine lv_topi (fun y_6 ey_6 => ?_)
        have i_6 : y_6.toInt = y_1.toInt + i.toInt := ki_add ey_6 rfl rfl (om_97 b0 i_1 LP1_h0) (om_500 b1 n3 i_1 LP1_h1)
        refine va_iald hx hb hK hP 3 0 rfl rfl (ki_in (om_99 b0 i_1 LP1_h0 i_6) (om_501 b1 n3 i_1 j_2 i_3 i_6)) dX2_joinNode_28 ?_
        refine lv_topi (fun y_7 ey_7 => ?_)
        have j_7 : y_7.toInt = (uv y_6.toNatClampNeg).toInt := congrArg Int32.toInt ey_7
        refine lv_aload_n hx hb dX2_joinNode_29 rfl (lv_at hl 2 rfl) ?_
        refine va_get (D := (dC, dI)) (ci := 2) (v := .ref q_number) (C := RX2) (T := TX2) (N := 11) hx hb hts hi_2 hown hK hP 0 rfl rfl 8 (by decide) hf_37 (fun _ h9 => h9) rfl dX2_joinNode_30 ?_
        refine lv_iload_n hx hb dX2_joinNode_33 rfl (lv_at hl 1 rfl) ?_
        refine lv_iload hx hb dX2_joinNode_34 (lv_at hl 0 rfl) ?_
        refine lv_iadd hx hb dX2_joinNode_36 ?_
        refine lv_topi (fun y_8 ey_8 => ?_)
        have i_8 : y_8.toInt = y_1.toInt + i.toInt := ki_add ey_8 rfl rfl (om_97 b0 i_1 LP1_h0) (om_500 b1 n3 i_1 LP1_h1)
        refine va_iald hx hb hK hP 4 0 rfl rfl (ki_in (om_99 b0 i_1 LP1_h0 i_8) (om_501 b1 n3 i_1 j_2 i_3 i_8)) dX2_joinNode_37 ?_
        refine lv_topi (fun y_9 ey_9 => ?_)
        have j_9 : y_9.toInt = (un y_8.toNatClampNeg).toInt := congrArg Int32.toInt ey_9
        obtain ⟨hPc, hDc, hFc, hCc⟩ := kx_preM (wc := [kx_3 h0 a_v a_n zz lo le, kx_a a_v cyI 12 yv, kx_a a_n cyI 12 yn]) hP hD hS hA [false, false, false, false, false, true, true, true] rfl
        have hKc := hK
        refine va_callv (va_runV (As := [.int y_7, .int y_9]) (rest := []) ⟨hx, hb, hml, hown, hts⟩ (kx_un (c_X3_add_x l dC dI h0 a_v a_n cyI zz lo le yv yn y_7 y_9 H.size LP1_h2 (om_315 n1 n3 LP1_h3 j_2 i_3))) (cwV 2 hts gX2_joinNode_X3_add rfl rfl rfl (by decide +kernel) ⟨Nat.le_of_ble_eq_true rfl, Nat.le_of_ble_eq_true rfl⟩) ⟨fun a U g mk q => by obtain ⟨q0, q1, qP, qK, qD⟩ := q; exact ⟨q0, q1, qP, va_K.moved (u := U) (U := U.calling g mk a) (Vm.Alike.refl U.vm) qK, qD⟩, kx_rc3 hKc hPc (q0 := 0) rfl, fun U hU hW => ⟨rfl, by rw [hU], by rw [hU]; exact hPc, va_K.moved hW.alike hKc, hDc.weaken (fun _ _ _ _ => trivial)⟩⟩ rfl rfl hl.1 rfl (lv_room (Nat.le_of_ble_eq_true rfl)) dX2_joinNode_38 ⟨Nat.le_of_ble_eq_true rfl, Nat.le_of_ble_eq_true rfl⟩) hS (fun q _ h => hFc q h) hFc (fun u t H1 locs ht hvm w_10 hB hz1 hk1 hS => ?_)
        obtain ⟨o_11, o_12, o_13⟩ := u
        dsimp only at w_10 hB
        obtain ⟨hP1, hK1, hD1⟩ := hB
        rw [ht] at hP1
        have hK1 := va_K.moved hvm.symm hK1
        obtain ⟨hP, hD⟩ := kx_joinM (w2 := [kx_2 q_t q_row q_joined q_from q_to q_size q_lossOf q_lessBy q_value q_number nodes here, kx_a q_size cyI 319 fs, kx_a q_lossOf cyI 319 fo, kx_a q_value cyI 1914 uv, kx_a q_number cyI 1914 un, kx_3 h0 a_v a_n o_11 lo le, kx_a a_v cyI 12 o_12, kx_a a_n cyI 12 o_13]) hP hD hP1 hD1 hk1 hFc [false, false, false, false, false, true, true, true] hCc rfl
        clear hP1 hD1 hK1 hk1 hz1 hFc hDc hPc hKc hCc
        generalize H1 = H at hP hS ⊢
        have w_10 : mj_addR yv yn zz.toNatClampNeg y_7 y_9 o_12 o_13 o_11.toNatClampNeg ∧ zz.toInt ≤ o_11.toInt ∧ o_11.toInt ≤ zz.toInt + 1 := w_10
        obtain ⟨x_14, ex_14⟩ : ∃ y : Int32, y = i + 1 := ⟨_, rfl⟩
        have i_14 : x_14.toInt = i.toInt + 1 := ki_add ex_14 rfl rfl (om_13 LP1_h0) (om_316 n3 LP1_h1)
        refine lv_iinc (v := x_14) (lv' := [(4, .int x_14), (3, .int y_1), (0, .ref q_t), (1, .ref h0), (2, .int p0)]) hx hb dX2_joinNode_41 hl (k := 0) rfl (by rw [ex_14]; rfl) (by decide) rfl (fun ls hl => ?_)
        refine lv_goto (tgt := 8) hx hb dX2_joinNode_44 (by decide) ?_
        have n_15 := ki_nat x_14 rfl (om_34 LP1_h0 i_14)
        have n_16 := ki_nat y_6 rfl (om_99 b0 i_1 LP1_h0 i_6)
        have n_17 := ki_nat y_8 rfl (om_99 b0 i_1 LP1_h0 i_8)
        exact ih1 x_14 o_11 o_12 o_13 (om_34 LP1_h0 i_14) (om_317 j_2 i_3 i_14) (om_0 LP1_h2 w_10.2.1) (om_318 LP1_h3 w_10.2.2 i_14) (by rw [show x_14.toNatClampNeg = i.toNatClampNeg + 1 by omega]; exact mj_step (i := i.toNatClampNeg) (q := y_6.toNatClampNeg) (q2 := y_8.toNatClampNeg) vb (by omega) (by omega) (by omega) ey_7 ey_9 (mj_hb2 bd _) LP1_h4 w_10.1) (om_mu hn1 (om_319 n2 i_14) (om_320 j_2 i_3)) _ _ hP hD hS ls (lv_sub hl [0, 1, 2, 3, 4] rfl)
  have k_18 : (0 : Int32).toInt = 0 := rfl
  exact LP1 (((fs p0.toNatClampNeg).toInt - 0 : Int).toNat + 1) 0 vs fv fn om_35 (om_10 n2) (om_10 n0) om_502 (mj_vs_congr va (fun w => (Int.add_zero (mua w)).symm)) (Nat.lt_succ_self _) _ _ hP hD hS ls (lv_sub hl [0, 1, 2, 3, 4] rfl)



set_option maxHeartbeats 4000000 in
set_option maxRecDepth 100000 in
theorem c_X2_putTogether_x (l : Launch) (dC : Nat → ClassId) (dI : Nat → Nat → Nat) (q_t : Nat) (q_row : Nat) (q_joined : Nat) (q_from : Nat) (q_to : Nat) (q_size : Nat) (q_lossOf : Nat) (q_lessBy : Nat) (q_value : Nat) (q_number : Nat) (nodes : Int32) (here : Int32) (q_cell : Nat) (cyI : ClassId) (len : Int32) (f : Nat → Int32) (ff : Nat → Int32) (ft : Nat → Int32) (fs : Nat → Int32) (fo : Nat → Int32) (uv : Nat → Int32) (un : Nat → Int32) (fe : Nat → Int32) (j_v : Nat) (j_n : Nat) (js : Int32) (jl : Int32) (je : Int32) (jv : Nat → Int32) (jn : Nat → Int32) (p0 : Int32) (sz : Nat) (b0 : 0 ≤ p0.toInt) (b1 : p0.toInt < nodes.toInt) (c0 : nodes.toInt ≤ 319) (c1 : len.toInt ≤ 160) (t0 : treeOk ff ft nodes.toInt len.toInt) (k0 : 1 ≤ here.toInt) (k1 : here.toInt ≤ 6) (hc : mj_ch here.toNatClampNeg f ff ft fs fo fe uv un p0.toNatClampNeg) : kx_MQ l (dC, dI) yX2_putTogether wsX2_putTogether ({ frames := 3, cells := 0, slots := 0, locals := 135 }) [.ref q_t, .int p0] [kx_2 q_t q_row q_joined q_from q_to q_size q_lossOf q_lessBy q_value q_number nodes here, kx_0 q_row q_cell len, kx_a q_cell cyI 160 f, kx_a q_from cyI 319 ff, kx_a q_to cyI 319 ft, kx_a q_size cyI 319 fs, kx_a q_lossOf cyI 319 fo, kx_a q_value cyI 1914 uv, kx_a q_number cyI 1914 un, kx_3 q_joined j_v j_n js jl je, kx_a j_v cyI 12 jv, kx_a j_n cyI 12 jn] [(cyI, .int)] sz (fun A => va_Qv (fun u : Int32 × Int32 × Int32 × (Nat → Int32) × (Nat → Int32) × (Int32 → Int) => mj_jn here.toNatClampNeg f ff ft fs fo fe uv un p0.toNatClampNeg u.2.2.2.2.2 u.2.1 u.2.2.1 ∧ mj_vs u.2.2.2.1 u.2.2.2.2.1 0 u.1.toNatClampNeg u.2.2.2.2.2 ∧ mj_srt u.2.2.2.1 u.2.2.2.2.1 0 u.1.toNatClampNeg ∧ 0 ≤ u.1.toInt ∧ u.1.toInt ≤ here.toInt) (fun (u : Int32 × Int32 × Int32 × (Nat → Int32) × (Nat → Int32) × (Int32 → Int)) (t : State) => va_P (dC, dI) vwCl [kx_2 q_t q_row q_joined q_from q_to q_size q_lossOf q_lessBy q_value q_number nodes here, kx_0 q_row q_cell len, kx_a q_cell cyI 160 f, kx_a q_from cyI 319 ff, kx_a q_to cyI 319 ft, kx_a q_size cyI 319 fs, kx_a q_lossOf cyI 319 fo, kx_a q_value cyI 1914 uv, kx_a q_number cyI 1914 un, kx_3 q_joined j_v j_n u.1 u.2.1 u.2.2.1, kx_a j_v cyI 12 u.2.2.2.1, kx_a j_n cyI 12 u.2.2.2.2.1] t.heap ∧ va_K (dC, dI) vwCl [(cyI, .int)] t ∧ va_D A [kx_2 q_t q_row q_joined q_from q_to q_size q_lossOf q_lessBy q_value q_number nodes here, kx_0 q_row q_cell len, kx_a q_cell cyI 160 f, kx_a q_from cyI 319 ff, kx_a q_to cyI 319 ft, kx_a q_size cyI 319 fs, kx_a q_lossOf cyI 319 fo, kx_a q_value cyI 1914 uv, kx_a q_number cyI 1914 un, kx_3 q_joined j_v j_n u.1 u.2.1 u.2.2.1, kx_a j_v cyI 12 u.2.2.2.1, kx_a j_n cyI 12 u.2.2.2.2.1]) A) := by
  refine kx_stQ (ws := wsX2_putTogether) (cc := cX2_putTogether) (maxL := 2) (ret := none) (by decide) rfl (Nat.le_of_ble_eq_true rfl) ?_
  intro p e s m below meth c A ls hx hb hr hlocks hts hown hml hA hS hP hK hD hl
  have hown : s.vm.findClass RX2 = some m.cls := hown
  have hl : lv_has ls 2 [(0, .ref q_t), (1, .int p0)] := hl
  have hf_12 := hts (.fieldLink RX2 12 "MajorityIndex$Tree" "joined" "LMajorityIndex$Votes;") (List.mem_of_getElem? (i := 1) rfl)
  have hi_2 : ∀ w ∈ u_ws RX2 TX2 11, w ∈ wsX2_putTogether := fun w h => List.mem_cons_of_mem _ (List.mem_append_left _ (List.mem_append_left _ (List.mem_append_right _ h)))
  have hf_22 := hts (.fieldLink RX2 22 "MajorityIndex$Tree" "to" "[I") (List.mem_of_getElem? (i := 2) rfl)
  have hf_18 := hts (.fieldLink RX2 18 "MajorityIndex$Tree" "from" "[I") (List.mem_of_getElem? (i := 3) rfl)
  have hf_85 := hts (.fieldLink RX2 85 "MajorityIndex$Tree" "slotsHere" "I") (List.mem_of_getElem? (i := 6) rfl)
  have hf_40 := hts (.fieldLink RX2 40 "MajorityIndex$Tree" "row" "LMajorityIndex$Row;") (List.mem_of_getElem? (i := 4) rfl)
  have hf_74 := hts (.fieldLink RX2 74 "MajorityIndex$Row" "cell" "[I") (List.mem_of_getElem? (i := 5) rfl)
  have hi_0 : ∀ w ∈ u_ws RX0 TX0 2, w ∈ wsX2_putTogether := fun w h => List.mem_cons_of_mem _ (List.mem_append_left _ (List.mem_append_right _ h))
  refine lv_aload_n hx hb dX2_putTogether_0 rfl (lv_at hl 0 rfl) ?_
  refine va_get (D := (dC, dI)) (ci := 2) (v := .ref q_joined) (C := RX2) (T := TX2) (N := 11) hx hb hts hi_2 hown hK hP 0 rfl rfl 1 (by decide) hf_12 (fun _ h9 => h9) rfl dX2_putTogether_1 ?_
  obtain ⟨hPc, hDc, hFc, hCc⟩ := kx_preM (wc := [kx_3 q_joined j_v j_n js jl je]) hP hD hS hA [false, false, false, false, false, false, false, false, false, true, false, false] rfl
  have hKc := hK.sub (tys' := []) [] rfl
  refine va_callv (va_runV (As := []) (rest := []) ⟨hx, hb, hml, hown, hts⟩ (kx_un (c_X3_clear l dC dI q_joined j_v j_n js jl je s.heap.size)) (cwV 0 hts gX2_putTogether_X3_clear rfl rfl rfl (by decide +kernel) ⟨Nat.le_of_ble_eq_true rfl, Nat.le_of_ble_eq_true rfl⟩) ⟨fun a U g mk q => by obtain ⟨q0, q1, qP, qK, qD⟩ := q; exact ⟨q0, q1, qP, va_K.moved (u := U) (U := U.calling g mk a) (Vm.Alike.refl U.vm) qK, qD⟩, kx_rc3 hKc hPc (q0 := 0) rfl, fun U hU hW => ⟨rfl, by rw [hU], by rw [hU]; exact hPc, va_K.moved hW.alike hKc, hDc.weaken (fun _ _ _ _ => trivial)⟩⟩ rfl rfl hl.1 rfl (lv_room (Nat.le_of_ble_eq_true rfl)) dX2_putTogether_4 ⟨Nat.le_of_ble_eq_true rfl, Nat.le_of_ble_eq_true rfl⟩) hS (fun q _ h => hFc q h) hFc (fun u t H1 locs ht hvm w_1 hB hz1 hk1 hS => ?_)
  obtain ⟨hP1, hK1, hD1⟩ := hB
  rw [ht] at hP1
  have hK1 := va_K.moved hvm.symm hK1
  obtain ⟨hP, hD⟩ := kx_joinM (w2 := [kx_2 q_t q_row q_joined q_from q_to q_size q_lossOf q_lessBy q_value q_number nodes here, kx_0 q_row q_cell len, kx_a q_cell cyI 160 f, kx_a q_from cyI 319 ff, kx_a q_to cyI 319 ft, kx_a q_size cyI 319 fs, kx_a q_lossOf cyI 319 fo, kx_a q_value cyI 1914 uv, kx_a q_number cyI 1914 un, kx_3 q_joined j_v j_n 0 0 0, kx_a j_v cyI 12 jv, kx_a j_n cyI 12 jn]) hP hD hP1 hD1 hk1 hFc [false, false, false, false, false, false, false, false, false, true, false, false] hCc rfl
  clear hP1 hD1 hK1 hk1 hz1 hFc hDc hPc hKc hCc
  generalize H1 = H at hP hS ⊢
  have k_0 : (0 : Int32).toInt = 0 := rfl
  refine lv_aload_n hx hb dX2_putTogether_7 rfl (lv_at hl 0 rfl) ?_
  refine va_get (D := (dC, dI)) (ci := 2) (v := .ref q_to) (C := RX2) (T := TX2) (N := 11) hx hb hts hi_2 hown hK hP 0 rfl rfl 3 (by decide) hf_22 (fun _ h9 => h9) rfl dX2_putTogether_8 ?_
  refine lv_iload_n hx hb dX2_putTogether_11 rfl (lv_at hl 1 rfl) ?_
  refine va_iald hx hb hK hP 4 0 rfl rfl (ki_in (om_10 b0) (om_110 b1 c0)) dX2_putTogether_12 ?_
  refine lv_topi (fun y_2 ey_2 => ?_)
  have j_2 : y_2.toInt = (ft p0.toNatClampNeg).toInt := congrArg Int32.toInt ey_2
  have n_3 : (p0.toNatClampNeg : Int) = p0.toInt := ki_nat _ rfl (om_10 b0)
  have i_4 := t0 p0.toNatClampNeg (by omega)
  unfold okAt at i_4
  refine lv_aload_n hx hb dX2_putTogether_13 rfl (lv_at hl 0 rfl) ?_
  refine va_get (D := (dC, dI)) (ci := 2) (v := .ref q_from) (C := RX2) (T := TX2) (N := 11) hx hb hts hi_2 hown hK hP 0 rfl rfl 2 (by decide) hf_18 (fun _ h9 => h9) rfl dX2_putTogether_14 ?_
  refine lv_iload_n hx hb dX2_putTogether_17 rfl (lv_at hl 1 rfl) ?_
  refine va_iald hx hb hK hP 3 0 rfl rfl (ki_in (om_10 b0) (om_110 b1 c0)) dX2_putTogether_18 ?_
  refine lv_topi (fun y_5 ey_5 => ?_)
  have j_5 : y_5.toInt = (ff p0.toNatClampNeg).toInt := congrArg Int32.toInt ey_5
  have n_6 : (p0.toNatClampNeg : Int) = p0.toInt := ki_nat _ rfl (om_10 b0)
  have i_7 := t0 p0.toNatClampNeg (by omega)
  unfold okAt at i_7
  refine lv_isub hx hb dX2_putTogether_19 ?_
  refine lv_topi (fun y_8 ey_8 => ?_)
  have i_8 : y_8.toInt = y_2.toInt - y_5.toInt := ki_sub ey_8 rfl rfl (by omega) (by omega)
  refine lv_iconst (v := 1) hx hb dX2_putTogether_20 (by decide) ?_
  refine lv_icmp_ne (tgt := 49) hx hb dX2_putTogether_21 (by decide) (fun c_9 => ?_) (fun c_9 => ?_)
  · have i_9 : ¬ y_8.toInt = 1 := kc_ne c_9
    have n_p0 := ki_nat p0 rfl (om_10 b0)
    have n_f := ki_nat (ff p0.toNatClampNeg) rfl (by omega)
    have n_t := ki_nat (ft p0.toNatClampNeg) rfl (by omega)
    obtain ⟨hc0, d, mua, La, ca, mub, Lb, cb, tA, tB⟩ := Or.resolve_left hc (by omega)
    have nA := mj_T_nd tA
    have nB := mj_T_nd tB
    have lA := mj_T_le _ _ _ _ _ _ _ tA
    have lB := mj_T_le _ _ _ _ _ _ _ tB
    have hm : mj_mid ff ft p0.toNatClampNeg = ((ff p0.toNatClampNeg).toNatClampNeg + (ft p0.toNatClampNeg).toNatClampNeg) / 2 := rfl
    refine lv_aload_n hx hb dX2_putTogether_49 rfl (lv_at hl 0 rfl) ?_
    refine lv_aload_n hx hb dX2_putTogether_50 rfl (lv_at hl 0 rfl) ?_
    refine va_get (D := (dC, dI)) (ci := 2) (v := .ref q_joined) (C := RX2) (T := TX2) (N := 11) hx hb hts hi_2 hown hK hP 0 rfl rfl 1 (by decide) hf_12 (fun _ h9 => h9) rfl dX2_putTogether_51 ?_
    refine lv_iload_n hx hb dX2_putTogether_54 rfl (lv_at hl 1 rfl) ?_
    refine lv_iconst (v := 1) hx hb dX2_putTogether_55 (by decide) ?_
    refine lv_iadd hx hb dX2_putTogether_56 ?_
    refine lv_topi (fun y_10 ey_10 => ?_)
    have i_10 : y_10.toInt = p0.toInt + 1 := ki_add ey_10 rfl rfl (om_13 b0) (om_111 b1 c0)
    have n_11 := ki_nat y_10 rfl (om_34 b0 i_10)
    have q_56 : y_10.toNatClampNeg = p0.toNatClampNeg + 1 := by omega
    obtain ⟨hPc, hDc, hFc, hCc⟩ := kx_preM (wc := [kx_2 q_t q_row q_joined q_from q_to q_size q_lossOf q_lessBy q_value q_number nodes here, kx_a q_size cyI 319 fs, kx_a q_lossOf cyI 319 fo, kx_a q_value cyI 1914 uv, kx_a q_number cyI 1914 un, kx_3 q_joined j_v j_n 0 0 0, kx_a j_v cyI 12 jv, kx_a j_n cyI 12 jn]) hP hD hS hA [true, false, false, false, false, true, true, true, true, true, true, true] rfl
    have hKc := hK
    refine va_callv (va_runV (As := [.ref q_joined, .int y_10]) (rest := []) ⟨hx, hb, hml, hown, hts⟩ (kx_un (c_X2_joinNode_x l dC dI q_t q_row q_joined q_from q_to q_size q_lossOf q_lessBy q_value q_number nodes here q_joined j_v j_n cyI 0 0 0 jv jn fs fo uv un mj_z mua y_10 H.size (by omega) (by omega) (by omega) (by omega) (by rw [q_56]; exact nA.2.2.1) (by rw [q_56]; exact nA.2.2.2.1) (mj_vs_zero _ _ _) (by rw [q_56]; exact nA.2.2.2.2.2.2.2.1) (fun v => by have h1 := lA v; show (0 : Int) + _ ≤ _; omega))) (cwV 2 hts gX2_putTogether_X2_joinNode rfl rfl rfl (by decide +kernel) ⟨Nat.le_of_ble_eq_true rfl, Nat.le_of_ble_eq_true rfl⟩) ⟨fun a U g mk q => by obtain ⟨q0, q1, qP, qK, qD⟩ := q; exact ⟨q0, q1, qP, va_K.moved (u := U) (U := U.calling g mk a) (Vm.Alike.refl U.vm) qK, qD⟩, kx_rc2 hKc hPc (q0 := 0) rfl, fun U hU hW => ⟨rfl, by rw [hU], by rw [hU]; exact hPc, va_K.moved hW.alike hKc, hDc.weaken (fun _ _ _ _ => trivial)⟩⟩ rfl rfl hl.1 rfl (lv_room (Nat.le_of_ble_eq_true rfl)) dX2_putTogether_57 ⟨Nat.le_of_ble_eq_true rfl, Nat.le_of_ble_eq_true rfl⟩) hS (fun q _ h => hFc q h) hFc (fun u t H1 locs ht hvm w_12 hB hz1 hk1 hS => ?_)
    obtain ⟨o_13, o_14, o_15, o_16⟩ := u
    dsimp only at w_12 hB
    obtain ⟨hP1, hK1, hD1⟩ := hB
    rw [ht] at hP1
    have hK1 := va_K.moved hvm.symm hK1
    obtain ⟨hP, hD⟩ := kx_joinM (w2 := [kx_2 q_t q_row q_joined q_from q_to q_size q_lossOf q_lessBy q_value q_number nodes here, kx_0 q_row q_cell len, kx_a q_cell cyI 160 f, kx_a q_from cyI 319 ff, kx_a q_to cyI 319 ft, kx_a q_size cyI 319 fs, kx_a q_lossOf cyI 319 fo, kx_a q_value cyI 1914 uv, kx_a q_number cyI 1914 un, kx_3 q_joined j_v j_n o_13 o_14 0, kx_a j_v cyI 12 o_15, kx_a j_n cyI 12 o_16]) hP hD hP1 hD1 hk1 hFc [true, false, false, false, false, true, true, true, true, true, true, true] hCc rfl
    clear hP1 hD1 hK1 hk1 hz1 hFc hDc hPc hKc hCc
    generalize H1 = H at hP hS ⊢
    have w_12 : mj_vs o_15 o_16 0 o_13.toNatClampNeg (fun w => mj_z w + mua w) ∧ o_14 = 0 + fo y_10.toNatClampNeg ∧ 0 ≤ o_13.toInt ∧ o_13.toInt ≤ 0 + (fs y_10.toNatClampNeg).toInt := w_12
    refine lv_aload_n hx hb dX2_putTogether_60 rfl (lv_at hl 0 rfl) ?_
    refine lv_aload_n hx hb dX2_putTogether_61 rfl (lv_at hl 0 rfl) ?_
    refine va_get (D := (dC, dI)) (ci := 2) (v := .ref q_joined) (C := RX2) (T := TX2) (N := 11) hx hb hts hi_2 hown hK hP 0 rfl rfl 1 (by decide) hf_12 (fun _ h9 => h9) rfl dX2_putTogether_62 ?_
    refine lv_aload_n hx hb dX2_putTogether_65 rfl (lv_at hl 0 rfl) ?_
    refine lv_iload_n hx hb dX2_putTogether_66 rfl (lv_at hl 1 rfl) ?_
    have hPc := hP.sub (ws' := [kx_2 q_t q_row q_joined q_from q_to q_size q_lossOf q_lessBy q_value q_number nodes here, kx_a q_from cyI 319 ff, kx_a q_to cyI 319 ft]) [0, 3, 4] rfl
    have hKc := hK
    refine vp_callSi (W.runV (As := [.int p0]) (rest := [.ref q_joined, .ref q_t]) ⟨hx, hb, hml, hown, hts⟩ (c_X2_rightBelow l dC dI q_t q_row q_joined q_from q_to q_size q_lossOf q_lessBy q_value q_number nodes here cyI ff ft p0 b0 (om_112 b1 c0) (by omega) (by omega) (by omega)) (cwV 1 hts gX2_putTogether_X2_rightBelow rfl rfl rfl (by decide +kernel) ⟨Nat.le_of_ble_eq_true rfl, Nat.le_of_ble_eq_true rfl⟩) ⟨fun a U g mk q => by obtain ⟨q0, qP, qK⟩ := q; exact ⟨q0, qP, va_K.moved (u := U) (U := U.calling g mk a) (Vm.Alike.refl U.vm) qK⟩, kx_rc2 hKc hPc (q0 := 0) rfl, fun U hU hW => ⟨rfl, by rw [hU]; exact hPc, va_K.moved hW.alike hKc⟩⟩ rfl rfl hl.1 rfl (lv_room (Nat.le_of_ble_eq_true rfl)) dX2_putTogether_67 ⟨Nat.le_of_ble_eq_true rfl, Nat.le_of_ble_eq_true rfl⟩) (fun r_17 w_17 => ?_)
    have w_17 : r_17.toInt = p0.toInt + 2 * (((ff p0.toNatClampNeg).toInt + (ft p0.toNatClampNeg).toInt) / 2 - (ff p0.toNatClampNeg).toInt) := w_17
    have n_18 := ki_nat r_17 rfl (by omega)
    have q_67 : r_17.toNatClampNeg = p0.toNatClampNeg + 2 * (mj_mid ff ft p0.toNatClampNeg - (ff p0.toNatClampNeg).toNatClampNeg) := by rw [hm]; omega
    obtain ⟨hPc, hDc, hFc, hCc⟩ := kx_preM (wc := [kx_2 q_t q_row q_joined q_from q_to q_size q_lossOf q_lessBy q_value q_number nodes here, kx_a q_size cyI 319 fs, kx_a q_lossOf cyI 319 fo, kx_a q_value cyI 1914 uv, kx_a q_number cyI 1914 un, kx_3 q_joined j_v j_n o_13 o_14 0, kx_a j_v cyI 12 o_15, kx_a j_n cyI 12 o_16]) hP hD hS hA [true, false, false, false, false, true, true, true, true, true, true, true] rfl
    have hKc := hK
    refine va_callv (va_runV (As := [.ref q_joined, .int r_17]) (rest := []) ⟨hx, hb, hml, hown, hts⟩ (kx_un (c_X2_joinNode_x l dC dI q_t q_row q_joined q_from q_to q_size q_lossOf q_lessBy q_value q_number nodes here q_joined j_v j_n cyI o_13 o_14 0 o_15 o_16 fs fo uv un (fun w => mj_z w + mua w) mub r_17 H.size (by omega) (by omega) (by omega) (by have h1 := w_12.2.2.2; rw [q_56] at h1; have h2 := nA.2.2.2.1; omega) (by rw [q_67]; exact nB.2.2.1) (by rw [q_67]; exact nB.2.2.2.1) w_12.1 (by rw [q_67]; exact nB.2.2.2.2.2.2.2.1) (fun v => by have h1 := lA v; have h2 := lB v; show (0 : Int) + _ + _ ≤ _; omega))) (cwV 2 hts gX2_putTogether_X2_joinNode rfl rfl rfl (by decide +kernel) ⟨Nat.le_of_ble_eq_true rfl, Nat.le_of_ble_eq_true rfl⟩) ⟨fun a U g mk q => by obtain ⟨q0, q1, qP, qK, qD⟩ := q; exact ⟨q0, q1, qP, va_K.moved (u := U) (U := U.calling g mk a) (Vm.Alike.refl U.vm) qK, qD⟩, kx_rc2 hKc hPc (q0 := 0) rfl, fun U hU hW => ⟨rfl, by rw [hU], by rw [hU]; exact hPc, va_K.moved hW.alike hKc, hDc.weaken (fun _ _ _ _ => trivial)⟩⟩ rfl rfl hl.1 rfl (lv_room (Nat.le_of_ble_eq_true rfl)) dX2_putTogether_70 ⟨Nat.le_of_ble_eq_true rfl, Nat.le_of_ble_eq_true rfl⟩) hS (fun q _ h => hFc q h) hFc (fun u t H1 locs ht hvm w_19 hB hz1 hk1 hS => ?_)
    obtain ⟨o_20, o_21, o_22, o_23⟩ := u
    dsimp only at w_19 hB
    obtain ⟨hP1, hK1, hD1⟩ := hB
    rw [ht] at hP1
    have hK1 := va_K.moved hvm.symm hK1
    obtain ⟨hP, hD⟩ := kx_joinM (w2 := [kx_2 q_t q_row q_joined q_from q_to q_size q_lossOf q_lessBy q_value q_number nodes here, kx_0 q_row q_cell len, kx_a q_cell cyI 160 f, kx_a q_from cyI 319 ff, kx_a q_to cyI 319 ft, kx_a q_size cyI 319 fs, kx_a q_lossOf cyI 319 fo, kx_a q_value cyI 1914 uv, kx_a q_number cyI 1914 un, kx_3 q_joined j_v j_n o_20 o_21 0, kx_a j_v cyI 12 o_22, kx_a j_n cyI 12 o_23]) hP hD hP1 hD1 hk1 hFc [true, false, false, false, false, true, true, true, true, true, true, true] hCc rfl
    clear hP1 hD1 hK1 hk1 hz1 hFc hDc hPc hKc hCc
    generalize H1 = H at hP hS ⊢
    have w_19 : mj_vs o_22 o_23 0 o_20.toNatClampNeg (fun w => (fun w => mj_z w + mua w) w + mub w) ∧ o_21 = o_14 + fo r_17.toNatClampNeg ∧ 0 ≤ o_20.toInt ∧ o_20.toInt ≤ o_13.toInt + (fs r_17.toNatClampNeg).toInt := w_19
    refine lv_aload_n hx hb dX2_putTogether_73 rfl (lv_at hl 0 rfl) ?_
    refine va_get (D := (dC, dI)) (ci := 2) (v := .ref q_joined) (C := RX2) (T := TX2) (N := 11) hx hb hts hi_2 hown hK hP 0 rfl rfl 1 (by decide) hf_12 (fun _ h9 => h9) rfl dX2_putTogether_74 ?_
    refine lv_aload_n hx hb dX2_putTogether_77 rfl (lv_at hl 0 rfl) ?_
    refine va_get (D := (dC, dI)) (ci := 2) (v := .int here) (C := RX2) (T := TX2) (N := 11) hx hb hts hi_2 hown hK hP 0 rfl rfl 10 (by decide) hf_85 (fun _ h9 => h9) rfl dX2_putTogether_78 ?_
    obtain ⟨hPc, hDc, hFc, hCc⟩ := kx_preM (wc := [kx_3 q_joined j_v j_n o_20 o_21 0, kx_a j_v cyI 12 o_22, kx_a j_n cyI 12 o_23]) hP hD hS hA [false, false, false, false, false, false, false, false, false, true, true, true] rfl
    have hKc := hK
    refine va_callv (va_runV (As := [.int here]) (rest := []) ⟨hx, hb, hml, hown, hts⟩ (kx_un (c_X3_cancel_x l dC dI q_joined j_v j_n cyI o_20 o_21 0 o_22 o_23 (fun w => (fun w => mj_z w + mua w) w + mub w) here H.size (by omega) (by have h1 := w_12.2.2.2; rw [q_56] at h1; have h2 := nA.2.2.2.1; have h3 := w_19.2.2.2; rw [q_67] at h3; have h4 := nB.2.2.2.1; omega) (by omega) (by omega) w_19.1 (fun v => by have h1 := lA v; have h2 := lB v; show (0 : Int) + _ + _ ≤ _; omega))) (cwV 1 hts gX2_putTogether_X3_cancel rfl rfl rfl (by decide +kernel) ⟨Nat.le_of_ble_eq_true rfl, Nat.le_of_ble_eq_true rfl⟩) ⟨fun a U g mk q => by obtain ⟨q0, q1, qP, qK, qD⟩ := q; exact ⟨q0, q1, qP, va_K.moved (u := U) (U := U.calling g mk a) (Vm.Alike.refl U.vm) qK, qD⟩, kx_rc3 hKc hPc (q0 := 0) rfl, fun U hU hW => ⟨rfl, by rw [hU], by rw [hU]; exact hPc, va_K.moved hW.alike hKc, hDc.weaken (fun _ _ _ _ => trivial)⟩⟩ rfl rfl hl.1 rfl (lv_room (Nat.le_of_ble_eq_true rfl)) dX2_putTogether_81 ⟨Nat.le_of_ble_eq_true rfl, Nat.le_of_ble_eq_true rfl⟩) hS (fun q _ h => hFc q h) hFc (fun u t H1 locs ht hvm w_24 hB hz1 hk1 hS => ?_)
    obtain ⟨o_25, o_26, o_27, o_28, o_29, o_30⟩ := u
    dsimp only at w_24 hB
    obtain ⟨hP1, hK1, hD1⟩ := hB
    rw [ht] at hP1
    have hK1 := va_K.moved hvm.symm hK1
    obtain ⟨hP, hD⟩ := kx_joinM (w2 := [kx_2 q_t q_row q_joined q_from q_to q_size q_lossOf q_lessBy q_value q_number nodes here, kx_0 q_row q_cell len, kx_a q_cell cyI 160 f, kx_a q_from cyI 319 ff, kx_a q_to cyI 319 ft, kx_a q_size cyI 319 fs, kx_a q_lossOf cyI 319 fo, kx_a q_value cyI 1914 uv, kx_a q_number cyI 1914 un, kx_3 q_joined j_v j_n o_25 o_26 o_27, kx_a j_v cyI 12 o_28, kx_a j_n cyI 12 o_29]) hP hD hP1 hD1 hk1 hFc [false, false, false, false, false, false, false, false, false, true, true, true] hCc rfl
    clear hP1 hD1 hK1 hk1 hz1 hFc hDc hPc hKc hCc
    generalize H1 = H at hP hS ⊢
    have w_24 : mj_can here.toNatClampNeg (fun w => (fun w => mj_z w + mua w) w + mub w) o_30 o_27 ∧ o_26 = o_21 + o_27 ∧ 0 ≤ o_25.toInt ∧ o_25.toInt ≤ here.toInt ∧ mj_vs o_28 o_29 0 o_25.toNatClampNeg o_30 ∧ mj_srt o_28 o_29 0 o_25.toNatClampNeg ∧ 0 ≤ o_27.toInt := w_24
    have hP9 := hP
    have hD9 := hD
    have hK9 := hK
    exact W.vret hx hb hr (hlocks := hlocks) (fun t ht hW => ⟨⟨(o_25, o_26, o_27, o_28, o_29, o_30), rfl, ⟨Or.inr ⟨hc0, d, mua, La, ca, mub, Lb, cb, tA, tB, mj_can_tog w_24.1 (fun v => by show (0 : Int) + _ + _ = _; omega), (by (try dsimp only); rw [w_24.2.1, w_19.2.1, w_12.2.1, q_56, q_67, nA.2.2.2.2.2.1, nB.2.2.2.2.2.1, Int32.zero_add])⟩, w_24.2.2.2.2.1, w_24.2.2.2.2.2.1, (by (try dsimp only); omega), (by (try dsimp only); omega)⟩, by rw [ht]; exact hP9, va_K.moved hW.alike hK9, hD9⟩, hS.F ht⟩) hS.2.2 dX2_putTogether_84
  · have i_9 : y_8.toInt = 1 := kc_eq c_9
    refine lv_aload_n hx hb dX2_putTogether_24 rfl (lv_at hl 0 rfl) ?_
    refine va_get (D := (dC, dI)) (ci := 2) (v := .ref q_joined) (C := RX2) (T := TX2) (N := 11) hx hb hts hi_2 hown hK hP 0 rfl rfl 1 (by decide) hf_12 (fun _ h9 => h9) rfl dX2_putTogether_25 ?_
    refine lv_aload_n hx hb dX2_putTogether_28 rfl (lv_at hl 0 rfl) ?_
    refine va_get (D := (dC, dI)) (ci := 2) (v := .ref q_row) (C := RX2) (T := TX2) (N := 11) hx hb hts hi_2 hown hK hP 0 rfl rfl 0 (by decide) hf_40 (fun _ h9 => h9) rfl dX2_putTogether_29 ?_
    refine va_get (D := (dC, dI)) (ci := 0) (v := .ref q_cell) (C := RX0) (T := TX0) (N := 2) hx hb hts hi_0 hown hK hP 1 rfl rfl 0 (by decide) hf_74 (fun _ h9 => h9) rfl dX2_putTogether_32 ?_
    refine lv_aload_n hx hb dX2_putTogether_35 rfl (lv_at hl 0 rfl) ?_
    refine va_get (D := (dC, dI)) (ci := 2) (v := .ref q_from) (C := RX2) (T := TX2) (N := 11) hx hb hts hi_2 hown hK hP 0 rfl rfl 2 (by decide) hf_18 (fun _ h9 => h9) rfl dX2_putTogether_36 ?_
    refine lv_iload_n hx hb dX2_putTogether_39 rfl (lv_at hl 1 rfl) ?_
    refine va_iald hx hb hK hP 3 0 rfl rfl (ki_in (om_10 b0) (om_110 b1 c0)) dX2_putTogether_40 ?_
    refine lv_topi (fun y_31 ey_31 => ?_)
    have j_31 : y_31.toInt = (ff p0.toNatClampNeg).toInt := congrArg Int32.toInt ey_31
    have n_32 : (p0.toNatClampNeg : Int) = p0.toInt := ki_nat _ rfl (om_10 b0)
    have i_33 := t0 p0.toNatClampNeg (by omega)
    unfold okAt at i_33
    refine va_iald hx hb hK hP 2 0 rfl rfl (ki_in (by omega) (by omega)) dX2_putTogether_41 ?_
    refine lv_topi (fun y_34 ey_34 => ?_)
    have j_34 : y_34.toInt = (f y_31.toNatClampNeg).toInt := congrArg Int32.toInt ey_34
    refine lv_iconst (v := 1) hx hb dX2_putTogether_42 (by decide) ?_
    obtain ⟨hPc, hDc, hFc, hCc⟩ := kx_preM (wc := [kx_3 q_joined j_v j_n 0 0 0, kx_a j_v cyI 12 jv, kx_a j_n cyI 12 jn]) hP hD hS hA [false, false, false, false, false, false, false, false, false, true, true, true] rfl
    have hKc := hK
    have k_35 : (1 : Int32).toInt = 1 := rfl
    refine va_callv (va_runV (As := [.int y_34, .int 1]) (rest := []) ⟨hx, hb, hml, hown, hts⟩ (kx_un (c_X3_add_x l dC dI q_joined j_v j_n cyI 0 0 0 jv jn y_34 1 H.size om_35 om_503)) (cwV 2 hts gX2_putTogether_X3_add rfl rfl rfl (by decide +kernel) ⟨Nat.le_of_ble_eq_true rfl, Nat.le_of_ble_eq_true rfl⟩) ⟨fun a U g mk q => by obtain ⟨q0, q1, qP, qK, qD⟩ := q; exact ⟨q0, q1, qP, va_K.moved (u := U) (U := U.calling g mk a) (Vm.Alike.refl U.vm) qK, qD⟩, kx_rc3 hKc hPc (q0 := 0) rfl, fun U hU hW => ⟨rfl, by rw [hU], by rw [hU]; exact hPc, va_K.moved hW.alike hKc, hDc.weaken (fun _ _ _ _ => trivial)⟩⟩ rfl rfl hl.1 rfl (lv_room (Nat.le_of_ble_eq_true rfl)) dX2_putTogether_43 ⟨Nat.le_of_ble_eq_true rfl, Nat.le_of_ble_eq_true rfl⟩) hS (fun q _ h => hFc q h) hFc (fun u t H1 locs ht hvm w_36 hB hz1 hk1 hS => ?_)
    obtain ⟨o_37, o_38, o_39⟩ := u
    dsimp only at w_36 hB
    obtain ⟨hP1, hK1, hD1⟩ := hB
    rw [ht] at hP1
    have hK1 := va_K.moved hvm.symm hK1
    obtain ⟨hP, hD⟩ := kx_joinM (w2 := [kx_2 q_t q_row q_joined q_from q_to q_size q_lossOf q_lessBy q_value q_number nodes here, kx_0 q_row q_cell len, kx_a q_cell cyI 160 f, kx_a q_from cyI 319 ff, kx_a q_to cyI 319 ft, kx_a q_size cyI 319 fs, kx_a q_lossOf cyI 319 fo, kx_a q_value cyI 1914 uv, kx_a q_number cyI 1914 un, kx_3 q_joined j_v j_n o_37 0 0, kx_a j_v cyI 12 o_38, kx_a j_n cyI 12 o_39]) hP hD hP1 hD1 hk1 hFc [false, false, false, false, false, false, false, false, false, true, true, true] hCc rfl
    clear hP1 hD1 hK1 hk1 hz1 hFc hDc hPc hKc hCc
    generalize H1 = H at hP hS ⊢
    have w_36 : mj_addR jv jn (0 : Int32).toNatClampNeg y_34 1 o_38 o_39 o_37.toNatClampNeg ∧ 0 ≤ o_37.toInt ∧ o_37.toInt ≤ 0 + 1 := w_36
    refine lv_goto (tgt := 84) hx hb dX2_putTogether_46 (by decide) ?_
    have hP9 := hP
    have hD9 := hD
    have hK9 := hK
    have q_v : y_34 = f (ff p0.toNatClampNeg).toNatClampNeg := by rw [ey_34, ey_31]
    have h_v := mj_vs_add (mj_vs_zero jv jn 0) (show 0 < (1 : Int32).toInt by decide) (show (0 : Int) + (1 : Int32).toInt ≤ 2147483647 by decide) w_36.1
    rw [q_v] at h_v
    have n_40 := ki_nat o_37 rfl (om_10 w_36.2.1)
    exact W.vret hx hb hr (hlocks := hlocks) (fun t ht hW => ⟨⟨(o_37, 0, 0, o_38, o_39, (mj_one (f (ff p0.toNatClampNeg).toNatClampNeg))), rfl, ⟨Or.inl ⟨(by (try dsimp only); omega), rfl, rfl, rfl⟩, mj_vs_congr h_v (fun w => Int.zero_add _), mj_srt_1 _ _ (by (try dsimp only); omega), (by (try dsimp only); omega), (by (try dsimp only); omega)⟩, by rw [ht]; exact hP9, va_K.moved hW.alike hK9, hD9⟩, hS.F ht⟩) hS.2.2 dX2_putTogether_84

set_option maxHeartbeats 4000000 in
set_option maxRecDepth 100000 in
theorem c_X2_keepJoined_x (l : Launch) (dC : Nat → ClassId) (dI : Nat → Nat → Nat) (q_t : Nat) (q_row : Nat) (q_joined : Nat) (q_from : Nat) (q_to : Nat) (q_size : Nat) (q_lossOf : Nat) (q_lessBy : Nat) (q_value : Nat) (q_number : Nat) (nodes : Int32) (here : Int32) (cyI : ClassId) (fs : Nat → Int32) (fo : Nat → Int32) (uv : Nat → Int32) (un : Nat → Int32) (fe : Nat → Int32) (j_v : Nat) (j_n : Nat) (js : Int32) (jl : Int32) (je : Int32) (jv : Nat → Int32) (jn : Nat → Int32) (p0 : Int32) (sz : Nat) (b0 : 0 ≤ p0.toInt) (b1 : p0.toInt < 319) (j0 : 0 ≤ js.toInt) (j1 : js.toInt ≤ 6) : kx_MQ l (dC, dI) yX2_keepJoined wsX2_keepJoined ({ frames := 1, cells := 0, slots := 0, locals := 45 }) [.ref q_t, .int p0] [kx_2 q_t q_row q_joined q_from q_to q_size q_lossOf q_lessBy q_value q_number nodes here, kx_a q_size cyI 319 fs, kx_a q_lossOf cyI 319 fo, kx_a q_lessBy cyI 319 fe, kx_a q_value cyI 1914 uv, kx_a q_number cyI 1914 un, kx_3 q_joined j_v j_n js jl je, kx_a j_v cyI 12 jv, kx_a j_n cyI 12 jn] [(cyI, .int)] sz (fun A => va_Qv (fun u : (Nat → Int32) × (Nat → Int32) × (Nat → Int32) × (Nat → Int32) × (Nat → Int32) => u.1 = upd fs p0.toNatClampNeg js ∧ u.2.1 = upd fo p0.toNatClampNeg jl ∧ u.2.2.1 = upd fe p0.toNatClampNeg je ∧ mj_kp jv jn uv un u.2.2.2.1 u.2.2.2.2 p0.toNatClampNeg js.toNatClampNeg) (fun (u : (Nat → Int32) × (Nat → Int32) × (Nat → Int32) × (Nat → Int32) × (Nat → Int32)) (t : State) => va_P (dC, dI) vwCl [kx_2 q_t q_row q_joined q_from q_to q_size q_lossOf q_lessBy q_value q_number nodes here, kx_a q_size cyI 319 u.1, kx_a q_lossOf cyI 319 u.2.1, kx_a q_lessBy cyI 319 u.2.2.1, kx_a q_value cyI 1914 u.2.2.2.1, kx_a q_number cyI 1914 u.2.2.2.2, kx_3 q_joined j_v j_n js jl je, kx_a j_v cyI 12 jv, kx_a j_n cyI 12 jn] t.heap ∧ va_K (dC, dI) vwCl [(cyI, .int)] t ∧ va_D A [kx_2 q_t q_row q_joined q_from q_to q_size q_lossOf q_lessBy q_value q_number nodes here, kx_a q_size cyI 319 u.1, kx_a q_lossOf cyI 319 u.2.1, kx_a q_lessBy cyI 319 u.2.2.1, kx_a q_value cyI 1914 u.2.2.2.1, kx_a q_number cyI 1914 u.2.2.2.2, kx_3 q_joined j_v j_n js jl je, kx_a j_v cyI 12 jv, kx_a j_n cyI 12 jn]) A) := by
  refine kx_stQ (ws := wsX2_keepJoined) (cc := cX2_keepJoined) (maxL := 4) (ret := none) (by decide) rfl (Nat.le_of_ble_eq_true rfl) ?_
  intro p e s m below meth c A ls hx hb hr hlocks hts hown hml hA hS hP hK hD hl
  have hown : s.vm.findClass RX2 = some m.cls := hown
  have hl : lv_has ls 4 [(0, .ref q_t), (1, .int p0)] := hl
  have hf_12 := hts (.fieldLink RX2 12 "MajorityIndex$Tree" "joined" "LMajorityIndex$Votes;") (List.mem_of_getElem? (i := 1) rfl)
  have hi_2 : ∀ w ∈ u_ws RX2 TX2 11, w ∈ wsX2_keepJoined := fun w h => List.mem_cons_of_mem _ (List.mem_append_left _ (List.mem_append_right _ h))
  have hf_94 := hts (.fieldLink RX2 94 "MajorityIndex$Votes" "size" "I") (List.mem_of_getElem? (i := 2) rfl)
  have hi_3 : ∀ w ∈ u_ws RX3 TX3 5, w ∈ wsX2_keepJoined := fun w h => List.mem_cons_of_mem _ (List.mem_append_right _ h)
  have hf_25 := hts (.fieldLink RX2 25 "MajorityIndex$Tree" "size" "[I") (List.mem_of_getElem? (i := 7) rfl)
  have hm_98 := hts (.methodLink RX2 98 Lib.Math.min.name) (List.mem_of_getElem? (i := 8) rfl)
  have hms_min := hts (.static Lib.Math.min.name) (List.mem_of_getElem? (i := 9) rfl)
  have hz_math := hts (.initialized "java/lang/Math") (List.mem_of_getElem? (i := 10) rfl)
  have hmc_min := hts (.code Lib.Math.min.name Lib.Math.min.code 2 (some .int)) (List.mem_of_getElem? (i := 11) rfl)
  have hf_28 := hts (.fieldLink RX2 28 "MajorityIndex$Tree" "lossOf" "[I") (List.mem_of_getElem? (i := 12) rfl)
  have hf_91 := hts (.fieldLink RX2 91 "MajorityIndex$Votes" "lost" "I") (List.mem_of_getElem? (i := 13) rfl)
  have hf_31 := hts (.fieldLink RX2 31 "MajorityIndex$Tree" "lessBy" "[I") (List.mem_of_getElem? (i := 14) rfl)
  have hf_104 := hts (.fieldLink RX2 104 "MajorityIndex$Votes" "lessBy" "I") (List.mem_of_getElem? (i := 15) rfl)
  have hf_34 := hts (.fieldLink RX2 34 "MajorityIndex$Tree" "value" "[I") (List.mem_of_getElem? (i := 3) rfl)
  have hf_96 := hts (.fieldLink RX2 96 "MajorityIndex$Votes" "value" "[I") (List.mem_of_getElem? (i := 4) rfl)
  have hf_37 := hts (.fieldLink RX2 37 "MajorityIndex$Tree" "number" "[I") (List.mem_of_getElem? (i := 5) rfl)
  have hf_97 := hts (.fieldLink RX2 97 "MajorityIndex$Votes" "number" "[I") (List.mem_of_getElem? (i := 6) rfl)
  have n_p0 := ki_nat p0 rfl (om_10 b0)
  refine lv_iload_n hx hb dX2_keepJoined_0 rfl (lv_at hl 1 rfl) ?_
  refine lv_bipush (v := 6) hx hb dX2_keepJoined_1 (by decide) ?_
  refine lv_imul hx hb dX2_keepJoined_3 ?_
  refine lv_topi (fun y_1 ey_1 => ?_)
  have i_1 : y_1.toInt = p0.toInt * 6 := ki_mul ey_1 rfl rfl (om_95 b0) (om_96 b1)
  refine lv_istore_n (lv' := [(2, .int y_1), (0, .ref q_t), (1, .int p0)]) hx hb dX2_keepJoined_4 rfl hl (by decide) rfl (fun ls hl => ?_)
  refine lv_iconst (v := 0) hx hb dX2_keepJoined_5 (by decide) ?_
  refine lv_istore_n (lv' := [(3, .int 0), (2, .int y_1), (0, .ref q_t), (1, .int p0)]) hx hb dX2_keepJoined_6 rfl hl (by decide) rfl (fun ls hl => ?_)
  have LP1 : ∀ (n : Nat) (i : Int32) (wv : Nat → Int32) (wn : Nat → Int32), (0 ≤ i.toInt) → (i.toInt ≤ js.toInt) → (mj_kp jv jn uv un wv wn p0.toNatClampNeg i.toNatClampNeg) → (6 - i.toInt).toNat < n → ∀ (H : Heap) (locs : List Loc), va_P (dC, dI) vwCl [kx_2 q_t q_row q_joined q_from q_to q_size q_lossOf q_lessBy q_value q_number nodes here, kx_a q_size cyI 319 fs, kx_a q_lossOf cyI 319 fo, kx_a q_lessBy cyI 319 fe, kx_a q_value cyI 1914 wv, kx_a q_number cyI 1914 wn, kx_3 q_joined j_v j_n js jl je, kx_a j_v cyI 12 jv, kx_a j_n cyI 12 jn] H → va_D A [kx_2 q_t q_row q_joined q_from q_to q_size q_lossOf q_lessBy q_value q_number nodes here, kx_a q_size cyI 319 fs, kx_a q_lossOf cyI 319 fo, kx_a q_lessBy cyI 319 fe, kx_a q_value cyI 1914 wv, kx_a q_number cyI 1914 wn, kx_3 q_joined j_v j_n js jl je, kx_a j_v cyI 12 jv, kx_a j_n cyI 12 jn] → va_S A s.heap H locs → ∀ (ls : Array Slot), lv_has ls 4 [(3, .int i), (2, .int y_1), (0, .ref q_t), (1, .int p0)] → W p l e (headSpec wsX2_keepJoined ({ frames := 1, cells := 0, slots := 0, locals := 45 })).room s m ([.ref q_t, .int p0] : List Value).toArray below meth c H locs 0 0 (MQ below (va_Qv (fun u : (Nat → Int32) × (Nat → Int32) × (Nat → Int32) × (Nat → Int32) × (Nat → Int32) => u.1 = upd fs p0.toNatClampNeg js ∧ u.2.1 = upd fo p0.toNatClampNeg jl ∧ u.2.2.1 = upd fe p0.toNatClampNeg je ∧ mj_kp jv jn uv un u.2.2.2.1 u.2.2.2.2 p0.toNatClampNeg js.toNatClampNeg) (fun (u : (Nat → Int32) × (Nat → Int32) × (Nat → Int32) × (Nat → Int32) × (Nat → Int32)) (t : State) => va_P (dC, dI) vwCl [kx_2 q_t q_row q_joined q_from q_to q_size q_lossOf q_lessBy q_value q_number nodes here, kx_a q_size cyI 319 u.1, kx_a q_lossOf cyI 319 u.2.1, kx_a q_lessBy cyI 319 u.2.2.1, kx_a q_value cyI 1914 u.2.2.2.1, kx_a q_number cyI 1914 u.2.2.2.2, kx_3 q_joined j_v j_n js jl je, kx_a j_v cyI 12 jv, kx_a j_n cyI 12 jn] t.heap ∧ va_K (dC, dI) vwCl [(cyI, .int)] t ∧ va_D A [kx_2 q_t q_row q_joined q_from q_to q_size q_lossOf q_lessBy q_value q_number nodes here, kx_a q_size cyI 319 u.1, kx_a q_lossOf cyI 319 u.2.1, kx_a q_lessBy cyI 319 u.2.2.1, kx_a q_value cyI 1914 u.2.2.2.1, kx_a q_number cyI 1914 u.2.2.2.2, kx_3 q_joined j_v j_n js jl je, kx_a j_v cyI 12 jv, kx_a j_n cyI 12 jn]) A) ([.ref q_t, .int p0] : List Value).toArray s 0 0 A) (F0 m 7 ls []) := by
    intro n
    induction n with
    | zero => intro i wv wn LP1_h0 LP1_h1 LP1_h2 hn; exact absurd hn (Nat.not_lt_zero _)
    | succ n ih1 =>
      intro i wv wn LP1_h0 LP1_h1 LP1_h2 hn1 H locs hP hD hS ls hl
      have n_i := ki_nat i rfl (om_10 LP1_h0)
      refine lv_iload_n hx hb dX2_keepJoined_7 rfl (lv_at hl 0 rfl) ?_
      refine lv_aload_n hx hb dX2_keepJoined_8 rfl (lv_at hl 2 rfl) ?_
      refine va_get (D := (dC, dI)) (ci := 2) (v := .ref q_joined) (C := RX2) (T := TX2) (N := 11) hx hb hts hi_2 hown hK hP 0 rfl rfl 1 (by decide) hf_12 (fun _ h9 => h9) rfl dX2_keepJoined_9 ?_
      refine va_get (D := (dC, dI)) (ci := 3) (v := .int js) (C := RX3) (T := TX3) (N := 5) hx hb hts hi_3 hown hK hP 6 rfl rfl 2 (by decide) hf_94 (fun _ h9 => h9) rfl dX2_keepJoined_12 ?_
      refine lv_icmp_ge (tgt := 64) hx hb dX2_keepJoined_15 (by decide) (fun c_2 => ?_) (fun c_2 => ?_)
      · have i_2 : js.toInt ≤ i.toInt := kc_le c_2
        refine lv_aload_n hx hb dX2_keepJoined_64 rfl (lv_at hl 2 rfl) ?_
        refine va_get (D := (dC, dI)) (ci := 2) (v := .ref q_size) (C := RX2) (T := TX2) (N := 11) hx hb hts hi_2 hown hK hP 0 rfl rfl 4 (by decide) hf_25 (fun _ h9 => h9) rfl dX2_keepJoined_65 ?_
        refine lv_iload_n hx hb dX2_keepJoined_68 rfl (lv_at hl 3 rfl) ?_
        refine lv_aload_n hx hb dX2_keepJoined_69 rfl (lv_at hl 2 rfl) ?_
        refine va_get (D := (dC, dI)) (ci := 2) (v := .ref q_joined) (C := RX2) (T := TX2) (N := 11) hx hb hts hi_2 hown hK hP 0 rfl rfl 1 (by decide) hf_12 (fun _ h9 => h9) rfl dX2_keepJoined_70 ?_
        refine va_get (D := (dC, dI)) (ci := 3) (v := .int js) (C := RX3) (T := TX3) (N := 5) hx hb hts hi_3 hown hK hP 6 rfl rfl 2 (by decide) hf_94 (fun _ h9 => h9) rfl dX2_keepJoined_73 ?_
        refine lv_bipush (v := 6) hx hb dX2_keepJoined_76 (by decide) ?_
        refine va_mmin hx hb (hml.trans hl.1.symm) hown hm_98 hms_min hz_math hmc_min (Nat.le_of_ble_eq_true rfl) (Nat.le_of_ble_eq_true rfl) (Nat.le_of_ble_eq_true rfl) (Nat.le_of_ble_eq_true rfl) dX2_keepJoined_78 ?_
        refine lv_topi (fun y_3 ey_3 => ?_)
        have i_4 : (js.toInt ≤ 6 ∧ y_3.toInt = js.toInt) ∨ (6 < js.toInt ∧ y_3.toInt = 6) := ki_min ey_3 rfl rfl
        refine va_iast hx hb hK hP hD hS 1 0 rfl rfl (ki_in (om_10 b0) (om_61 b1)) dX2_keepJoined_81 (fun H locs hP hD hS => ?_)
        obtain ⟨hP, hD⟩ := kx_re (w2 := [kx_2 q_t q_row q_joined q_from q_to q_size q_lossOf q_lessBy q_value q_number nodes here, kx_a q_size cyI 319 (upd fs p0.toNatClampNeg y_3), kx_a q_lossOf cyI 319 fo, kx_a q_lessBy cyI 319 fe, kx_a q_value cyI 1914 wv, kx_a q_number cyI 1914 wn, kx_3 q_joined j_v j_n js jl je, kx_a j_v cyI 12 jv, kx_a j_n cyI 12 jn]) hP hD rfl
        refine lv_aload_n hx hb dX2_keepJoined_82 rfl (lv_at hl 2 rfl) ?_
        refine va_get (D := (dC, dI)) (ci := 2) (v := .ref q_lossOf) (C := RX2) (T := TX2) (N := 11) hx hb hts hi_2 hown hK hP 0 rfl rfl 5 (by decide) hf_28 (fun _ h9 => h9) rfl dX2_keepJoined_83 ?_
        refine lv_iload_n hx hb dX2_keepJoined_86 rfl (lv_at hl 3 rfl) ?_
        refine lv_aload_n hx hb dX2_keepJoined_87 rfl (lv_at hl 2 rfl) ?_
        refine va_get (D := (dC, dI)) (ci := 2) (v := .ref q_joined) (C := RX2) (T := TX2) (N := 11) hx hb hts hi_2 hown hK hP 0 rfl rfl 1 (by decide) hf_12 (fun _ h9 => h9) rfl dX2_keepJoined_88 ?_
        refine va_get (D := (dC, dI)) (ci := 3) (v := .int jl) (C := RX3) (T := TX3) (N := 5) hx hb hts hi_3 hown hK hP 6 rfl rfl 3 (by decide) hf_91 (fun _ h9 => h9) rfl dX2_keepJoined_91 ?_
        refine va_iast hx hb hK hP hD hS 2 0 rfl rfl (ki_in (om_10 b0) (om_61 b1)) dX2_keepJoined_94 (fun H locs hP hD hS => ?_)
        obtain ⟨hP, hD⟩ := kx_re (w2 := [kx_2 q_t q_row q_joined q_from q_to q_size q_lossOf q_lessBy q_value q_number nodes here, kx_a q_size cyI 319 (upd fs p0.toNatClampNeg y_3), kx_a q_lossOf cyI 319 (upd fo p0.toNatClampNeg jl), kx_a q_lessBy cyI 319 fe, kx_a q_value cyI 1914 wv, kx_a q_number cyI 1914 wn, kx_3 q_joined j_v j_n js jl je, kx_a j_v cyI 12 jv, kx_a j_n cyI 12 jn]) hP hD rfl
        refine lv_aload_n hx hb dX2_keepJoined_95 rfl (lv_at hl 2 rfl) ?_
        refine va_get (D := (dC, dI)) (ci := 2) (v := .ref q_lessBy) (C := RX2) (T := TX2) (N := 11) hx hb hts hi_2 hown hK hP 0 rfl rfl 6 (by decide) hf_31 (fun _ h9 => h9) rfl dX2_keepJoined_96 ?_
        refine lv_iload_n hx hb dX2_keepJoined_99 rfl (lv_at hl 3 rfl) ?_
        refine lv_aload_n hx hb dX2_keepJoined_100 rfl (lv_at hl 2 rfl) ?_
        refine va_get (D := (dC, dI)) (ci := 2) (v := .ref q_joined) (C := RX2) (T := TX2) (N := 11) hx hb hts hi_2 hown hK hP 0 rfl rfl 1 (by decide) hf_12 (fun _ h9 => h9) rfl dX2_keepJoined_101 ?_
        refine va_get (D := (dC, dI)) (ci := 3) (v := .int je) (C := RX3) (T := TX3) (N := 5) hx hb hts hi_3 hown hK hP 6 rfl rfl 4 (by decide) hf_104 (fun _ h9 => h9) rfl dX2_keepJoined_104 ?_
        refine va_iast hx hb hK hP hD hS 3 0 rfl rfl (ki_in (om_10 b0) (om_61 b1)) dX2_keepJoined_107 (fun H locs hP hD hS => ?_)
        obtain ⟨hP, hD⟩ := kx_re (w2 := [kx_2 q_t q_row q_joined q_from q_to q_size q_lossOf q_lessBy q_value q_number nodes here, kx_a q_size cyI 319 (upd fs p0.toNatClampNeg y_3), kx_a q_lossOf cyI 319 (upd fo p0.toNatClampNeg jl), kx_a q_lessBy cyI 319 (upd fe p0.toNatClampNeg je), kx_a q_value cyI 1914 wv, kx_a q_number cyI 1914 wn, kx_3 q_joined j_v j_n js jl je, kx_a j_v cyI 12 jv, kx_a j_n cyI 12 jn]) hP hD rfl
        have hP9 := hP
        have hD9 := hD
        have hK9 := hK
        have n_js := ki_nat js rfl (om_10 j0)
        have q_y : y_3 = js := Int32.toInt_inj.mp (by omega)
        exact W.vret hx hb hr (hlocks := hlocks) (fun t ht hW => ⟨⟨((upd fs p0.toNatClampNeg y_3), (upd fo p0.toNatClampNeg jl), (upd fe p0.toNatClampNeg je), wv, wn), rfl, ⟨(by (try dsimp only); rw [q_y]), rfl, rfl, (by (try dsimp only); rw [show js.toNatClampNeg = i.toNatClampNeg by omega]; exact LP1_h2)⟩, by rw [ht]; exact hP9, va_K.moved hW.alike hK9, hD9⟩, hS.F ht⟩) hS.2.2 dX2_keepJoined_108
      · have i_2 : i.toInt < js.toInt := kc_nle c_2
        refine lv_iload_n hx hb dX2_keepJoined_18 rfl (lv_at hl 0 rfl) ?_
        refine lv_bipush (v := 6) hx hb dX2_keepJoined_19 (by decide) ?_
        refine lv_icmp_ge (tgt := 64) hx hb dX2_keepJoined_21 (by decide) (fun c_5 => ?_) (fun c_5 => ?_)
        · have i_5 : 6 ≤ i.toInt := kc_le c_5
          exfalso; omega
        · have i_5 : i.toInt < 6 := kc_nle c_5
          refine lv_aload_n hx hb dX2_keepJoined_24 rfl (lv_at hl 2 rfl) ?_
          refine va_get (D := (dC, dI)) (ci := 2) (v := .ref q_value) (C := RX2) (T := TX2) (N := 11) hx hb hts hi_2 hown hK hP 0 rfl rfl 7 (by decide) hf_34 (fun _ h9 => h9) rfl dX2_keepJoined_25 ?_
          refine lv_iload_n hx hb dX2_keepJoined_28 rfl (lv_at hl 1 rfl) ?_
          refine lv_iload_n hx hb dX2_keepJoined_29 rfl (lv_at hl 0 rfl) ?_
          refine lv_iadd hx hb dX2_keepJoined_30 ?_
          refine lv_topi (fun y_6 ey_6 => ?_)
          have i_6 : y_6.toInt = y_1.toInt + i.toInt := ki_add ey_6 rfl rfl (om_97 b0 i_1 LP1_h0) (om_105 b1 i_1 i_5)
          refine lv_aload_n hx hb dX2_keepJoined_31 rfl (lv_at hl 2 rfl) ?_
          refine va_get (D := (dC, dI)) (ci := 2) (v := .ref q_joined) (C := RX2) (T := TX2) (N := 11) hx hb hts hi_2 hown hK hP 0 rfl rfl 1 (by decide) hf_12 (fun _ h9 => h9) rfl dX2_keepJoined_32 ?_
          refine va_get (D := (dC, dI)) (ci := 3) (v := .ref j_v) (C := RX3) (T := TX3) (N := 5) hx hb hts hi_3 hown hK hP 6 rfl rfl 0 (by decide) hf_96 (fun _ h9 => h9) rfl dX2_keepJoined_35 ?_
          refine lv_iload_n hx hb dX2_keepJoined_38 rfl (lv_at hl 0 rfl) ?_
          refine va_iald hx hb hK hP 7 0 rfl rfl (ki_in (om_10 LP1_h0) (om_107 i_5)) dX2_keepJoined_39 ?_
          refine lv_topi (fun y_7 ey_7 => ?_)
          have j_7 : y_7.toInt = (jv i.toNatClampNeg).toInt := congrArg Int32.toInt ey_7
          refine va_iast hx hb hK hP hD hS 4 0 rfl rfl (ki_in (om_99 b0 i_1 LP1_h0 i_6) (om_106 b1 i_1 i_5 i_6)) dX2_keepJoined_40 (fun H locs hP hD hS => ?_)
          obtain ⟨hP, hD⟩ := kx_re (w2 := [kx_2 q_t q_row q_joined q_from q_to q_size q_lossOf q_lessBy q_value q_number nodes here, kx_a q_size cyI 319 fs, kx_a q_lossOf cyI 319 fo, kx_a q_lessBy cyI 319 fe, kx_a q_value cyI 1914 (upd wv y_6.toNatClampNeg y_7), kx_a q_number cyI 1914 wn, kx_3 q_joined j_v j_n js jl je, kx_a j_v cyI 12 jv, kx_a j_n cyI 12 jn]) hP hD rfl
          refine lv_aload_n hx hb dX2_keepJoined_41 rfl (lv_at hl 2 rfl) ?_
          refine va_get (D := (dC, dI)) (ci := 2) (v := .ref q_number) (C := RX2) (T := TX2) (N := 11) hx hb hts hi_2 hown hK hP 0 rfl rfl 8 (by decide) hf_37 (fun _ h9 => h9) rfl dX2_keepJoined_42 ?_
          refine lv_iload_n hx hb dX2_keepJoined_45 rfl (lv_at hl 1 rfl) ?_
          refine lv_iload_n hx hb dX2_keepJoined_46 rfl (lv_at hl 0 rfl) ?_
          refine lv_iadd hx hb dX2_keepJoined_47 ?_
          refine lv_topi (fun y_8 ey_8 => ?_)
          have i_8 : y_8.toInt = y_1.toInt + i.toInt := ki_add ey_8 rfl rfl (om_97 b0 i_1 LP1_h0) (om_105 b1 i_1 i_5)
          refine lv_aload_n hx hb dX2_keepJoined_48 rfl (lv_at hl 2 rfl) ?_
          refine va_get (D := (dC, dI)) (ci := 2) (v := .ref q_joined) (C := RX2) (T := TX2) (N := 11) hx hb hts hi_2 hown hK hP 0 rfl rfl 1 (by decide) hf_12 (fun _ h9 => h9) rfl dX2_keepJoined_49 ?_
          refine va_get (D := (dC, dI)) (ci := 3) (v := .ref j_n) (C := RX3) (T := TX3) (N := 5) hx hb hts hi_3 hown hK hP 6 rfl rfl 1 (by decide) hf_97 (fun _ h9 => h9) rfl dX2_keepJoined_52 ?_
          refine lv_iload_n hx hb dX2_keepJoined_55 rfl (lv_at hl 0 rfl) ?_
          refine va_iald hx hb hK hP 8 0 rfl rfl (ki_in (om_10 LP1_h0) (om_107 i_5)) dX2_keepJoined_56 ?_
          refine lv_topi (fun y_9 ey_9 => ?_)
          have j_9 : y_9.toInt = (jn i.toNatClampNeg).toInt := congrArg Int32.toInt ey_9
          refine va_iast hx hb hK hP hD hS 5 0 rfl rfl (ki_in (om_99 b0 i_1 LP1_h0 i_8) (om_106 b1 i_1 i_5 i_8)) dX2_keepJoined_57 (fun H locs hP hD hS => ?_)
          obtain ⟨hP, hD⟩ := kx_re (w2 := [kx_2 q_t q_row q_joined q_from q_to q_size q_lossOf q_lessBy q_value q_number nodes here, kx_a q_size cyI 319 fs, kx_a q_lossOf cyI 319 fo, kx_a q_lessBy cyI 319 fe, kx_a q_value cyI 1914 (upd wv y_6.toNatClampNeg y_7), kx_a q_number cyI 1914 (upd wn y_8.toNatClampNeg y_9), kx_3 q_joined j_v j_n js jl je, kx_a j_v cyI 12 jv, kx_a j_n cyI 12 jn]) hP hD rfl
          obtain ⟨x_10, ex_10⟩ : ∃ y : Int32, y = i + 1 := ⟨_, rfl⟩
          have i_10 : x_10.toInt = i.toInt + 1 := ki_add ex_10 rfl rfl (om_13 LP1_h0) (om_108 i_5)
          refine lv_iinc (v := x_10) (lv' := [(3, .int x_10), (2, .int y_1), (0, .ref q_t), (1, .int p0)]) hx hb dX2_keepJoined_58 hl (k := 0) rfl (by rw [ex_10]; rfl) (by decide) rfl (fun ls hl => ?_)
          refine lv_goto (tgt := 7) hx hb dX2_keepJoined_61 (by decide) ?_
          have n_11 := ki_nat y_6 rfl (om_99 b0 i_1 LP1_h0 i_6)
          have n_12 := ki_nat y_8 rfl (om_99 b0 i_1 LP1_h0 i_8)
          have n_13 := ki_nat x_10 rfl (om_34 LP1_h0 i_10)
          exact ih1 x_10 (upd wv y_6.toNatClampNeg y_7) (upd wn y_8.toNatClampNeg y_9) (om_34 LP1_h0 i_10) (om_54 i_2 i_10) (mj_kp_step LP1_h2 (by omega) (by omega) (by omega) ey_7 ey_9 (by omega)) (om_mu hn1 (om_102 i_10) (om_109 i_5)) _ _ hP hD hS ls (lv_sub hl [0, 1, 2, 3] rfl)
  have k_14 : (0 : Int32).toInt = 0 := rfl
  exact LP1 ((6 - 0 : Int).toNat + 1) 0 uv un om_35 (om_10 j0) (mj_kp_0 _ _ _ _ _ rfl) (Nat.lt_succ_self _) _ _ hP hD hS ls (lv_sub hl [0, 1, 2, 3] rfl)

set_option maxHeartbeats 4000000 in
set_option maxRecDepth 100000 in
theorem c_X2_isJoined_x (l : Launch) (dC : Nat → ClassId) (dI : Nat → Nat → Nat) (q_t : Nat) (q_row : Nat) (q_joined : Nat) (q_from : Nat) (q_to : Nat) (q_size : Nat) (q_lossOf : Nat) (q_lessBy : Nat) (q_value : Nat) (q_number : Nat) (nodes : Int32) (here : Int32) (cyI : ClassId) (fs : Nat → Int32) (fo : Nat → Int32) (uv : Nat → Int32) (un : Nat → Int32) (j_v : Nat) (j_n : Nat) (js : Int32) (jl : Int32) (je : Int32) (jv : Nat → Int32) (jn : Nat → Int32) (p0 : Int32) (b0 : 0 ≤ p0.toInt) (b1 : p0.toInt < 319) (j0 : 0 ≤ js.toInt) (j1 : js.toInt ≤ 6) : Met l yX2_isJoined wsX2_isJoined ({ frames := 0, cells := 0, slots := 0, locals := 0 }) (va_Pc [.ref q_t, .int p0] (fun U => va_P (dC, dI) vwCl [kx_2 q_t q_row q_joined q_from q_to q_size q_lossOf q_lessBy q_value q_number nodes here, kx_a q_size cyI 319 fs, kx_a q_lossOf cyI 319 fo, kx_a q_value cyI 1914 uv, kx_a q_number cyI 1914 un, kx_3 q_joined j_v j_n js jl je, kx_a j_v cyI 12 jv, kx_a j_n cyI 12 jn] U.heap ∧ va_K (dC, dI) vwCl [(cyI, .int)] U)) (vp_Si (fun r : Int32 => (r = 1 ∧ mj_sj fs fo uv un p0.toNatClampNeg js jl jv jn) ∨ (r = 0 ∧ ¬ mj_sj fs fo uv un p0.toNatClampNeg js jl jv jn))) 0 0 (fun _ => False) := by
  refine kx_stS (ws := wsX2_isJoined) (cc := cX2_isJoined) (maxL := 4) (ret := (some .boolean)) (by decide) rfl (Nat.le_of_ble_eq_true rfl) ?_
  intro p e s m below meth c ls hx hb hr hlocks hts hown hml hP hK hl
  have hown : s.vm.findClass RX2 = some m.cls := hown
  have hl : lv_has ls 4 [(0, .ref q_t), (1, .int p0)] := hl
  have hf_25 := hts (.fieldLink RX2 25 "MajorityIndex$Tree" "size" "[I") (List.mem_of_getElem? (i := 1) rfl)
  have hi_2 : ∀ w ∈ u_ws RX2 TX2 11, w ∈ wsX2_isJoined := fun w h => List.mem_cons_of_mem _ (List.mem_append_left _ (List.mem_append_right _ h))
  have hf_12 := hts (.fieldLink RX2 12 "MajorityIndex$Tree" "joined" "LMajorityIndex$Votes;") (List.mem_of_getElem? (i := 2) rfl)
  have hf_94 := hts (.fieldLink RX2 94 "MajorityIndex$Votes" "size" "I") (List.mem_of_getElem? (i := 3) rfl)
  have hi_3 : ∀ w ∈ u_ws RX3 TX3 5, w ∈ wsX2_isJoined := fun w h => List.mem_cons_of_mem _ (List.mem_append_right _ h)
  have hf_28 := hts (.fieldLink RX2 28 "MajorityIndex$Tree" "lossOf" "[I") (List.mem_of_getElem? (i := 4) rfl)
  have hf_91 := hts (.fieldLink RX2 91 "MajorityIndex$Votes" "lost" "I") (List.mem_of_getElem? (i := 5) rfl)
  have hf_34 := hts (.fieldLink RX2 34 "MajorityIndex$Tree" "value" "[I") (List.mem_of_getElem? (i := 6) rfl)
  have hf_96 := hts (.fieldLink RX2 96 "MajorityIndex$Votes" "value" "[I") (List.mem_of_getElem? (i := 7) rfl)
  have hf_37 := hts (.fieldLink RX2 37 "MajorityIndex$Tree" "number" "[I") (List.mem_of_getElem? (i := 8) rfl)
  have hf_97 := hts (.fieldLink RX2 97 "MajorityIndex$Votes" "number" "[I") (List.mem_of_getElem? (i := 9) rfl)
  have n_p0 := ki_nat p0 rfl (om_10 b0)
  refine lv_aload_n hx hb dX2_isJoined_0 rfl (lv_at hl 0 rfl) ?_
  refine va_get (D := (dC, dI)) (ci := 2) (v := .ref q_size) (C := RX2) (T := TX2) (N := 11) hx hb hts hi_2 hown hK hP 0 rfl rfl 4 (by decide) hf_25 (fun _ h9 => h9) rfl dX2_isJoined_1 ?_
  refine lv_iload_n hx hb dX2_isJoined_4 rfl (lv_at hl 1 rfl) ?_
  refine va_iald hx hb hK hP 1 0 rfl rfl (ki_in (om_10 b0) (om_61 b1)) dX2_isJoined_5 ?_
  refine lv_topi (fun y_1 ey_1 => ?_)
  have j_1 : y_1.toInt = (fs p0.toNatClampNeg).toInt := congrArg Int32.toInt ey_1
  refine lv_aload_n hx hb dX2_isJoined_6 rfl (lv_at hl 0 rfl) ?_
  refine va_get (D := (dC, dI)) (ci := 2) (v := .ref q_joined) (C := RX2) (T := TX2) (N := 11) hx hb hts hi_2 hown hK hP 0 rfl rfl 1 (by decide) hf_12 (fun _ h9 => h9) rfl dX2_isJoined_7 ?_
  refine va_get (D := (dC, dI)) (ci := 3) (v := .int js) (C := RX3) (T := TX3) (N := 5) hx hb hts hi_3 hown hK hP 5 rfl rfl 2 (by decide) hf_94 (fun _ h9 => h9) rfl dX2_isJoined_10 ?_
  refine lv_icmp_ne (tgt := 32) hx hb dX2_isJoined_13 (by decide) (fun c_2 => ?_) (fun c_2 => ?_)
  · have i_2 : ¬ y_1.toInt = js.toInt := kc_ne c_2
    refine lv_iconst (v := 0) hx hb dX2_isJoined_32 (by decide) ?_
    have n_js := ki_nat js rfl (om_10 j0)
    exact W.zret (v := 0) hx hb hr (by decide) (hlocks := hlocks) (fun t ht hW => ⟨0, rfl, (Or.inr ⟨rfl, fun h => c_2 (ey_1.trans h.1)⟩), ht⟩) (fun q hq => by cases hq) dX2_isJoined_33
  · have i_2 : y_1.toInt = js.toInt := kc_eq c_2
    refine lv_aload_n hx hb dX2_isJoined_16 rfl (lv_at hl 0 rfl) ?_
    refine va_get (D := (dC, dI)) (ci := 2) (v := .ref q_lossOf) (C := RX2) (T := TX2) (N := 11) hx hb hts hi_2 hown hK hP 0 rfl rfl 5 (by decide) hf_28 (fun _ h9 => h9) rfl dX2_isJoined_17 ?_
    refine lv_iload_n hx hb dX2_isJoined_20 rfl (lv_at hl 1 rfl) ?_
    refine va_iald hx hb hK hP 2 0 rfl rfl (ki_in (om_10 b0) (om_61 b1)) dX2_isJoined_21 ?_
    refine lv_topi (fun y_3 ey_3 => ?_)
    have j_3 : y_3.toInt = (fo p0.toNatClampNeg).toInt := congrArg Int32.toInt ey_3
    refine lv_aload_n hx hb dX2_isJoined_22 rfl (lv_at hl 0 rfl) ?_
    refine va_get (D := (dC, dI)) (ci := 2) (v := .ref q_joined) (C := RX2) (T := TX2) (N := 11) hx hb hts hi_2 hown hK hP 0 rfl rfl 1 (by decide) hf_12 (fun _ h9 => h9) rfl dX2_isJoined_23 ?_
    refine va_get (D := (dC, dI)) (ci := 3) (v := .int jl) (C := RX3) (T := TX3) (N := 5) hx hb hts hi_3 hown hK hP 5 rfl rfl 3 (by decide) hf_91 (fun _ h9 => h9) rfl dX2_isJoined_26 ?_
    refine lv_icmp_eq (tgt := 34) hx hb dX2_isJoined_29 (by decide) (fun c_4 => ?_) (fun c_4 => ?_)
    · have i_4 : y_3.toInt = jl.toInt := kc_eq c_4
      refine lv_iload_n hx hb dX2_isJoined_34 rfl (lv_at hl 1 rfl) ?_
      refine lv_bipush (v := 6) hx hb dX2_isJoined_35 (by decide) ?_
      refine lv_imul hx hb dX2_isJoined_37 ?_
      refine lv_topi (fun y_5 ey_5 => ?_)
      have i_5 : y_5.toInt = p0.toInt * 6 := ki_mul ey_5 rfl rfl (om_95 b0) (om_96 b1)
      refine lv_istore_n (lv' := [(2, .int y_5), (0, .ref q_t), (1, .int p0)]) hx hb dX2_isJoined_38 rfl hl (by decide) rfl (fun ls hl => ?_)
      refine lv_iconst (v := 0) hx hb dX2_isJoined_39 (by decide) ?_
      refine lv_istore_n (lv' := [(3, .int 0), (2, .int y_5), (0, .ref q_t), (1, .int p0)]) hx hb dX2_isJoined_40 rfl hl (by decide) rfl (fun ls hl => ?_)
      have LP1 : ∀ (n : Nat) (i : Int32), (0 ≤ i.toInt) → (i.toInt ≤ js.toInt) → (∀ m : Nat, m < i.toNatClampNeg → uv (6 * p0.toNatClampNeg + m) = jv m ∧ un (6 * p0.toNatClampNeg + m) = jn m) → (6 - i.toInt).toNat < n → ∀ (ls : Array Slot), lv_has ls 4 [(3, .int i), (2, .int y_5), (0, .ref q_t), (1, .int p0)] → W p l e (headSpec wsX2_isJoined ({ frames := 0, cells := 0, slots := 0, locals := 0 })).room s m ([.ref q_t, .int p0] : List Value).toArray below meth c s.heap [] 0 0 (MQ below (vp_Si (fun r : Int32 => (r = 1 ∧ mj_sj fs fo uv un p0.toNatClampNeg js jl jv jn) ∨ (r = 0 ∧ ¬ mj_sj fs fo uv un p0.toNatClampNeg js jl jv jn))) ([.ref q_t, .int p0] : List Value).toArray s 0 0 (fun _ => False)) (F0 m 41 ls []) := by
        intro n
        induction n with
        | zero => intro i LP1_h0 LP1_h1 LP1_h2 hn; exact absurd hn (Nat.not_lt_zero _)
        | succ n ih1 =>
          intro i LP1_h0 LP1_h1 LP1_h2 hn1 ls hl
          have n_i := ki_nat i rfl (om_10 LP1_h0)
          refine lv_iload_n hx hb dX2_isJoined_41 rfl (lv_at hl 0 rfl) ?_
          refine lv_aload_n hx hb dX2_isJoined_42 rfl (lv_at hl 2 rfl) ?_
          refine va_get (D := (dC, dI)) (ci := 2) (v := .ref q_joined) (C := RX2) (T := TX2) (N := 11) hx hb hts hi_2 hown hK hP 0 rfl rfl 1 (by decide) hf_12 (fun _ h9 => h9) rfl dX2_isJoined_43 ?_
          refine va_get (D := (dC, dI)) (ci := 3) (v := .int js) (C := RX3) (T := TX3) (N := 5) hx hb hts hi_3 hown hK hP 5 rfl rfl 2 (by decide) hf_94 (fun _ h9 => h9) rfl dX2_isJoined_46 ?_
          refine lv_icmp_ge (tgt := 106) hx hb dX2_isJoined_49 (by decide) (fun c_6 => ?_) (fun c_6 => ?_)
          · have i_6 : js.toInt ≤ i.toInt := kc_le c_6
            refine lv_iconst (v := 1) hx hb dX2_isJoined_106 (by decide) ?_
            have n_js := ki_nat js rfl (om_10 j0)
            exact W.zret (v := 1) hx hb hr (by decide) (hlocks := hlocks) (fun t ht hW => ⟨1, rfl, (Or.inl ⟨rfl, ey_1.symm.trans c_2, ey_3.symm.trans c_4, fun m hm => LP1_h2 m (by omega)⟩), ht⟩) (fun q hq => by cases hq) dX2_isJoined_107
          · have i_6 : i.toInt < js.toInt := kc_nle c_6
            refine lv_iload_n hx hb dX2_isJoined_52 rfl (lv_at hl 0 rfl) ?_
            refine lv_bipush (v := 6) hx hb dX2_isJoined_53 (by decide) ?_
            refine lv_icmp_ge (tgt := 106) hx hb dX2_isJoined_55 (by decide) (fun c_7 => ?_) (fun c_7 => ?_)
            · have i_7 : 6 ≤ i.toInt := kc_le c_7
              exfalso; omega
            · have i_7 : i.toInt < 6 := kc_nle c_7
              refine lv_aload_n hx hb dX2_isJoined_58 rfl (lv_at hl 2 rfl) ?_
              refine va_get (D := (dC, dI)) (ci := 2) (v := .ref q_value) (C := RX2) (T := TX2) (N := 11) hx hb hts hi_2 hown hK hP 0 rfl rfl 7 (by decide) hf_34 (fun _ h9 => h9) rfl dX2_isJoined_59 ?_
              refine lv_iload_n hx hb dX2_isJoined_62 rfl (lv_at hl 1 rfl) ?_
              refine lv_iload_n hx hb dX2_isJoined_63 rfl (lv_at hl 0 rfl) ?_
              refine lv_iadd hx hb dX2_isJoined_64 ?_
              refine lv_topi (fun y_8 ey_8 => ?_)
              have i_8 : y_8.toInt = y_5.toInt + i.toInt := ki_add ey_8 rfl rfl (om_97 b0 i_5 LP1_h0) (om_105 b1 i_5 i_7)
              refine va_iald hx hb hK hP 3 0 rfl rfl (ki_in (om_99 b0 i_5 LP1_h0 i_8) (om_106 b1 i_5 i_7 i_8)) dX2_isJoined_65 ?_
              refine lv_topi (fun y_9 ey_9 => ?_)
              have j_9 : y_9.toInt = (uv y_8.toNatClampNeg).toInt := congrArg Int32.toInt ey_9
              refine lv_aload_n hx hb dX2_isJoined_66 rfl (lv_at hl 2 rfl) ?_
              refine va_get (D := (dC, dI)) (ci := 2) (v := .ref q_joined) (C := RX2) (T := TX2) (N := 11) hx hb hts hi_2 hown hK hP 0 rfl rfl 1 (by decide) hf_12 (fun _ h9 => h9) rfl dX2_isJoined_67 ?_
              refine va_get (D := (dC, dI)) (ci := 3) (v := .ref j_v) (C := RX3) (T := TX3) (N := 5) hx hb hts hi_3 hown hK hP 5 rfl rfl 0 (by decide) hf_96 (fun _ h9 => h9) rfl dX2_isJoined_70 ?_
              refine lv_iload_n hx hb dX2_isJoined_73 rfl (lv_at hl 0 rfl) ?_
              refine va_iald hx hb hK hP 6 0 rfl rfl (ki_in (om_10 LP1_h0) (om_107 i_7)) dX2_isJoined_74 ?_
              refine lv_topi (fun y_10 ey_10 => ?_)
              have j_10 : y_10.toInt = (jv i.toNatClampNeg).toInt := congrArg Int32.toInt ey_10
              refine lv_icmp_ne (tgt := 98) hx hb dX2_isJoined_75 (by decide) (fun c_11 => ?_) (fun c_11 => ?_)
              · have i_11 : ¬ y_9.toInt = y_10.toInt := kc_ne c_11
                refine lv_iconst (v := 0) hx hb dX2_isJoined_98 (by decide) ?_
                have n_js := ki_nat js rfl (om_10 j0)
                have n_12 := ki_nat y_8 rfl (om_99 b0 i_5 LP1_h0 i_8)
                exact W.zret (v := 0) hx hb hr (by decide) (hlocks := hlocks) (fun t ht hW => ⟨0, rfl, (Or.inr ⟨rfl, fun h => c_11 (by have := (h.2.2 i.toNatClampNeg (by omega)).1; rw [show 6 * p0.toNatClampNeg + i.toNatClampNeg = y_8.toNatClampNeg by omega, ← ey_9, ← ey_10] at this; exact this)⟩), ht⟩) (fun q hq => by cases hq) dX2_isJoined_99
              · have i_11 : y_9.toInt = y_10.toInt := kc_eq c_11
                refine lv_aload_n hx hb dX2_isJoined_78 rfl (lv_at hl 2 rfl) ?_
                refine va_get (D := (dC, dI)) (ci := 2) (v := .ref q_number) (C := RX2) (T := TX2) (N := 11) hx hb hts hi_2 hown hK hP 0 rfl rfl 8 (by decide) hf_37 (fun _ h9 => h9) rfl dX2_isJoined_79 ?_
                refine lv_iload_n hx hb dX2_isJoined_82 rfl (lv_at hl 1 rfl) ?_
                refine lv_iload_n hx hb dX2_isJoined_83 rfl (lv_at hl 0 rfl) ?_
                refine lv_iadd hx hb dX2_isJoined_84 ?_
                refine lv_topi (fun y_13 ey_13 => ?_)
                have i_13 : y_13.toInt = y_5.toInt + i.toInt := ki_add ey_13 rfl rfl (om_97 b0 i_5 LP1_h0) (om_105 b1 i_5 i_7)
                refine va_iald hx hb hK hP 4 0 rfl rfl (ki_in (om_99 b0 i_5 LP1_h0 i_13) (om_106 b1 i_5 i_7 i_13)) dX2_isJoined_85 ?_
                refine lv_topi (fun y_14 ey_14 => ?_)
                have j_14 : y_14.toInt = (un y_13.toNatClampNeg).toInt := congrArg Int32.toInt ey_14
                refine lv_aload_n hx hb dX2_isJoined_86 rfl (lv_at hl 2 rfl) ?_
                refine va_get (D := (dC, dI)) (ci := 2) (v := .ref q_joined) (C := RX2) (T := TX2) (N := 11) hx hb hts hi_2 hown hK hP 0 rfl rfl 1 (by decide) hf_12 (fun _ h9 => h9) rfl dX2_isJoined_87 ?_
                refine va_get (D := (dC, dI)) (ci := 3) (v := .ref j_n) (C := RX3) (T := TX3) (N := 5) hx hb hts hi_3 hown hK hP 5 rfl rfl 1 (by decide) hf_97 (fun _ h9 => h9) rfl dX2_isJoined_90 ?_
                refine lv_iload_n hx hb dX2_isJoined_93 rfl (lv_at hl 0 rfl) ?_
                refine va_iald hx hb hK hP 7 0 rfl rfl (ki_in (om_10 LP1_h0) (om_107 i_7)) dX2_isJoined_94 ?_
                refine lv_topi (fun y_15 ey_15 => ?_)
                have j_15 : y_15.toInt = (jn i.toNatClampNeg).toInt := congrArg Int32.toInt ey_15
                refine lv_icmp_eq (tgt := 100) hx hb dX2_isJoined_95 (by decide) (fun c_16 => ?_) (fun c_16 => ?_)
                · have i_16 : y_14.toInt = y_15.toInt := kc_eq c_16
                  obtain ⟨x_17, ex_17⟩ : ∃ y : Int32, y = i + 1 := ⟨_, rfl⟩
                  have i_17 : x_17.toInt = i.toInt + 1 := ki_add ex_17 rfl rfl (om_13 LP1_h0) (om_108 i_7)
                  refine lv_iinc (v := x_17) (lv' := [(3, .int x_17), (2, .int y_5), (0, .ref q_t), (1, .int p0)]) hx hb dX2_isJoined_100 hl (k := 0) rfl (by rw [ex_17]; rfl) (by decide) rfl (fun ls hl => ?_)
                  refine lv_goto (tgt := 41) hx hb dX2_isJoined_103 (by decide) ?_
                  have n_18 := ki_nat y_8 rfl (om_99 b0 i_5 LP1_h0 i_8)
                  have n_19 := ki_nat y_13 rfl (om_99 b0 i_5 LP1_h0 i_13)
                  have n_20 := ki_nat x_17 rfl (om_34 LP1_h0 i_17)
                  exact ih1 x_17 (om_34 LP1_h0 i_17) (om_54 i_6 i_17) (fun m hm => if h9 : m < i.toNatClampNeg then LP1_h2 m h9 else (by rw [show m = i.toNatClampNeg by omega, show 6 * p0.toNatClampNeg + i.toNatClampNeg = y_8.toNatClampNeg by omega, ← ey_9, ← ey_10]; exact ⟨c_11, (by rw [show y_8.toNatClampNeg = y_13.toNatClampNeg by omega, ← ey_14, ← ey_15]; exact c_16)⟩)) (om_mu hn1 (om_102 i_17) (om_109 i_7)) ls (lv_sub hl [0, 1, 2, 3] rfl)
                · have i_16 : ¬ y_14.toInt = y_15.toInt := kc_ne c_16
                  refine lv_iconst (v := 0) hx hb dX2_isJoined_98 (by decide) ?_
                  have n_js := ki_nat js rfl (om_10 j0)
                  have n_21 := ki_nat y_8 rfl (om_99 b0 i_5 LP1_h0 i_8)
                  have n_22 := ki_nat y_13 rfl (om_99 b0 i_5 LP1_h0 i_13)
                  exact W.zret (v := 0) hx hb hr (by decide) (hlocks := hlocks) (fun t ht hW => ⟨0, rfl, (Or.inr ⟨rfl, fun h => c_16 (by have := (h.2.2 i.toNatClampNeg (by omega)).2; rw [show 6 * p0.toNatClampNeg + i.toNatClampNeg = y_13.toNatClampNeg by omega, ← ey_14, ← ey_15] at this; exact this)⟩), ht⟩) (fun q hq => by cases hq) dX2_isJoined_99
      have k_23 : (0 : Int32).toInt = 0 := rfl
      exact LP1 ((6 - 0 : Int).toNat + 1) 0 om_35 (om_10 j0) (fun m hm => absurd hm (Nat.not_lt_zero m)) (Nat.lt_succ_self _) ls (lv_sub hl [0, 1, 2, 3] rfl)
    · have i_4 : ¬ y_3.toInt = jl.toInt := kc_ne c_4
      refine lv_iconst (v := 0) hx hb dX2_isJoined_32 (by decide) ?_
      have n_js := ki_nat js rfl (om_10 j0)
      exact W.zret (v := 0) hx hb hr (by decide) (hlocks := hlocks) (fun t ht hW => ⟨0, rfl, (Or.inr ⟨rfl, fun h => c_4 (ey_3.trans h.2.1)⟩), ht⟩) (fun q hq => by cases hq) dX2_isJoined_33


