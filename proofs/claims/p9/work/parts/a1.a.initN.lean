abbrev cX0_init : ByteArray := prog_2_method_1_code
def yX0_init : MethodName := ⟨RX0, "<init>", "()V"⟩
abbrev cX1_init : ByteArray := prog_3_method_1_code
def yX1_init : MethodName := ⟨RX1, "<init>", "()V"⟩
abbrev cX2_init : ByteArray := prog_4_method_1_code
def yX2_init : MethodName := ⟨RX2, "<init>", "(LMajorityIndex$Row;)V"⟩
abbrev cX3_init : ByteArray := prog_5_method_1_code
def yX3_init : MethodName := ⟨RX3, "<init>", "()V"⟩
abbrev cX4_init : ByteArray := prog_1_method_1_code
def yX4_init : MethodName := ⟨RX4, "<init>", "()V"⟩
abbrev cX5_init : ByteArray := prog_7_method_1_code
def yX5_init : MethodName := ⟨RX5, "<init>", "()V"⟩
def wsX0_init : List Cond := .code yX0_init cX0_init 1 none :: ([.methodLink RX0 3 objectInit, .instanceMethod objectInit, .code objectInit ⟨#[0xb1]⟩ 1 none, .arrayClass .int, .fieldLink RX0 9 "MajorityIndex$Row" "cell" "[I"] ++ wsX00)
def wsX1_init : List Cond := .code yX1_init cX1_init 1 none :: ([.methodLink RX1 3 objectInit, .instanceMethod objectInit, .code objectInit ⟨#[0xb1]⟩ 1 none, .arrayClass .int, .fieldLink RX1 9 "MajorityIndex$Tally" "kind" "[I", .fieldLink RX1 15 "MajorityIndex$Tally" "often" "[I"] ++ wsX10)
def wsX3_init : List Cond := .code yX3_init cX3_init 1 none :: ([.methodLink RX3 3 objectInit, .instanceMethod objectInit, .code objectInit ⟨#[0xb1]⟩ 1 none, .arrayClass .int, .fieldLink RX3 9 "MajorityIndex$Votes" "value" "[I", .fieldLink RX3 15 "MajorityIndex$Votes" "number" "[I"] ++ wsX30)
def wsX2_init : List Cond := .code yX2_init cX2_init 2 none :: ([.methodLink RX2 3 objectInit, .instanceMethod objectInit, .code objectInit ⟨#[0xb1]⟩ 1 none, .classLink RX2 9 RX3, .instantiable RX3 5, .initialized RX3, .fieldLink RX2 12 "MajorityIndex$Tree" "joined" "LMajorityIndex$Votes;", .arrayClass .int, .fieldLink RX2 18 "MajorityIndex$Tree" "from" "[I", .fieldLink RX2 22 "MajorityIndex$Tree" "to" "[I", .fieldLink RX2 25 "MajorityIndex$Tree" "size" "[I", .fieldLink RX2 28 "MajorityIndex$Tree" "lossOf" "[I", .fieldLink RX2 31 "MajorityIndex$Tree" "lessBy" "[I", .fieldLink RX2 34 "MajorityIndex$Tree" "value" "[I", .fieldLink RX2 37 "MajorityIndex$Tree" "number" "[I", .fieldLink RX2 40 "MajorityIndex$Tree" "row" "LMajorityIndex$Row;", .instanceMethod yX3_init, .code yX3_init cX3_init 1 none, .methodLink RX3 3 objectInit, .fieldLink RX3 9 "MajorityIndex$Votes" "value" "[I", .fieldLink RX3 15 "MajorityIndex$Votes" "number" "[I"] ++ wsX30 ++ wsX20)
def wsX4_init_r1 : List Cond := [Cond.methodLink RX4 3 objectInit, Cond.instanceMethod objectInit, Cond.code objectInit ⟨#[0xb1]⟩ 1 none, Cond.classLink RX4 9 RX0, Cond.instantiable RX0 2, Cond.initialized RX0, Cond.fieldLink RX4 12 "MajorityIndex" "row" "LMajorityIndex$Row;", Cond.classLink RX4 16 RX2, Cond.instantiable RX2 11, Cond.initialized RX2, Cond.fieldLink RX4 21 "MajorityIndex" "tree" "LMajorityIndex$Tree;", Cond.classLink RX4 25 RX1, Cond.instantiable RX1 4, Cond.initialized RX1, Cond.fieldLink RX4 28 "MajorityIndex" "tally" "LMajorityIndex$Tally;", Cond.classLink RX4 32 RX3, Cond.instantiable RX3 5, Cond.initialized RX3, Cond.fieldLink RX4 35 "MajorityIndex" "votes" "LMajorityIndex$Votes;", Cond.fieldLink RX4 39 "MajorityIndex" "otherVotes" "LMajorityIndex$Votes;", Cond.arrayClass .int, Cond.fieldLink RX4 42 "MajorityIndex" "wins" "[I", Cond.fieldLink RX4 46 "MajorityIndex" "fewest" "[I", Cond.fieldLink RX4 49 "MajorityIndex" "slotsNow" "I"]
def wsX4_init_r2 : List Cond := [Cond.fieldLink RX4 53 "MajorityIndex" "treeIsOld" "Z", Cond.instanceMethod yX0_init, Cond.code yX0_init cX0_init 1 none, Cond.methodLink RX0 3 objectInit, Cond.fieldLink RX0 9 "MajorityIndex$Row" "cell" "[I", Cond.methodLink RX4 18 yX2_init, Cond.instanceMethod yX2_init, Cond.code yX2_init cX2_init 2 none, Cond.methodLink RX2 3 objectInit, Cond.classLink RX2 9 RX3, Cond.fieldLink RX2 12 "MajorityIndex$Tree" "joined" "LMajorityIndex$Votes;", Cond.fieldLink RX2 18 "MajorityIndex$Tree" "from" "[I", Cond.fieldLink RX2 22 "MajorityIndex$Tree" "to" "[I", Cond.fieldLink RX2 25 "MajorityIndex$Tree" "size" "[I", Cond.fieldLink RX2 28 "MajorityIndex$Tree" "lossOf" "[I", Cond.fieldLink RX2 31 "MajorityIndex$Tree" "lessBy" "[I", Cond.fieldLink RX2 34 "MajorityIndex$Tree" "value" "[I", Cond.fieldLink RX2 37 "MajorityIndex$Tree" "number" "[I", Cond.fieldLink RX2 40 "MajorityIndex$Tree" "row" "LMajorityIndex$Row;", Cond.instanceMethod yX3_init, Cond.code yX3_init cX3_init 1 none, Cond.methodLink RX3 3 objectInit, Cond.fieldLink RX3 9 "MajorityIndex$Votes" "value" "[I", Cond.fieldLink RX3 15 "MajorityIndex$Votes" "number" "[I"]
def wsX4_init_r3 : List Cond := [Cond.instanceMethod yX1_init, Cond.code yX1_init cX1_init 1 none, Cond.methodLink RX1 3 objectInit, Cond.fieldLink RX1 9 "MajorityIndex$Tally" "kind" "[I", Cond.fieldLink RX1 15 "MajorityIndex$Tally" "often" "[I"]
def wsX4_init : List Cond := .code yX4_init cX4_init 1 none :: ((wsX4_init_r1 ++ (wsX4_init_r2 ++ wsX4_init_r3)) ++ wsX00 ++ wsX40 ++ wsX20 ++ wsX10 ++ wsX30)
def wsX5_init_r1 : List Cond := [Cond.methodLink RX5 1 objectInit, Cond.instanceMethod objectInit, Cond.code objectInit ⟨#[0xb1]⟩ 1 none, Cond.arrayClass .int, Cond.fieldLink RX5 7 "MajorityIndexModel" "row" "[I", Cond.fieldLink RX5 13 "MajorityIndexModel" "slots" "I", Cond.fieldLink RX5 17 "MajorityIndexModel" "many" "[I", Cond.fieldLink RX5 20 "MajorityIndexModel" "loss" "[I", Cond.fieldLink RX5 23 "MajorityIndexModel" "less" "[I", Cond.fieldLink RX5 26 "MajorityIndexModel" "voteValue" "[I", Cond.fieldLink RX5 29 "MajorityIndexModel" "voteNumber" "[I", Cond.fieldLink RX5 32 "MajorityIndexModel" "allValue" "[I", Cond.fieldLink RX5 35 "MajorityIndexModel" "allNumber" "[I", Cond.fieldLink RX5 38 "MajorityIndexModel" "nodeL" "[I", Cond.fieldLink RX5 41 "MajorityIndexModel" "nodeR" "[I", Cond.fieldLink RX5 44 "MajorityIndexModel" "part" "[I", Cond.fieldLink RX5 47 "MajorityIndexModel" "wasMany" "[I", Cond.fieldLink RX5 50 "MajorityIndexModel" "wasLoss" "[I", Cond.fieldLink RX5 53 "MajorityIndexModel" "wasValue" "[I", Cond.fieldLink RX5 56 "MajorityIndexModel" "wasNumber" "[I", Cond.fieldLink RX5 59 "MajorityIndexModel" "path" "[I", Cond.fieldLink RX5 62 "MajorityIndexModel" "heavyValue" "[I", Cond.fieldLink RX5 65 "MajorityIndexModel" "heavyTimes" "[I", Cond.fieldLink RX5 68 "MajorityIndexModel" "fewest" "[I"]
def wsX5_init_r2 : List Cond := [Cond.fieldLink RX5 71 "MajorityIndexModel" "which" "[I", Cond.fieldLink RX5 74 "MajorityIndexModel" "met" "[I"]
def wsX5_init : List Cond := .code yX5_init cX5_init 1 none :: ((wsX5_init_r1 ++ wsX5_init_r2) ++ wsX50)
theorem dX0_init_0 : decode cX0_init 0 = .ok (.aload_n 0, 1) := by decide +kernel
theorem dX0_init_1 : decode cX0_init 1 = .ok (.invokespecial 3, 3) := by decide +kernel
theorem dX0_init_4 : decode cX0_init 4 = .ok (.aload_n 0, 1) := by decide +kernel
theorem dX0_init_5 : decode cX0_init 5 = .ok (.sipush 160, 3) := by decide +kernel
theorem dX0_init_8 : decode cX0_init 8 = .ok (.newarray .int, 2) := by decide +kernel
theorem dX0_init_10 : decode cX0_init 10 = .ok (.putfield 9, 3) := by decide +kernel
theorem dX0_init_13 : decode cX0_init 13 = .ok (.return_, 1) := by decide +kernel
theorem dX1_init_0 : decode cX1_init 0 = .ok (.aload_n 0, 1) := by decide +kernel
theorem dX1_init_1 : decode cX1_init 1 = .ok (.invokespecial 3, 3) := by decide +kernel
theorem dX1_init_4 : decode cX1_init 4 = .ok (.aload_n 0, 1) := by decide +kernel
theorem dX1_init_5 : decode cX1_init 5 = .ok (.sipush 160, 3) := by decide +kernel
theorem dX1_init_8 : decode cX1_init 8 = .ok (.newarray .int, 2) := by decide +kernel
theorem dX1_init_10 : decode cX1_init 10 = .ok (.putfield 9, 3) := by decide +kernel
theorem dX1_init_13 : decode cX1_init 13 = .ok (.aload_n 0, 1) := by decide +kernel
theorem dX1_init_14 : decode cX1_init 14 = .ok (.sipush 160, 3) := by decide +kernel
theorem dX1_init_17 : decode cX1_init 17 = .ok (.newarray .int, 2) := by decide +kernel
theorem dX1_init_19 : decode cX1_init 19 = .ok (.putfield 15, 3) := by decide +kernel
theorem dX1_init_22 : decode cX1_init 22 = .ok (.return_, 1) := by decide +kernel
set_option maxRecDepth 20000 in
theorem ggX2_init_X3_init : GoodIn wsX2_init wsX3_init := goodIn_r _ [18, 19, 2, 3, 8, 20, 21, 22, 23, 24, 25, 26] rfl (by decide +kernel)
theorem dX2_init_0 : decode cX2_init 0 = .ok (.aload_n 0, 1) := by decide +kernel
theorem dX2_init_1 : decode cX2_init 1 = .ok (.invokespecial 3, 3) := by decide +kernel
theorem dX2_init_4 : decode cX2_init 4 = .ok (.aload_n 0, 1) := by decide +kernel
theorem dX2_init_5 : decode cX2_init 5 = .ok (.new 9, 3) := by decide +kernel
theorem dX2_init_8 : decode cX2_init 8 = .ok (.dup, 1) := by decide +kernel
theorem dX2_init_9 : decode cX2_init 9 = .ok (.invokespecial 11, 3) := by decide +kernel
theorem dX2_init_12 : decode cX2_init 12 = .ok (.putfield 12, 3) := by decide +kernel
theorem dX2_init_15 : decode cX2_init 15 = .ok (.aload_n 0, 1) := by decide +kernel
theorem dX2_init_16 : decode cX2_init 16 = .ok (.sipush 319, 3) := by decide +kernel
theorem dX2_init_19 : decode cX2_init 19 = .ok (.newarray .int, 2) := by decide +kernel
theorem dX2_init_21 : decode cX2_init 21 = .ok (.putfield 18, 3) := by decide +kernel
theorem dX2_init_24 : decode cX2_init 24 = .ok (.aload_n 0, 1) := by decide +kernel
theorem dX2_init_25 : decode cX2_init 25 = .ok (.sipush 319, 3) := by decide +kernel
theorem dX2_init_28 : decode cX2_init 28 = .ok (.newarray .int, 2) := by decide +kernel
theorem dX2_init_30 : decode cX2_init 30 = .ok (.putfield 22, 3) := by decide +kernel
theorem dX2_init_33 : decode cX2_init 33 = .ok (.aload_n 0, 1) := by decide +kernel
theorem dX2_init_34 : decode cX2_init 34 = .ok (.sipush 319, 3) := by decide +kernel
theorem dX2_init_37 : decode cX2_init 37 = .ok (.newarray .int, 2) := by decide +kernel
theorem dX2_init_39 : decode cX2_init 39 = .ok (.putfield 25, 3) := by decide +kernel
theorem dX2_init_42 : decode cX2_init 42 = .ok (.aload_n 0, 1) := by decide +kernel
theorem dX2_init_43 : decode cX2_init 43 = .ok (.sipush 319, 3) := by decide +kernel
theorem dX2_init_46 : decode cX2_init 46 = .ok (.newarray .int, 2) := by decide +kernel
theorem dX2_init_48 : decode cX2_init 48 = .ok (.putfield 28, 3) := by decide +kernel
theorem dX2_init_51 : decode cX2_init 51 = .ok (.aload_n 0, 1) := by decide +kernel
theorem dX2_init_52 : decode cX2_init 52 = .ok (.sipush 319, 3) := by decide +kernel
theorem dX2_init_55 : decode cX2_init 55 = .ok (.newarray .int, 2) := by decide +kernel
theorem dX2_init_57 : decode cX2_init 57 = .ok (.putfield 31, 3) := by decide +kernel
theorem dX2_init_60 : decode cX2_init 60 = .ok (.aload_n 0, 1) := by decide +kernel
theorem dX2_init_61 : decode cX2_init 61 = .ok (.sipush 1914, 3) := by decide +kernel
theorem dX2_init_64 : decode cX2_init 64 = .ok (.newarray .int, 2) := by decide +kernel
theorem dX2_init_66 : decode cX2_init 66 = .ok (.putfield 34, 3) := by decide +kernel
theorem dX2_init_69 : decode cX2_init 69 = .ok (.aload_n 0, 1) := by decide +kernel
theorem dX2_init_70 : decode cX2_init 70 = .ok (.sipush 1914, 3) := by decide +kernel
theorem dX2_init_73 : decode cX2_init 73 = .ok (.newarray .int, 2) := by decide +kernel
theorem dX2_init_75 : decode cX2_init 75 = .ok (.putfield 37, 3) := by decide +kernel
theorem dX2_init_78 : decode cX2_init 78 = .ok (.aload_n 0, 1) := by decide +kernel
theorem dX2_init_79 : decode cX2_init 79 = .ok (.aload_n 1, 1) := by decide +kernel
theorem dX2_init_80 : decode cX2_init 80 = .ok (.putfield 40, 3) := by decide +kernel
theorem dX2_init_83 : decode cX2_init 83 = .ok (.return_, 1) := by decide +kernel
theorem dX3_init_0 : decode cX3_init 0 = .ok (.aload_n 0, 1) := by decide +kernel
theorem dX3_init_1 : decode cX3_init 1 = .ok (.invokespecial 3, 3) := by decide +kernel
theorem dX3_init_4 : decode cX3_init 4 = .ok (.aload_n 0, 1) := by decide +kernel
theorem dX3_init_5 : decode cX3_init 5 = .ok (.bipush 12, 2) := by decide +kernel
theorem dX3_init_7 : decode cX3_init 7 = .ok (.newarray .int, 2) := by decide +kernel
theorem dX3_init_9 : decode cX3_init 9 = .ok (.putfield 9, 3) := by decide +kernel
theorem dX3_init_12 : decode cX3_init 12 = .ok (.aload_n 0, 1) := by decide +kernel
theorem dX3_init_13 : decode cX3_init 13 = .ok (.bipush 12, 2) := by decide +kernel
theorem dX3_init_15 : decode cX3_init 15 = .ok (.newarray .int, 2) := by decide +kernel
theorem dX3_init_17 : decode cX3_init 17 = .ok (.putfield 15, 3) := by decide +kernel
theorem dX3_init_20 : decode cX3_init 20 = .ok (.return_, 1) := by decide +kernel
set_option maxRecDepth 20000 in
theorem ggX4_init_X0_init : GoodIn wsX4_init wsX0_init := goodIn_r _ [27, 28, 2, 3, 21, 29, 54, 55] rfl (by decide +kernel)
set_option maxRecDepth 20000 in
theorem ggX4_init_X2_init : GoodIn wsX4_init wsX2_init := goodIn_r _ [32, 33, 2, 3, 34, 17, 18, 35, 21, 36, 37, 38, 39, 40, 41, 42, 43, 44, 45, 46, 47, 48, 80, 81, 82, 83, 84, 65, 66, 67, 68, 69, 70, 71, 72, 73, 74, 75] rfl (by decide +kernel)
set_option maxRecDepth 20000 in
theorem ggX4_init_X1_init : GoodIn wsX4_init wsX1_init := goodIn_r _ [50, 51, 2, 3, 21, 52, 53, 76, 77, 78, 79] rfl (by decide +kernel)
set_option maxRecDepth 20000 in
theorem ggX4_init_X3_init : GoodIn wsX4_init wsX3_init := goodIn_r _ [45, 46, 2, 3, 21, 47, 48, 80, 81, 82, 83, 84] rfl (by decide +kernel)
theorem dX4_init_0 : decode cX4_init 0 = .ok (.aload_n 0, 1) := by decide +kernel
theorem dX4_init_1 : decode cX4_init 1 = .ok (.invokespecial 3, 3) := by decide +kernel
theorem dX4_init_4 : decode cX4_init 4 = .ok (.aload_n 0, 1) := by decide +kernel
theorem dX4_init_5 : decode cX4_init 5 = .ok (.new 9, 3) := by decide +kernel
theorem dX4_init_8 : decode cX4_init 8 = .ok (.dup, 1) := by decide +kernel
theorem dX4_init_9 : decode cX4_init 9 = .ok (.invokespecial 11, 3) := by decide +kernel
theorem dX4_init_12 : decode cX4_init 12 = .ok (.putfield 12, 3) := by decide +kernel
theorem dX4_init_15 : decode cX4_init 15 = .ok (.aload_n 0, 1) := by decide +kernel
theorem dX4_init_16 : decode cX4_init 16 = .ok (.new 16, 3) := by decide +kernel
theorem dX4_init_19 : decode cX4_init 19 = .ok (.dup, 1) := by decide +kernel
theorem dX4_init_20 : decode cX4_init 20 = .ok (.aload_n 0, 1) := by decide +kernel
theorem dX4_init_21 : decode cX4_init 21 = .ok (.getfield 12, 3) := by decide +kernel
theorem dX4_init_24 : decode cX4_init 24 = .ok (.invokespecial 18, 3) := by decide +kernel
theorem dX4_init_27 : decode cX4_init 27 = .ok (.putfield 21, 3) := by decide +kernel
theorem dX4_init_30 : decode cX4_init 30 = .ok (.aload_n 0, 1) := by decide +kernel
theorem dX4_init_31 : decode cX4_init 31 = .ok (.new 25, 3) := by decide +kernel
theorem dX4_init_34 : decode cX4_init 34 = .ok (.dup, 1) := by decide +kernel
theorem dX4_init_35 : decode cX4_init 35 = .ok (.invokespecial 27, 3) := by decide +kernel
theorem dX4_init_38 : decode cX4_init 38 = .ok (.putfield 28, 3) := by decide +kernel
theorem dX4_init_41 : decode cX4_init 41 = .ok (.aload_n 0, 1) := by decide +kernel
theorem dX4_init_42 : decode cX4_init 42 = .ok (.new 32, 3) := by decide +kernel
theorem dX4_init_45 : decode cX4_init 45 = .ok (.dup, 1) := by decide +kernel
theorem dX4_init_46 : decode cX4_init 46 = .ok (.invokespecial 34, 3) := by decide +kernel
theorem dX4_init_49 : decode cX4_init 49 = .ok (.putfield 35, 3) := by decide +kernel
theorem dX4_init_52 : decode cX4_init 52 = .ok (.aload_n 0, 1) := by decide +kernel
theorem dX4_init_53 : decode cX4_init 53 = .ok (.new 32, 3) := by decide +kernel
theorem dX4_init_56 : decode cX4_init 56 = .ok (.dup, 1) := by decide +kernel
theorem dX4_init_57 : decode cX4_init 57 = .ok (.invokespecial 34, 3) := by decide +kernel
theorem dX4_init_60 : decode cX4_init 60 = .ok (.putfield 39, 3) := by decide +kernel
theorem dX4_init_63 : decode cX4_init 63 = .ok (.aload_n 0, 1) := by decide +kernel
theorem dX4_init_64 : decode cX4_init 64 = .ok (.sipush 160, 3) := by decide +kernel
theorem dX4_init_67 : decode cX4_init 67 = .ok (.newarray .int, 2) := by decide +kernel
theorem dX4_init_69 : decode cX4_init 69 = .ok (.putfield 42, 3) := by decide +kernel
theorem dX4_init_72 : decode cX4_init 72 = .ok (.aload_n 0, 1) := by decide +kernel
theorem dX4_init_73 : decode cX4_init 73 = .ok (.sipush 161, 3) := by decide +kernel
theorem dX4_init_76 : decode cX4_init 76 = .ok (.newarray .int, 2) := by decide +kernel
theorem dX4_init_78 : decode cX4_init 78 = .ok (.putfield 46, 3) := by decide +kernel
theorem dX4_init_81 : decode cX4_init 81 = .ok (.aload_n 0, 1) := by decide +kernel
theorem dX4_init_82 : decode cX4_init 82 = .ok (.iconst 2, 1) := by decide +kernel
theorem dX4_init_83 : decode cX4_init 83 = .ok (.putfield 49, 3) := by decide +kernel
theorem dX4_init_86 : decode cX4_init 86 = .ok (.aload_n 0, 1) := by decide +kernel
theorem dX4_init_87 : decode cX4_init 87 = .ok (.iconst 1, 1) := by decide +kernel
theorem dX4_init_88 : decode cX4_init 88 = .ok (.putfield 53, 3) := by decide +kernel
theorem dX4_init_91 : decode cX4_init 91 = .ok (.return_, 1) := by decide +kernel
theorem dX5_init_0 : decode cX5_init 0 = .ok (.aload_n 0, 1) := by decide +kernel
theorem dX5_init_1 : decode cX5_init 1 = .ok (.invokespecial 1, 3) := by decide +kernel
theorem dX5_init_4 : decode cX5_init 4 = .ok (.aload_n 0, 1) := by decide +kernel
theorem dX5_init_5 : decode cX5_init 5 = .ok (.sipush 160, 3) := by decide +kernel
theorem dX5_init_8 : decode cX5_init 8 = .ok (.newarray .int, 2) := by decide +kernel
theorem dX5_init_10 : decode cX5_init 10 = .ok (.putfield 7, 3) := by decide +kernel
theorem dX5_init_13 : decode cX5_init 13 = .ok (.aload_n 0, 1) := by decide +kernel
theorem dX5_init_14 : decode cX5_init 14 = .ok (.iconst 2, 1) := by decide +kernel
theorem dX5_init_15 : decode cX5_init 15 = .ok (.putfield 13, 3) := by decide +kernel
theorem dX5_init_18 : decode cX5_init 18 = .ok (.aload_n 0, 1) := by decide +kernel
theorem dX5_init_19 : decode cX5_init 19 = .ok (.sipush 324, 3) := by decide +kernel
theorem dX5_init_22 : decode cX5_init 22 = .ok (.newarray .int, 2) := by decide +kernel
theorem dX5_init_24 : decode cX5_init 24 = .ok (.putfield 17, 3) := by decide +kernel
theorem dX5_init_27 : decode cX5_init 27 = .ok (.aload_n 0, 1) := by decide +kernel
theorem dX5_init_28 : decode cX5_init 28 = .ok (.sipush 324, 3) := by decide +kernel
theorem dX5_init_31 : decode cX5_init 31 = .ok (.newarray .int, 2) := by decide +kernel
theorem dX5_init_33 : decode cX5_init 33 = .ok (.putfield 20, 3) := by decide +kernel
theorem dX5_init_36 : decode cX5_init 36 = .ok (.aload_n 0, 1) := by decide +kernel
theorem dX5_init_37 : decode cX5_init 37 = .ok (.sipush 324, 3) := by decide +kernel
theorem dX5_init_40 : decode cX5_init 40 = .ok (.newarray .int, 2) := by decide +kernel
theorem dX5_init_42 : decode cX5_init 42 = .ok (.putfield 23, 3) := by decide +kernel
theorem dX5_init_45 : decode cX5_init 45 = .ok (.aload_n 0, 1) := by decide +kernel
theorem dX5_init_46 : decode cX5_init 46 = .ok (.sipush 1944, 3) := by decide +kernel
theorem dX5_init_49 : decode cX5_init 49 = .ok (.newarray .int, 2) := by decide +kernel
theorem dX5_init_51 : decode cX5_init 51 = .ok (.putfield 26, 3) := by decide +kernel
theorem dX5_init_54 : decode cX5_init 54 = .ok (.aload_n 0, 1) := by decide +kernel
theorem dX5_init_55 : decode cX5_init 55 = .ok (.sipush 1944, 3) := by decide +kernel
theorem dX5_init_58 : decode cX5_init 58 = .ok (.newarray .int, 2) := by decide +kernel
theorem dX5_init_60 : decode cX5_init 60 = .ok (.putfield 29, 3) := by decide +kernel
theorem dX5_init_63 : decode cX5_init 63 = .ok (.aload_n 0, 1) := by decide +kernel
theorem dX5_init_64 : decode cX5_init 64 = .ok (.bipush 12, 2) := by decide +kernel
theorem dX5_init_66 : decode cX5_init 66 = .ok (.newarray .int, 2) := by decide +kernel
theorem dX5_init_68 : decode cX5_init 68 = .ok (.putfield 32, 3) := by decide +kernel
theorem dX5_init_71 : decode cX5_init 71 = .ok (.aload_n 0, 1) := by decide +kernel
theorem dX5_init_72 : decode cX5_init 72 = .ok (.bipush 12, 2) := by decide +kernel
theorem dX5_init_74 : decode cX5_init 74 = .ok (.newarray .int, 2) := by decide +kernel
theorem dX5_init_76 : decode cX5_init 76 = .ok (.putfield 35, 3) := by decide +kernel
theorem dX5_init_79 : decode cX5_init 79 = .ok (.aload_n 0, 1) := by decide +kernel
theorem dX5_init_80 : decode cX5_init 80 = .ok (.sipush 320, 3) := by decide +kernel
theorem dX5_init_83 : decode cX5_init 83 = .ok (.newarray .int, 2) := by decide +kernel
theorem dX5_init_85 : decode cX5_init 85 = .ok (.putfield 38, 3) := by decide +kernel
theorem dX5_init_88 : decode cX5_init 88 = .ok (.aload_n 0, 1) := by decide +kernel
theorem dX5_init_89 : decode cX5_init 89 = .ok (.sipush 320, 3) := by decide +kernel
theorem dX5_init_92 : decode cX5_init 92 = .ok (.newarray .int, 2) := by decide +kernel
theorem dX5_init_94 : decode cX5_init 94 = .ok (.putfield 41, 3) := by decide +kernel
theorem dX5_init_97 : decode cX5_init 97 = .ok (.aload_n 0, 1) := by decide +kernel
theorem dX5_init_98 : decode cX5_init 98 = .ok (.sipush 320, 3) := by decide +kernel
theorem dX5_init_101 : decode cX5_init 101 = .ok (.newarray .int, 2) := by decide +kernel
theorem dX5_init_103 : decode cX5_init 103 = .ok (.putfield 44, 3) := by decide +kernel
theorem dX5_init_106 : decode cX5_init 106 = .ok (.aload_n 0, 1) := by decide +kernel
theorem dX5_init_107 : decode cX5_init 107 = .ok (.sipush 320, 3) := by decide +kernel
theorem dX5_init_110 : decode cX5_init 110 = .ok (.newarray .int, 2) := by decide +kernel
theorem dX5_init_112 : decode cX5_init 112 = .ok (.putfield 47, 3) := by decide +kernel
theorem dX5_init_115 : decode cX5_init 115 = .ok (.aload_n 0, 1) := by decide +kernel
theorem dX5_init_116 : decode cX5_init 116 = .ok (.sipush 320, 3) := by decide +kernel
theorem dX5_init_119 : decode cX5_init 119 = .ok (.newarray .int, 2) := by decide +kernel
theorem dX5_init_121 : decode cX5_init 121 = .ok (.putfield 50, 3) := by decide +kernel
theorem dX5_init_124 : decode cX5_init 124 = .ok (.aload_n 0, 1) := by decide +kernel
theorem dX5_init_125 : decode cX5_init 125 = .ok (.sipush 1920, 3) := by decide +kernel
theorem dX5_init_128 : decode cX5_init 128 = .ok (.newarray .int, 2) := by decide +kernel
theorem dX5_init_130 : decode cX5_init 130 = .ok (.putfield 53, 3) := by decide +kernel
theorem dX5_init_133 : decode cX5_init 133 = .ok (.aload_n 0, 1) := by decide +kernel
theorem dX5_init_134 : decode cX5_init 134 = .ok (.sipush 1920, 3) := by decide +kernel
theorem dX5_init_137 : decode cX5_init 137 = .ok (.newarray .int, 2) := by decide +kernel
theorem dX5_init_139 : decode cX5_init 139 = .ok (.putfield 56, 3) := by decide +kernel
theorem dX5_init_142 : decode cX5_init 142 = .ok (.aload_n 0, 1) := by decide +kernel
theorem dX5_init_143 : decode cX5_init 143 = .ok (.bipush 12, 2) := by decide +kernel
theorem dX5_init_145 : decode cX5_init 145 = .ok (.newarray .int, 2) := by decide +kernel
theorem dX5_init_147 : decode cX5_init 147 = .ok (.putfield 59, 3) := by decide +kernel
theorem dX5_init_150 : decode cX5_init 150 = .ok (.aload_n 0, 1) := by decide +kernel
theorem dX5_init_151 : decode cX5_init 151 = .ok (.sipush 160, 3) := by decide +kernel
theorem dX5_init_154 : decode cX5_init 154 = .ok (.newarray .int, 2) := by decide +kernel
theorem dX5_init_156 : decode cX5_init 156 = .ok (.putfield 62, 3) := by decide +kernel
theorem dX5_init_159 : decode cX5_init 159 = .ok (.aload_n 0, 1) := by decide +kernel
theorem dX5_init_160 : decode cX5_init 160 = .ok (.sipush 160, 3) := by decide +kernel
theorem dX5_init_163 : decode cX5_init 163 = .ok (.newarray .int, 2) := by decide +kernel
theorem dX5_init_165 : decode cX5_init 165 = .ok (.putfield 65, 3) := by decide +kernel
theorem dX5_init_168 : decode cX5_init 168 = .ok (.aload_n 0, 1) := by decide +kernel
theorem dX5_init_169 : decode cX5_init 169 = .ok (.sipush 161, 3) := by decide +kernel
theorem dX5_init_172 : decode cX5_init 172 = .ok (.newarray .int, 2) := by decide +kernel
theorem dX5_init_174 : decode cX5_init 174 = .ok (.putfield 68, 3) := by decide +kernel
theorem dX5_init_177 : decode cX5_init 177 = .ok (.aload_n 0, 1) := by decide +kernel
theorem dX5_init_178 : decode cX5_init 178 = .ok (.sipush 160, 3) := by decide +kernel
theorem dX5_init_181 : decode cX5_init 181 = .ok (.newarray .int, 2) := by decide +kernel
theorem dX5_init_183 : decode cX5_init 183 = .ok (.putfield 71, 3) := by decide +kernel
theorem dX5_init_186 : decode cX5_init 186 = .ok (.aload_n 0, 1) := by decide +kernel
theorem dX5_init_187 : decode cX5_init 187 = .ok (.sipush 160, 3) := by decide +kernel
theorem dX5_init_190 : decode cX5_init 190 = .ok (.newarray .int, 2) := by decide +kernel
theorem dX5_init_192 : decode cX5_init 192 = .ok (.putfield 74, 3) := by decide +kernel
theorem dX5_init_195 : decode cX5_init 195 = .ok (.return_, 1) := by decide +kernel

